theorem dX12_greedy_0 : decode cX12_greedy 0 = .ok (.aload_n 0, 1) := by decide +kernel
theorem dX12_greedy_1 : decode cX12_greedy 1 = .ok (.iconst 0, 1) := by decide +kernel
theorem dX12_greedy_2 : decode cX12_greedy 2 = .ok (.putfield 77, 3) := by decide +kernel
theorem dX12_greedy_5 : decode cX12_greedy 5 = .ok (.aload_n 0, 1) := by decide +kernel
theorem dX12_greedy_6 : decode cX12_greedy 6 = .ok (.iload_n 1, 1) := by decide +kernel
theorem dX12_greedy_7 : decode cX12_greedy 7 = .ok (.iload_n 2, 1) := by decide +kernel
theorem dX12_greedy_8 : decode cX12_greedy 8 = .ok (.invokevirtual 323, 3) := by decide +kernel
theorem dX12_greedy_11 : decode cX12_greedy 11 = .ok (.ifCond .ne 7, 3) := by decide +kernel
theorem dX12_greedy_14 : decode cX12_greedy 14 = .ok (.ldc_w 426, 3) := by decide +kernel
theorem dX12_greedy_17 : decode cX12_greedy 17 = .ok (.ireturn, 1) := by decide +kernel
theorem dX12_greedy_18 : decode cX12_greedy 18 = .ok (.aload_n 0, 1) := by decide +kernel
theorem dX12_greedy_19 : decode cX12_greedy 19 = .ok (.invokevirtual 326, 3) := by decide +kernel
theorem dX12_greedy_22 : decode cX12_greedy 22 = .ok (.iconst 1, 1) := by decide +kernel
theorem dX12_greedy_23 : decode cX12_greedy 23 = .ok (.aload_n 0, 1) := by decide +kernel
theorem dX12_greedy_24 : decode cX12_greedy 24 = .ok (.invokevirtual 260, 3) := by decide +kernel
theorem dX12_greedy_27 : decode cX12_greedy 27 = .ok (.ishl, 1) := by decide +kernel
theorem dX12_greedy_28 : decode cX12_greedy 28 = .ok (.iconst 1, 1) := by decide +kernel
theorem dX12_greedy_29 : decode cX12_greedy 29 = .ok (.isub, 1) := by decide +kernel
theorem dX12_greedy_30 : decode cX12_greedy 30 = .ok (.istore_n 3, 1) := by decide +kernel
theorem dX12_greedy_31 : decode cX12_greedy 31 = .ok (.iconst 0, 1) := by decide +kernel
theorem dX12_greedy_32 : decode cX12_greedy 32 = .ok (.istore 4, 2) := by decide +kernel
theorem dX12_greedy_34 : decode cX12_greedy 34 = .ok (.iconst 1, 1) := by decide +kernel
theorem dX12_greedy_35 : decode cX12_greedy 35 = .ok (.istore 5, 2) := by decide +kernel
theorem dX12_greedy_37 : decode cX12_greedy 37 = .ok (.iconst 0, 1) := by decide +kernel
theorem dX12_greedy_38 : decode cX12_greedy 38 = .ok (.istore 6, 2) := by decide +kernel
theorem dX12_greedy_40 : decode cX12_greedy 40 = .ok (.iload_n 3, 1) := by decide +kernel
theorem dX12_greedy_41 : decode cX12_greedy 41 = .ok (.ifCond .eq 107, 3) := by decide +kernel
theorem dX12_greedy_44 : decode cX12_greedy 44 = .ok (.iconst (-1), 1) := by decide +kernel
theorem dX12_greedy_45 : decode cX12_greedy 45 = .ok (.istore 7, 2) := by decide +kernel
theorem dX12_greedy_47 : decode cX12_greedy 47 = .ok (.iconst 0, 1) := by decide +kernel
theorem dX12_greedy_48 : decode cX12_greedy 48 = .ok (.istore 8, 2) := by decide +kernel
theorem dX12_greedy_50 : decode cX12_greedy 50 = .ok (.iload 8, 2) := by decide +kernel
theorem dX12_greedy_52 : decode cX12_greedy 52 = .ok (.aload_n 0, 1) := by decide +kernel
theorem dX12_greedy_53 : decode cX12_greedy 53 = .ok (.invokevirtual 260, 3) := by decide +kernel
theorem dX12_greedy_56 : decode cX12_greedy 56 = .ok (.if_icmp .ge 53, 3) := by decide +kernel
theorem dX12_greedy_59 : decode cX12_greedy 59 = .ok (.iload_n 3, 1) := by decide +kernel
theorem dX12_greedy_60 : decode cX12_greedy 60 = .ok (.iload 8, 2) := by decide +kernel
theorem dX12_greedy_62 : decode cX12_greedy 62 = .ok (.invokestatic 420, 3) := by decide +kernel
theorem dX12_greedy_65 : decode cX12_greedy 65 = .ok (.ifCond .eq 38, 3) := by decide +kernel
theorem dX12_greedy_68 : decode cX12_greedy 68 = .ok (.iload 7, 2) := by decide +kernel
theorem dX12_greedy_70 : decode cX12_greedy 70 = .ok (.iconst (-1), 1) := by decide +kernel
theorem dX12_greedy_71 : decode cX12_greedy 71 = .ok (.if_icmp .eq 28, 3) := by decide +kernel
theorem dX12_greedy_74 : decode cX12_greedy 74 = .ok (.aload_n 0, 1) := by decide +kernel
theorem dX12_greedy_75 : decode cX12_greedy 75 = .ok (.iload_n 1, 1) := by decide +kernel
theorem dX12_greedy_76 : decode cX12_greedy 76 = .ok (.iload_n 2, 1) := by decide +kernel
theorem dX12_greedy_77 : decode cX12_greedy 77 = .ok (.iload 6, 2) := by decide +kernel
theorem dX12_greedy_79 : decode cX12_greedy 79 = .ok (.iadd, 1) := by decide +kernel
theorem dX12_greedy_80 : decode cX12_greedy 80 = .ok (.iload 8, 2) := by decide +kernel
theorem dX12_greedy_82 : decode cX12_greedy 82 = .ok (.invokevirtual 338, 3) := by decide +kernel
theorem dX12_greedy_85 : decode cX12_greedy 85 = .ok (.aload_n 0, 1) := by decide +kernel
theorem dX12_greedy_86 : decode cX12_greedy 86 = .ok (.iload_n 1, 1) := by decide +kernel
theorem dX12_greedy_87 : decode cX12_greedy 87 = .ok (.iload_n 2, 1) := by decide +kernel
theorem dX12_greedy_88 : decode cX12_greedy 88 = .ok (.iload 6, 2) := by decide +kernel
theorem dX12_greedy_90 : decode cX12_greedy 90 = .ok (.iadd, 1) := by decide +kernel
theorem dX12_greedy_91 : decode cX12_greedy 91 = .ok (.iload 7, 2) := by decide +kernel
theorem dX12_greedy_93 : decode cX12_greedy 93 = .ok (.invokevirtual 338, 3) := by decide +kernel
theorem dX12_greedy_96 : decode cX12_greedy 96 = .ok (.if_icmp .le 7, 3) := by decide +kernel
theorem dX12_greedy_99 : decode cX12_greedy 99 = .ok (.iload 8, 2) := by decide +kernel
theorem dX12_greedy_101 : decode cX12_greedy 101 = .ok (.istore 7, 2) := by decide +kernel
theorem dX12_greedy_103 : decode cX12_greedy 103 = .ok (.iinc 8 1, 3) := by decide +kernel
theorem dX12_greedy_106 : decode cX12_greedy 106 = .ok (.goto (-56), 3) := by decide +kernel
theorem dX12_greedy_109 : decode cX12_greedy 109 = .ok (.iload 4, 2) := by decide +kernel
theorem dX12_greedy_111 : decode cX12_greedy 111 = .ok (.iload 5, 2) := by decide +kernel
theorem dX12_greedy_113 : decode cX12_greedy 113 = .ok (.aload_n 0, 1) := by decide +kernel
theorem dX12_greedy_114 : decode cX12_greedy 114 = .ok (.iload_n 1, 1) := by decide +kernel
theorem dX12_greedy_115 : decode cX12_greedy 115 = .ok (.iload_n 2, 1) := by decide +kernel
theorem dX12_greedy_116 : decode cX12_greedy 116 = .ok (.iload 6, 2) := by decide +kernel
theorem dX12_greedy_118 : decode cX12_greedy 118 = .ok (.iadd, 1) := by decide +kernel
theorem dX12_greedy_119 : decode cX12_greedy 119 = .ok (.iload 7, 2) := by decide +kernel
theorem dX12_greedy_121 : decode cX12_greedy 121 = .ok (.invokevirtual 338, 3) := by decide +kernel
theorem dX12_greedy_124 : decode cX12_greedy 124 = .ok (.imul, 1) := by decide +kernel
theorem dX12_greedy_125 : decode cX12_greedy 125 = .ok (.iadd, 1) := by decide +kernel
theorem dX12_greedy_126 : decode cX12_greedy 126 = .ok (.istore 4, 2) := by decide +kernel
theorem dX12_greedy_128 : decode cX12_greedy 128 = .ok (.iload 5, 2) := by decide +kernel
theorem dX12_greedy_130 : decode cX12_greedy 130 = .ok (.ineg, 1) := by decide +kernel
theorem dX12_greedy_131 : decode cX12_greedy 131 = .ok (.istore 5, 2) := by decide +kernel
theorem dX12_greedy_133 : decode cX12_greedy 133 = .ok (.iload_n 3, 1) := by decide +kernel
theorem dX12_greedy_134 : decode cX12_greedy 134 = .ok (.iconst 1, 1) := by decide +kernel
theorem dX12_greedy_135 : decode cX12_greedy 135 = .ok (.iload 7, 2) := by decide +kernel
theorem dX12_greedy_137 : decode cX12_greedy 137 = .ok (.ishl, 1) := by decide +kernel
theorem dX12_greedy_138 : decode cX12_greedy 138 = .ok (.iconst (-1), 1) := by decide +kernel
theorem dX12_greedy_139 : decode cX12_greedy 139 = .ok (.ixor, 1) := by decide +kernel
theorem dX12_greedy_140 : decode cX12_greedy 140 = .ok (.iand, 1) := by decide +kernel
theorem dX12_greedy_141 : decode cX12_greedy 141 = .ok (.istore_n 3, 1) := by decide +kernel
theorem dX12_greedy_142 : decode cX12_greedy 142 = .ok (.iinc 6 1, 3) := by decide +kernel
theorem dX12_greedy_145 : decode cX12_greedy 145 = .ok (.goto (-105), 3) := by decide +kernel
theorem dX12_greedy_148 : decode cX12_greedy 148 = .ok (.iload 4, 2) := by decide +kernel
theorem dX12_greedy_150 : decode cX12_greedy 150 = .ok (.ireturn, 1) := by decide +kernel
theorem dX12_heirs_0 : decode cX12_heirs 0 = .ok (.aload_n 0, 1) := by decide +kernel
theorem dX12_heirs_1 : decode cX12_heirs 1 = .ok (.iconst 0, 1) := by decide +kernel
theorem dX12_heirs_2 : decode cX12_heirs 2 = .ok (.putfield 77, 3) := by decide +kernel
theorem dX12_heirs_5 : decode cX12_heirs 5 = .ok (.aload_n 0, 1) := by decide +kernel
theorem dX12_heirs_6 : decode cX12_heirs 6 = .ok (.iload_n 1, 1) := by decide +kernel
theorem dX12_heirs_7 : decode cX12_heirs 7 = .ok (.iload_n 2, 1) := by decide +kernel
theorem dX12_heirs_8 : decode cX12_heirs 8 = .ok (.invokevirtual 323, 3) := by decide +kernel
theorem dX12_heirs_11 : decode cX12_heirs 11 = .ok (.ifCond .ne 7, 3) := by decide +kernel
theorem dX12_heirs_14 : decode cX12_heirs 14 = .ok (.ldc_w 426, 3) := by decide +kernel
theorem dX12_heirs_17 : decode cX12_heirs 17 = .ok (.ireturn, 1) := by decide +kernel
theorem dX12_heirs_18 : decode cX12_heirs 18 = .ok (.aload_n 0, 1) := by decide +kernel
theorem dX12_heirs_19 : decode cX12_heirs 19 = .ok (.invokevirtual 326, 3) := by decide +kernel
theorem dX12_heirs_22 : decode cX12_heirs 22 = .ok (.aload_n 0, 1) := by decide +kernel
theorem dX12_heirs_23 : decode cX12_heirs 23 = .ok (.iload_n 1, 1) := by decide +kernel
theorem dX12_heirs_24 : decode cX12_heirs 24 = .ok (.iload_n 2, 1) := by decide +kernel
theorem dX12_heirs_25 : decode cX12_heirs 25 = .ok (.iconst 1, 1) := by decide +kernel
theorem dX12_heirs_26 : decode cX12_heirs 26 = .ok (.aload_n 0, 1) := by decide +kernel
theorem dX12_heirs_27 : decode cX12_heirs 27 = .ok (.invokevirtual 260, 3) := by decide +kernel
theorem dX12_heirs_30 : decode cX12_heirs 30 = .ok (.ishl, 1) := by decide +kernel
theorem dX12_heirs_31 : decode cX12_heirs 31 = .ok (.iconst 1, 1) := by decide +kernel
theorem dX12_heirs_32 : decode cX12_heirs 32 = .ok (.isub, 1) := by decide +kernel
theorem dX12_heirs_33 : decode cX12_heirs 33 = .ok (.invokevirtual 423, 3) := by decide +kernel
theorem dX12_heirs_36 : decode cX12_heirs 36 = .ok (.ireturn, 1) := by decide +kernel
theorem dX12_isSent_0 : decode cX12_isSent 0 = .ok (.aload_n 0, 1) := by decide +kernel
theorem dX12_isSent_1 : decode cX12_isSent 1 = .ok (.iload_n 1, 1) := by decide +kernel
theorem dX12_isSent_2 : decode cX12_isSent 2 = .ok (.iload_n 2, 1) := by decide +kernel
theorem dX12_isSent_3 : decode cX12_isSent 3 = .ok (.invokevirtual 323, 3) := by decide +kernel
theorem dX12_isSent_6 : decode cX12_isSent 6 = .ok (.ifCond .eq 29, 3) := by decide +kernel
theorem dX12_isSent_9 : decode cX12_isSent 9 = .ok (.aload_n 0, 1) := by decide +kernel
theorem dX12_isSent_10 : decode cX12_isSent 10 = .ok (.iload_n 3, 1) := by decide +kernel
theorem dX12_isSent_11 : decode cX12_isSent 11 = .ok (.i2l, 1) := by decide +kernel
theorem dX12_isSent_12 : decode cX12_isSent 12 = .ok (.invokevirtual 317, 3) := by decide +kernel
theorem dX12_isSent_15 : decode cX12_isSent 15 = .ok (.ifCond .eq 20, 3) := by decide +kernel
theorem dX12_isSent_18 : decode cX12_isSent 18 = .ok (.iload 4, 2) := by decide +kernel
theorem dX12_isSent_20 : decode cX12_isSent 20 = .ok (.i2l, 1) := by decide +kernel
theorem dX12_isSent_21 : decode cX12_isSent 21 = .ok (.lconst 0, 1) := by decide +kernel
theorem dX12_isSent_22 : decode cX12_isSent 22 = .ok (.ldc2_w 410, 3) := by decide +kernel
theorem dX12_isSent_25 : decode cX12_isSent 25 = .ok (.invokestatic 82, 3) := by decide +kernel
theorem dX12_isSent_28 : decode cX12_isSent 28 = .ok (.ifCond .eq 7, 3) := by decide +kernel
theorem dX12_isSent_31 : decode cX12_isSent 31 = .ok (.iconst 1, 1) := by decide +kernel
theorem dX12_isSent_32 : decode cX12_isSent 32 = .ok (.goto 4, 3) := by decide +kernel
theorem dX12_isSent_35 : decode cX12_isSent 35 = .ok (.iconst 0, 1) := by decide +kernel
theorem dX12_isSent_36 : decode cX12_isSent 36 = .ok (.ireturn, 1) := by decide +kernel
theorem dX12_power_0 : decode cX12_power 0 = .ok (.iload_n 2, 1) := by decide +kernel
theorem dX12_power_1 : decode cX12_power 1 = .ok (.ifCond .ne 7, 3) := by decide +kernel
theorem dX12_power_4 : decode cX12_power 4 = .ok (.lconst 1, 1) := by decide +kernel
theorem dX12_power_5 : decode cX12_power 5 = .ok (.goto 12, 3) := by decide +kernel
theorem dX12_power_8 : decode cX12_power 8 = .ok (.lload_n 0, 1) := by decide +kernel
theorem dX12_power_9 : decode cX12_power 9 = .ok (.lload_n 0, 1) := by decide +kernel
theorem dX12_power_10 : decode cX12_power 10 = .ok (.iload_n 2, 1) := by decide +kernel
theorem dX12_power_11 : decode cX12_power 11 = .ok (.iconst 1, 1) := by decide +kernel
theorem dX12_power_12 : decode cX12_power 12 = .ok (.isub, 1) := by decide +kernel
theorem dX12_power_13 : decode cX12_power 13 = .ok (.invokestatic 427, 3) := by decide +kernel
theorem dX12_power_16 : decode cX12_power 16 = .ok (.lmul, 1) := by decide +kernel
theorem dX12_power_17 : decode cX12_power 17 = .ok (.lreturn, 1) := by decide +kernel
theorem dX12_sizeOf_0 : decode cX12_sizeOf 0 = .ok (.iconst 0, 1) := by decide +kernel
theorem dX12_sizeOf_1 : decode cX12_sizeOf 1 = .ok (.istore_n 1, 1) := by decide +kernel
theorem dX12_sizeOf_2 : decode cX12_sizeOf 2 = .ok (.iload_n 0, 1) := by decide +kernel
theorem dX12_sizeOf_3 : decode cX12_sizeOf 3 = .ok (.istore_n 2, 1) := by decide +kernel
theorem dX12_sizeOf_4 : decode cX12_sizeOf 4 = .ok (.iload_n 2, 1) := by decide +kernel
theorem dX12_sizeOf_5 : decode cX12_sizeOf 5 = .ok (.ifCond .eq 15, 3) := by decide +kernel
theorem dX12_sizeOf_8 : decode cX12_sizeOf 8 = .ok (.iinc 1 1, 3) := by decide +kernel
theorem dX12_sizeOf_11 : decode cX12_sizeOf 11 = .ok (.iload_n 2, 1) := by decide +kernel
theorem dX12_sizeOf_12 : decode cX12_sizeOf 12 = .ok (.iload_n 2, 1) := by decide +kernel
theorem dX12_sizeOf_13 : decode cX12_sizeOf 13 = .ok (.iconst 1, 1) := by decide +kernel
theorem dX12_sizeOf_14 : decode cX12_sizeOf 14 = .ok (.isub, 1) := by decide +kernel
theorem dX12_sizeOf_15 : decode cX12_sizeOf 15 = .ok (.iand, 1) := by decide +kernel
theorem dX12_sizeOf_16 : decode cX12_sizeOf 16 = .ok (.istore_n 2, 1) := by decide +kernel
theorem dX12_sizeOf_17 : decode cX12_sizeOf 17 = .ok (.goto (-13), 3) := by decide +kernel
theorem dX12_sizeOf_20 : decode cX12_sizeOf 20 = .ok (.iload_n 1, 1) := by decide +kernel
theorem dX12_sizeOf_21 : decode cX12_sizeOf 21 = .ok (.ireturn, 1) := by decide +kernel
theorem dX12_takes__0 : decode cX12_takes_ 0 = .ok (.aload_n 0, 1) := by decide +kernel
theorem dX12_takes__1 : decode cX12_takes_ 1 = .ok (.iconst 0, 1) := by decide +kernel
theorem dX12_takes__2 : decode cX12_takes_ 2 = .ok (.putfield 77, 3) := by decide +kernel
theorem dX12_takes__5 : decode cX12_takes_ 5 = .ok (.aload_n 0, 1) := by decide +kernel
theorem dX12_takes__6 : decode cX12_takes_ 6 = .ok (.iload_n 1, 1) := by decide +kernel
theorem dX12_takes__7 : decode cX12_takes_ 7 = .ok (.iload_n 2, 1) := by decide +kernel
theorem dX12_takes__8 : decode cX12_takes_ 8 = .ok (.invokevirtual 323, 3) := by decide +kernel
theorem dX12_takes__11 : decode cX12_takes_ 11 = .ok (.ifCond .ne 6, 3) := by decide +kernel
theorem dX12_takes__14 : decode cX12_takes_ 14 = .ok (.bipush (-2), 2) := by decide +kernel
theorem dX12_takes__16 : decode cX12_takes_ 16 = .ok (.ireturn, 1) := by decide +kernel
theorem dX12_takes__17 : decode cX12_takes_ 17 = .ok (.aload_n 0, 1) := by decide +kernel
theorem dX12_takes__18 : decode cX12_takes_ 18 = .ok (.invokevirtual 326, 3) := by decide +kernel
theorem dX12_takes__21 : decode cX12_takes_ 21 = .ok (.iconst 1, 1) := by decide +kernel
theorem dX12_takes__22 : decode cX12_takes_ 22 = .ok (.aload_n 0, 1) := by decide +kernel
theorem dX12_takes__23 : decode cX12_takes_ 23 = .ok (.invokevirtual 260, 3) := by decide +kernel
theorem dX12_takes__26 : decode cX12_takes_ 26 = .ok (.ishl, 1) := by decide +kernel
theorem dX12_takes__27 : decode cX12_takes_ 27 = .ok (.iconst 1, 1) := by decide +kernel
theorem dX12_takes__28 : decode cX12_takes_ 28 = .ok (.isub, 1) := by decide +kernel
theorem dX12_takes__29 : decode cX12_takes_ 29 = .ok (.istore_n 3, 1) := by decide +kernel
theorem dX12_takes__30 : decode cX12_takes_ 30 = .ok (.aload_n 0, 1) := by decide +kernel
theorem dX12_takes__31 : decode cX12_takes_ 31 = .ok (.iload_n 1, 1) := by decide +kernel
theorem dX12_takes__32 : decode cX12_takes_ 32 = .ok (.iload_n 2, 1) := by decide +kernel
theorem dX12_takes__33 : decode cX12_takes_ 33 = .ok (.iload_n 3, 1) := by decide +kernel
theorem dX12_takes__34 : decode cX12_takes_ 34 = .ok (.invokevirtual 423, 3) := by decide +kernel
theorem dX12_takes__37 : decode cX12_takes_ 37 = .ok (.istore 4, 2) := by decide +kernel
theorem dX12_takes__39 : decode cX12_takes_ 39 = .ok (.iconst 0, 1) := by decide +kernel
theorem dX12_takes__40 : decode cX12_takes_ 40 = .ok (.istore 5, 2) := by decide +kernel
theorem dX12_takes__42 : decode cX12_takes_ 42 = .ok (.iload 5, 2) := by decide +kernel
theorem dX12_takes__44 : decode cX12_takes_ 44 = .ok (.aload_n 0, 1) := by decide +kernel
theorem dX12_takes__45 : decode cX12_takes_ 45 = .ok (.invokevirtual 260, 3) := by decide +kernel
theorem dX12_takes__48 : decode cX12_takes_ 48 = .ok (.if_icmp .ge 42, 3) := by decide +kernel
theorem dX12_takes__51 : decode cX12_takes_ 51 = .ok (.aload_n 0, 1) := by decide +kernel
theorem dX12_takes__52 : decode cX12_takes_ 52 = .ok (.iload_n 1, 1) := by decide +kernel
theorem dX12_takes__53 : decode cX12_takes_ 53 = .ok (.iload_n 2, 1) := by decide +kernel
theorem dX12_takes__54 : decode cX12_takes_ 54 = .ok (.iload 5, 2) := by decide +kernel
theorem dX12_takes__56 : decode cX12_takes_ 56 = .ok (.invokevirtual 338, 3) := by decide +kernel
theorem dX12_takes__59 : decode cX12_takes_ 59 = .ok (.aload_n 0, 1) := by decide +kernel
theorem dX12_takes__60 : decode cX12_takes_ 60 = .ok (.iload_n 1, 1) := by decide +kernel
theorem dX12_takes__61 : decode cX12_takes_ 61 = .ok (.iload_n 2, 1) := by decide +kernel
theorem dX12_takes__62 : decode cX12_takes_ 62 = .ok (.iconst 1, 1) := by decide +kernel
theorem dX12_takes__63 : decode cX12_takes_ 63 = .ok (.iadd, 1) := by decide +kernel
theorem dX12_takes__64 : decode cX12_takes_ 64 = .ok (.iload_n 3, 1) := by decide +kernel
theorem dX12_takes__65 : decode cX12_takes_ 65 = .ok (.iconst 1, 1) := by decide +kernel
theorem dX12_takes__66 : decode cX12_takes_ 66 = .ok (.iload 5, 2) := by decide +kernel
theorem dX12_takes__68 : decode cX12_takes_ 68 = .ok (.ishl, 1) := by decide +kernel
theorem dX12_takes__69 : decode cX12_takes_ 69 = .ok (.iconst (-1), 1) := by decide +kernel
theorem dX12_takes__70 : decode cX12_takes_ 70 = .ok (.ixor, 1) := by decide +kernel
theorem dX12_takes__71 : decode cX12_takes_ 71 = .ok (.iand, 1) := by decide +kernel
theorem dX12_takes__72 : decode cX12_takes_ 72 = .ok (.invokevirtual 423, 3) := by decide +kernel
theorem dX12_takes__75 : decode cX12_takes_ 75 = .ok (.isub, 1) := by decide +kernel
theorem dX12_takes__76 : decode cX12_takes_ 76 = .ok (.iload 4, 2) := by decide +kernel
theorem dX12_takes__78 : decode cX12_takes_ 78 = .ok (.if_icmp .ne 6, 3) := by decide +kernel
theorem dX12_takes__81 : decode cX12_takes_ 81 = .ok (.iload 5, 2) := by decide +kernel
theorem dX12_takes__83 : decode cX12_takes_ 83 = .ok (.ireturn, 1) := by decide +kernel
theorem dX12_takes__84 : decode cX12_takes_ 84 = .ok (.iinc 5 1, 3) := by decide +kernel
theorem dX12_takes__87 : decode cX12_takes_ 87 = .ok (.goto (-45), 3) := by decide +kernel
theorem dX12_takes__90 : decode cX12_takes_ 90 = .ok (.iconst (-1), 1) := by decide +kernel
theorem dX12_takes__91 : decode cX12_takes_ 91 = .ok (.ireturn, 1) := by decide +kernel
theorem dX12_weightOf_0 : decode cX12_weightOf 0 = .ok (.aload_n 0, 1) := by decide +kernel
theorem dX12_weightOf_1 : decode cX12_weightOf 1 = .ok (.invokevirtual 326, 3) := by decide +kernel
theorem dX12_weightOf_4 : decode cX12_weightOf 4 = .ok (.lconst 0, 1) := by decide +kernel
theorem dX12_weightOf_5 : decode cX12_weightOf 5 = .ok (.lstore 6, 2) := by decide +kernel
theorem dX12_weightOf_7 : decode cX12_weightOf 7 = .ok (.iconst 0, 1) := by decide +kernel
theorem dX12_weightOf_8 : decode cX12_weightOf 8 = .ok (.istore 8, 2) := by decide +kernel
theorem dX12_weightOf_10 : decode cX12_weightOf 10 = .ok (.iload 8, 2) := by decide +kernel
theorem dX12_weightOf_12 : decode cX12_weightOf 12 = .ok (.iconst 1, 1) := by decide +kernel
theorem dX12_weightOf_13 : decode cX12_weightOf 13 = .ok (.iload 4, 2) := by decide +kernel
theorem dX12_weightOf_15 : decode cX12_weightOf 15 = .ok (.ishl, 1) := by decide +kernel
theorem dX12_weightOf_16 : decode cX12_weightOf 16 = .ok (.if_icmp .ge 95, 3) := by decide +kernel
theorem dX12_weightOf_19 : decode cX12_weightOf 19 = .ok (.iload 8, 2) := by decide +kernel
theorem dX12_weightOf_21 : decode cX12_weightOf 21 = .ok (.invokestatic 430, 3) := by decide +kernel
theorem dX12_weightOf_24 : decode cX12_weightOf 24 = .ok (.istore 9, 2) := by decide +kernel
theorem dX12_weightOf_26 : decode cX12_weightOf 26 = .ok (.aload_n 0, 1) := by decide +kernel
theorem dX12_weightOf_27 : decode cX12_weightOf 27 = .ok (.getfield 34, 3) := by decide +kernel
theorem dX12_weightOf_30 : decode cX12_weightOf 30 = .ok (.iconst 0, 1) := by decide +kernel
theorem dX12_weightOf_31 : decode cX12_weightOf 31 = .ok (.iaload, 1) := by decide +kernel
theorem dX12_weightOf_32 : decode cX12_weightOf 32 = .ok (.i2l, 1) := by decide +kernel
theorem dX12_weightOf_33 : decode cX12_weightOf 33 = .ok (.iload 9, 2) := by decide +kernel
theorem dX12_weightOf_35 : decode cX12_weightOf 35 = .ok (.invokestatic 427, 3) := by decide +kernel
theorem dX12_weightOf_38 : decode cX12_weightOf 38 = .ok (.ldc2_w 433, 3) := by decide +kernel
theorem dX12_weightOf_41 : decode cX12_weightOf 41 = .ok (.aload_n 0, 1) := by decide +kernel
theorem dX12_weightOf_42 : decode cX12_weightOf 42 = .ok (.getfield 34, 3) := by decide +kernel
theorem dX12_weightOf_45 : decode cX12_weightOf 45 = .ok (.iconst 0, 1) := by decide +kernel
theorem dX12_weightOf_46 : decode cX12_weightOf 46 = .ok (.iaload, 1) := by decide +kernel
theorem dX12_weightOf_47 : decode cX12_weightOf 47 = .ok (.i2l, 1) := by decide +kernel
theorem dX12_weightOf_48 : decode cX12_weightOf 48 = .ok (.lsub, 1) := by decide +kernel
theorem dX12_weightOf_49 : decode cX12_weightOf 49 = .ok (.iload 4, 2) := by decide +kernel
theorem dX12_weightOf_51 : decode cX12_weightOf 51 = .ok (.iload 9, 2) := by decide +kernel
theorem dX12_weightOf_53 : decode cX12_weightOf 53 = .ok (.isub, 1) := by decide +kernel
theorem dX12_weightOf_54 : decode cX12_weightOf 54 = .ok (.invokestatic 427, 3) := by decide +kernel
theorem dX12_weightOf_57 : decode cX12_weightOf 57 = .ok (.lmul, 1) := by decide +kernel
theorem dX12_weightOf_58 : decode cX12_weightOf 58 = .ok (.lstore 10, 2) := by decide +kernel
theorem dX12_weightOf_60 : decode cX12_weightOf 60 = .ok (.aload_n 0, 1) := by decide +kernel
theorem dX12_weightOf_61 : decode cX12_weightOf 61 = .ok (.iload_n 1, 1) := by decide +kernel
theorem dX12_weightOf_62 : decode cX12_weightOf 62 = .ok (.iload_n 2, 1) := by decide +kernel
theorem dX12_weightOf_63 : decode cX12_weightOf 63 = .ok (.iload 9, 2) := by decide +kernel
theorem dX12_weightOf_65 : decode cX12_weightOf 65 = .ok (.iadd, 1) := by decide +kernel
theorem dX12_weightOf_66 : decode cX12_weightOf 66 = .ok (.iload_n 3, 1) := by decide +kernel
theorem dX12_weightOf_67 : decode cX12_weightOf 67 = .ok (.invokevirtual 338, 3) := by decide +kernel
theorem dX12_weightOf_70 : decode cX12_weightOf 70 = .ok (.istore 12, 2) := by decide +kernel
theorem dX12_weightOf_72 : decode cX12_weightOf 72 = .ok (.lload 6, 2) := by decide +kernel
theorem dX12_weightOf_74 : decode cX12_weightOf 74 = .ok (.lload 10, 2) := by decide +kernel
theorem dX12_weightOf_76 : decode cX12_weightOf 76 = .ok (.iload 5, 2) := by decide +kernel
theorem dX12_weightOf_78 : decode cX12_weightOf 78 = .ok (.ifCond .eq 8, 3) := by decide +kernel
theorem dX12_weightOf_86 : decode cX12_weightOf 86 = .ok (.iload 12, 2) := by decide +kernel
theorem dX12_weightOf_88 : decode cX12_weightOf 88 = .ok (.aload_n 0, 1) := by decide +kernel
theorem dX12_weightOf_89 : decode cX12_weightOf 89 = .ok (.invokevirtual 308, 3) := by decide +kernel
theorem dX12_weightOf_92 : decode cX12_weightOf 92 = .ok (.if_icmp .le 7, 3) := by decide +kernel
theorem dX12_weightOf_95 : decode cX12_weightOf 95 = .ok (.iconst 1, 1) := by decide +kernel
theorem dX12_weightOf_96 : decode cX12_weightOf 96 = .ok (.goto 4, 3) := by decide +kernel
theorem dX12_weightOf_99 : decode cX12_weightOf 99 = .ok (.iconst 0, 1) := by decide +kernel
theorem dX12_weightOf_100 : decode cX12_weightOf 100 = .ok (.i2l, 1) := by decide +kernel
theorem dX12_weightOf_101 : decode cX12_weightOf 101 = .ok (.lmul, 1) := by decide +kernel
theorem dX12_weightOf_102 : decode cX12_weightOf 102 = .ok (.ladd, 1) := by decide +kernel
theorem dX12_weightOf_103 : decode cX12_weightOf 103 = .ok (.lstore 6, 2) := by decide +kernel
theorem dX12_weightOf_105 : decode cX12_weightOf 105 = .ok (.iinc 8 1, 3) := by decide +kernel
theorem dX12_weightOf_108 : decode cX12_weightOf 108 = .ok (.goto (-98), 3) := by decide +kernel
theorem dX12_weightOf_111 : decode cX12_weightOf 111 = .ok (.lload 6, 2) := by decide +kernel
theorem dX12_weightOf_113 : decode cX12_weightOf 113 = .ok (.lreturn, 1) := by decide +kernel
theorem mm_km100000 : mm_rg (-100000) (-100000) (-100000) := ⟨by decide, by decide⟩
theorem hs_X12_power : yX12_power.cls ≠ "java/lang/invoke/MethodHandle" ∧ yX12_power.cls ≠ "java/lang/invoke/VarHandle" ∧ (parseMethodDescriptor yX12_power.desc).map (fun d => d.parameters.length) = some 2 := by decide +kernel
theorem hs_X12_sizeOf : yX12_sizeOf.cls ≠ "java/lang/invoke/MethodHandle" ∧ yX12_sizeOf.cls ≠ "java/lang/invoke/VarHandle" ∧ (parseMethodDescriptor yX12_sizeOf.desc).map (fun d => d.parameters.length) = some 1 := by decide +kernel
set_option maxHeartbeats 4000000 in
set_option maxRecDepth 100000 in
theorem M235_X12_heirsOf (l : Launch) (G : va_G) (cy : Nat → ClassId) (sz : Nat) (a_0 : Nat) (i_0 : Int32) (i_1 : Int32) (i_2 : Int32) (i_3 : Int32) (a_1 : Nat) (a_2 : Nat) (a_3 : Nat) (a_4 : Nat) (a_5 : Nat) (i_4 : Int32) (i_5 : Int32) (i_6 : Int32) (i_7 : Int32) (i_8 : Int32) (j_0 : Int64) (i_9 : Int32) (i_10 : Int32) (i_11 : Int32) (i_12 : Int32) (a_6 : Nat) (a_7 : Nat) (a_8 : Nat) (a_9 : Nat) (a_10 : Nat) (a_11 : Nat) (a_12 : Nat) (a_13 : Nat) (a_14 : Nat) (a_15 : Nat) (a_16 : Nat) (a_17 : Nat) (a_18 : Nat) (i_13 : Int32) (i_14 : Int32) (i_15 : Int32) (i_16 : Int32) (i_17 : Int32) (i_18 : Int32) (a_19 : Nat) (i_19 : Int32) (a_20 : Nat) (i_20 : Int32) (i_21 : Int32) (i_22 : Int32) (i_23 : Int32) (i_24 : Int32) (i_25 : Int32) (i_26 : Int32) (i_27 : Int32) (i_28 : Int32) (i_29 : Int32) (i_30 : Int32) (i_31 : Int32) (i_32 : Int32) (i_33 : Int32) (i_34 : Int32) (i_35 : Int32) (i_36 : Int32) (i_37 : Int32) (i_38 : Int32) (i_39 : Int32) (i_40 : Int32) (i_41 : Int32) (i_42 : Int32) (i_43 : Int32) (i_44 : Int32) (i_45 : Int32) (i_46 : Int32) (i_47 : Int32) (i_48 : Int32) (i_49 : Int32) (f_0 : Nat → Int32) (f_1 : Nat → Int32) (f_2 : Nat → Int32) (f_3 : Nat → Int32) (f_4 : Nat → Int32) (f_5 : Nat → Int32) (f_6 : Nat → Int32) (h0 : mm_rg i_0 0 2) (h1 : mm_rg i_1 0 1000000005) (h2 : mm_rg i_2 0 63) (h3 : mm_rg i_13 0 8) (h4 : mm_rg i_20 0 10) (h5 : mm_rg i_21 0 99) (h6 : mm_rg i_22 0 9) (h7 : mm_rg i_23 0 3) (h8 : mm_rg i_24 0 6) (h9 : mm_rg i_25 0 30) (h10 : mm_rg i_26 0 10) (h11 : mm_rg i_27 0 99) (h12 : mm_rg i_28 0 9) (h13 : mm_rg i_29 0 3) (h14 : mm_rg i_30 0 6) (h15 : mm_rg i_31 0 30) (h16 : mm_rg i_32 0 10) (h17 : mm_rg i_33 0 99) (h18 : mm_rg i_34 0 9) (h19 : mm_rg i_35 0 3) (h20 : mm_rg i_36 0 6) (h21 : mm_rg i_37 0 30) (h22 : mm_rg i_38 0 10) (h23 : mm_rg i_39 0 99) (h24 : mm_rg i_40 0 9) (h25 : mm_rg i_41 0 3) (h26 : mm_rg i_42 0 6) (h27 : mm_rg i_43 0 30) (h28 : mm_rg i_44 0 10) (h29 : mm_rg i_45 0 99) (h30 : mm_rg i_46 0 9) (h31 : mm_rg i_47 0 3) (h32 : mm_rg i_48 0 6) (h33 : mm_rg i_49 0 30) (h34 : mm_ar f_0 0 99) (h35 : mm_ar f_1 0 8) (h36 : mm_ar f_2 0 9) (h37 : mm_ar f_3 (-1) 99) (h38 : mm_ar f_4 0 9) (h39 : mm_ar f_5 0 210) (h40 : mm_ar f_6 0 9) (h41 : mm_txs f_1 f_2 0 i_22 i_24) (h42 : mm_acs f_3 0 i_22 i_23 i_25) (h43 : mm_txs f_1 f_2 1 i_28 i_30) (h44 : mm_acs f_3 1 i_28 i_29 i_31) (h45 : mm_txs f_1 f_2 2 i_34 i_36) (h46 : mm_acs f_3 2 i_34 i_35 i_37) (h47 : mm_txs f_1 f_2 3 i_40 i_42) (h48 : mm_acs f_3 3 i_40 i_41 i_43) (h49 : mm_f1 f_5 i_0) (h50 : mm_pc 2 i_2)  : mm_CI l yX12_heirsOf (mm_ws yX12_heirsOf cX12_heirsOf 7 (some .int)) ({ frames := 4, cells := 0, slots := 0, locals := 99 } : Room) G cy sz [(a_0, .inr (12, [.int i_3, .ref a_1, .ref a_2, .ref a_3, .ref a_4, .ref a_5, .int i_4, .int i_5, .int i_6, .int i_7, .int i_8, .long j_0, .int i_9, .int i_10, .int i_11, .int i_12, .ref a_6, .ref a_7, .ref a_8, .ref a_9, .ref a_10, .ref a_11, .ref a_12, .ref a_13, .ref a_14, .ref a_15, .ref a_16, .ref a_17, .ref a_18, .int i_13, .int i_14, .int i_15, .int i_16, .int i_17, .int i_18, .ref a_19, .int i_19, .ref a_20])), (a_7, .inl (cy 1, 30, .inl (mm_g [i_20, i_21, i_22, i_23, i_24, i_25, i_26, i_27, i_28, i_29, i_30, i_31, i_32, i_33, i_34, i_35, i_36, i_37, i_38, i_39, i_40, i_41, i_42, i_43, i_44, i_45, i_46, i_47, i_48, i_49]))), (a_8, .inl (cy 1, 90, .inl f_0)), (a_11, .inl (cy 1, 30, .inl f_1)), (a_12, .inl (cy 1, 240, .inl f_2)), (a_13, .inl (cy 1, 450, .inl f_3)), (a_15, .inl (cy 1, 7200, .inl f_4)), (a_16, .inl (cy 1, 3, .inl f_5)), (a_18, .inl (cy 1, 8, .inl f_6))] [.ref a_0, .int i_0, .int i_1, .int i_2] (fun u : Int32 × Int32 × Int32 × (Nat → Int32) => [(a_0, .inr (12, [.int i_3, .ref a_1, .ref a_2, .ref a_3, .ref a_4, .ref a_5, .int i_4, .int i_5, .int i_6, .int i_7, .int i_8, .long j_0, .int i_9, .int i_10, .int i_11, .int i_12, .ref a_6, .ref a_7, .ref a_8, .ref a_9, .ref a_10, .ref a_11, .ref a_12, .ref a_13, .ref a_14, .ref a_15, .ref a_16, .ref a_17, .ref a_18, .int u.1, .int u.2.1, .int u.2.2.1, .int i_16, .int i_17, .int i_18, .ref a_19, .int i_19, .ref a_20])), (a_7, .inl (cy 1, 30, .inl (mm_g [i_20, i_21, i_22, i_23, i_24, i_25, i_26, i_27, i_28, i_29, i_30, i_31, i_32, i_33, i_34, i_35, i_36, i_37, i_38, i_39, i_40, i_41, i_42, i_43, i_44, i_45, i_46, i_47, i_48, i_49]))), (a_8, .inl (cy 1, 90, .inl f_0)), (a_11, .inl (cy 1, 30, .inl f_1)), (a_12, .inl (cy 1, 240, .inl f_2)), (a_13, .inl (cy 1, 450, .inl f_3)), (a_15, .inl (cy 1, 7200, .inl f_4)), (a_16, .inl (cy 1, 3, .inl f_5)), (a_18, .inl (cy 1, 8, .inl u.2.2.2))]) (fun (r : Int32) (u : Int32 × Int32 × Int32 × (Nat → Int32)) => mm_rg u.1 0 8 ∧ mm_ar u.2.2.2 0 9 ∧ mm_rg r (-1000000) 1009999) 0 0 := by
  refine mm_begin (lv := [(0, .ref a_0), (1, .int i_0), (2, .int i_1), (3, .int i_2)]) (by decide) (Nat.le_of_ble_eq_true rfl) rfl ?_
  intro p e s m below meth c A ls R args Q H locs hRe hQ hAe hx hb hr hlocks hml hown hnm hts hsz hA hS hP hK hD hZ hl
  have hRf : R.frames = 4 := by rw [hRe]
  have hRl : R.locals = 99 := by rw [hRe]
  have hRc : R.cells = 0 := by rw [hRe]
  have hRs : R.slots = 0 := by rw [hRe]
  refine lv_iload_n hx hb dX12_heirsOf_0 rfl (lv_at hl 3 rfl) ?_
  refine lv_if_ne (tgt := 8) hx hb dX12_heirsOf_1 (by decide) (fun c1 => ?_) (fun c1 => ?_)
  · have q2 := mm_neL (lo := 1) (mm_ne c1) h2 mm_k0 (by decide) (by decide)
    refine lv_ldcw (v := (-1000000)) hx hb hown (mm_h hts mm_w1460) dX12_heirsOf_8 ?_
    refine lv_istore (lv' := [(4, .int (-1000000)), (0, .ref a_0), (1, .int i_0), (2, .int i_1), (3, .int i_2)]) hx hb dX12_heirsOf_11 hl (by decide) rfl ?_
    clear hl
    clear ls
    intro ls hl
    refine lv_iconst (v := 0) hx hb dX12_heirsOf_13 (by decide) ?_
    refine lv_istore (lv' := [(5, .int 0), (4, .int (-1000000)), (0, .ref a_0), (1, .int i_0), (2, .int i_1), (3, .int i_2)]) hx hb dX12_heirsOf_14 hl (by decide) rfl ?_
    clear hl
    clear ls
    intro ls hl
    have L16_311 : ∀ (n : Nat) (x16_5_306 : Int32) (x16_4_307 : Int32) (y16_0_29_308 : Int32) (y16_0_30_309 : Int32) (y16_0_31_310 : Int32) (z16_8_311 : Nat → Int32), mm_rg x16_5_306 0 6 → mm_rg x16_4_307 (-1000000) 1009999 → mm_rg y16_0_29_308 0 8 → mm_ar z16_8_311 0 9 → (6 - x16_5_306.toInt).toNat < n → ∀ (H : Heap) (locs : List Loc), va_P G vwCl [(a_0, .inr (12, [.int i_3, .ref a_1, .ref a_2, .ref a_3, .ref a_4, .ref a_5, .int i_4, .int i_5, .int i_6, .int i_7, .int i_8, .long j_0, .int i_9, .int i_10, .int i_11, .int i_12, .ref a_6, .ref a_7, .ref a_8, .ref a_9, .ref a_10, .ref a_11, .ref a_12, .ref a_13, .ref a_14, .ref a_15, .ref a_16, .ref a_17, .ref a_18, .int y16_0_29_308, .int y16_0_30_309, .int y16_0_31_310, .int i_16, .int i_17, .int i_18, .ref a_19, .int i_19, .ref a_20])), (a_7, .inl (cy 1, 30, .inl (mm_g [i_20, i_21, i_22, i_23, i_24, i_25, i_26, i_27, i_28, i_29, i_30, i_31, i_32, i_33, i_34, i_35, i_36, i_37, i_38, i_39, i_40, i_41, i_42, i_43, i_44, i_45, i_46, i_47, i_48, i_49]))), (a_8, .inl (cy 1, 90, .inl f_0)), (a_11, .inl (cy 1, 30, .inl f_1)), (a_12, .inl (cy 1, 240, .inl f_2)), (a_13, .inl (cy 1, 450, .inl f_3)), (a_15, .inl (cy 1, 7200, .inl f_4)), (a_16, .inl (cy 1, 3, .inl f_5)), (a_18, .inl (cy 1, 8, .inl z16_8_311))] H → va_D A [(a_0, .inr (12, [.int i_3, .ref a_1, .ref a_2, .ref a_3, .ref a_4, .ref a_5, .int i_4, .int i_5, .int i_6, .int i_7, .int i_8, .long j_0, .int i_9, .int i_10, .int i_11, .int i_12, .ref a_6, .ref a_7, .ref a_8, .ref a_9, .ref a_10, .ref a_11, .ref a_12, .ref a_13, .ref a_14, .ref a_15, .ref a_16, .ref a_17, .ref a_18, .int y16_0_29_308, .int y16_0_30_309, .int y16_0_31_310, .int i_16, .int i_17, .int i_18, .ref a_19, .int i_19, .ref a_20])), (a_7, .inl (cy 1, 30, .inl (mm_g [i_20, i_21, i_22, i_23, i_24, i_25, i_26, i_27, i_28, i_29, i_30, i_31, i_32, i_33, i_34, i_35, i_36, i_37, i_38, i_39, i_40, i_41, i_42, i_43, i_44, i_45, i_46, i_47, i_48, i_49]))), (a_8, .inl (cy 1, 90, .inl f_0)), (a_11, .inl (cy 1, 30, .inl f_1)), (a_12, .inl (cy 1, 240, .inl f_2)), (a_13, .inl (cy 1, 450, .inl f_3)), (a_15, .inl (cy 1, 7200, .inl f_4)), (a_16, .inl (cy 1, 3, .inl f_5)), (a_18, .inl (cy 1, 8, .inl z16_8_311))] → va_S A s.heap H locs → ∀ (ls : Array Slot), lv_has ls 7 [(5, .int x16_5_306), (4, .int x16_4_307), (0, .ref a_0), (1, .int i_0), (2, .int i_1), (3, .int i_2)] → W p l e R s m args below meth c H locs 0 0 Q (F0 m 16 ls []) := by
      intro n
      induction n with
      | zero => intro x16_5_306 x16_4_307 y16_0_29_308 y16_0_30_309 y16_0_31_310 z16_8_311 rx16_5_306 rx16_4_307 ry16_0_29_308 rz16_8_311 hm; exact absurd hm (Nat.not_lt_zero _)
      | succ n ih16 =>
        intro x16_5_306 x16_4_307 y16_0_29_308 y16_0_30_309 y16_0_31_310 z16_8_311 rx16_5_306 rx16_4_307 ry16_0_29_308 rz16_8_311 hm16 H locs hP hD hS ls hl
        refine lv_iload hx hb dX12_heirsOf_16 (lv_at hl 0 rfl) ?_
        refine lv_aload_n hx hb dX12_heirsOf_18 rfl (lv_at hl 2 rfl) ?_
        refine mm_finir (va_runV (As := []) (rest := [.int x16_5_306]) ⟨hx, hb, hml, hown, hts⟩ (M95_X12_texts l G cy H.size a_0 i_3 a_1 a_2 a_3 a_4 a_5 i_4 i_5 i_6 i_7 i_8 j_0 i_9 i_10 i_11 i_12 a_6 a_7 a_8 a_9 a_10 a_11 a_12 a_13 a_14 a_15 a_16 a_17 a_18 y16_0_29_308 y16_0_30_309 y16_0_31_310 i_16 i_17 i_18 a_19 i_19 a_20 i_20 i_21 i_22 i_23 i_24 i_25 i_26 i_27 i_28 i_29 i_30 i_31 i_32 i_33 i_34 i_35 i_36 i_37 i_38 i_39 i_40 i_41 i_42 i_43 i_44 i_45 i_46 i_47 i_48 i_49 h4 h5 h6 h7 h8 h9 h10 h11 h12 h13 h14 h15 h16 h17 h18 h19 h20 h21 h22 h23 h24 h25 h26 h27 h28 h29 h30 h31 h32 h33) (cwV 0 hts (mm_gV mm_w617 mm_w618 mm_w619 mm_w5 mm_w620) rfl rfl rfl hd_X12_texts ⟨by rw [hRf]; exact Nat.le_of_ble_eq_true rfl, by rw [hRl]; exact Nat.le_of_ble_eq_true rfl⟩) (mm_preV hK hZ hS hA hP hD [0, 1] rfl rfl 0 rfl rfl rfl) rfl rfl hl.1 rfl (lv_room (Nat.le_of_ble_eq_true rfl)) dX12_heirsOf_19 ⟨by rw [hRc]; exact Nat.le_of_ble_eq_true rfl, by rw [hRs]; exact Nat.le_of_ble_eq_true rfl⟩) hP hD hS hA [0, 1] rfl (fun _ => rfl) ?_
        clear hP hD hS
        clear H locs
        intro v313 _u H locs hw hP hD hS
        subst hw
        refine lv_icmp_ge (tgt := 86) hx hb dX12_heirsOf_22 (by decide) (fun c314 => ?_) (fun c314 => ?_)
        · refine lv_iload hx hb dX12_heirsOf_86 (lv_at hl 1 rfl) ?_
          subst hAe
          rw [hQ]
          exact W.iret (v := x16_4_307) hx hb hr (fun t ht hW => ⟨⟨x16_4_307, (y16_0_29_308, y16_0_30_309, y16_0_31_310, z16_8_311), rfl, ⟨ry16_0_29_308, rz16_8_311, rx16_4_307⟩, by rw [ht]; exact hP, hK.warm hW, hD⟩, hS.F ht⟩) hS.2.2 dX12_heirsOf_88
        · have q315 := mm_ltL (h := 5) (mm_nle c314) rx16_5_306 h8 (by decide)
          have q316 := mm_ltR (lo := 1) (mm_nle c314) rx16_5_306 h8 (by decide)
          refine lv_iload_n hx hb dX12_heirsOf_25 rfl (lv_at hl 5 rfl) ?_
          refine lv_iload hx hb dX12_heirsOf_26 (lv_at hl 0 rfl) ?_
          refine mm_finir (va_runS (As := [.int i_2, .int x16_5_306]) (rest := []) ⟨hx, hb, hml, hown, hts⟩ (M232_X12_isBit l G cy H.size i_2 x16_5_306 (mm_wk q2 (by decide)) q315) (va_cwS 2 hts (mm_gS mm_w1461 mm_w1462 mm_w5 mm_w1463) rfl rfl rfl hs_X12_isBit ⟨by rw [hRf]; exact Nat.le_of_ble_eq_true rfl, by rw [hRl]; exact Nat.le_of_ble_eq_true rfl⟩) (mm_preS hK hZ hS hA hP hD [] rfl rfl) rfl rfl hl.1 rfl (lv_room (Nat.le_of_ble_eq_true rfl)) dX12_heirsOf_28 ⟨by rw [hRc]; exact Nat.le_of_ble_eq_true rfl, by rw [hRs]; exact Nat.le_of_ble_eq_true rfl⟩) hP hD hS hA [] rfl (fun _ => rfl) ?_
          clear hP hD hS
          clear H locs
          intro v317 _u H locs hw hP hD hS
          rcases hw with ⟨rfl, w318⟩ | ⟨rfl, w319⟩
          · refine lv_if_ne (tgt := 37) hx hb dX12_heirsOf_31 (by decide) (fun c320 => ?_) (fun c320 => ?_)
            · exact absurd rfl (mm_ne c320)
            · refine lv_goto (tgt := 80) hx hb dX12_heirsOf_34 (by decide) ?_
              obtain ⟨v321, ev321⟩ : ∃ y : Int32, y = x16_5_306 + 1 := ⟨_, rfl⟩
              refine lv_iinc (v := v321) (lv' := [(5, .int v321), (4, .int x16_4_307), (0, .ref a_0), (1, .int i_0), (2, .int i_1), (3, .int i_2)]) hx hb dX12_heirsOf_80 hl (k := 0) rfl (by rw [ev321]; rfl) (by decide) rfl ?_
              clear hl
              clear ls
              intro ls hl
              have rv321 : mm_rg v321 1 6 := mm_add ev321 q315 mm_k1 (by decide) (by decide)
              have tv321 := mm_addEc ev321 q315 mm_k1 (by decide) (k := 1) (by decide)
              refine lv_goto (tgt := 16) hx hb dX12_heirsOf_83 (by decide) ?_
              exact ih16 v321 x16_4_307 y16_0_29_308 y16_0_30_309 y16_0_31_310 z16_8_311 (mm_wk rv321 (by decide)) rx16_4_307 ry16_0_29_308 rz16_8_311 (mm_mu hm16 tv321 (by decide) (rv321).2 (by decide)) H locs hP hD hS ls (lv_sub hl [0, 1, 2, 3, 4, 5] rfl)
          · refine lv_if_ne (tgt := 37) hx hb dX12_heirsOf_31 (by decide) (fun c322 => ?_) (fun c322 => ?_)
            · refine lv_aload_n hx hb dX12_heirsOf_37 rfl (lv_at hl 2 rfl) ?_
              refine lv_iload_n hx hb dX12_heirsOf_38 rfl (lv_at hl 3 rfl) ?_
              refine lv_iload_n hx hb dX12_heirsOf_39 rfl (lv_at hl 4 rfl) ?_
              refine lv_iload hx hb dX12_heirsOf_40 (lv_at hl 0 rfl) ?_
              refine mm_fini (va_runV (As := [.int i_0, .int i_1, .int x16_5_306]) (rest := []) ⟨hx, hb, hml, hown, hts⟩ (M141_X12_reads l G cy H.size a_0 i_0 i_1 x16_5_306 i_3 a_1 a_2 a_3 a_4 a_5 i_4 i_5 i_6 i_7 i_8 j_0 i_9 i_10 i_11 i_12 a_6 a_7 a_8 a_9 a_10 a_11 a_12 a_13 a_14 a_15 a_16 a_17 a_18 y16_0_29_308 y16_0_30_309 y16_0_31_310 i_16 i_17 i_18 a_19 i_19 a_20 i_20 i_21 i_22 i_23 i_24 i_25 i_26 i_27 i_28 i_29 i_30 i_31 i_32 i_33 i_34 i_35 i_36 i_37 i_38 i_39 i_40 i_41 i_42 i_43 i_44 i_45 i_46 i_47 i_48 i_49 f_0 f_1 f_2 f_3 f_4 f_5 z16_8_311 h0 (mm_wk h1 (by decide)) q315 ry16_0_29_308 h4 h5 h6 h7 (mm_wk q316 (by decide)) h9 h10 h11 h12 h13 h14 h15 h16 h17 h18 h19 h20 h21 h22 h23 h24 h25 h26 h27 h28 h29 h30 h31 h32 h33 h34 h35 h36 h37 h38 h39 rz16_8_311 h41 h42 h43 h44 h45 h46 h47 h48 h49) (cwV 3 hts (mm_gV mm_w852 mm_w853 mm_w854 mm_w5 mm_w855) rfl rfl rfl hd_X12_reads ⟨by rw [hRf]; exact Nat.le_of_ble_eq_true rfl, by rw [hRl]; exact Nat.le_of_ble_eq_true rfl⟩) (mm_preV hK hZ hS hA hP hD [0, 1, 2, 3, 4, 5, 6, 7, 8] rfl rfl 0 rfl rfl rfl) rfl rfl hl.1 rfl (lv_room (Nat.le_of_ble_eq_true rfl)) dX12_heirsOf_42 ⟨by rw [hRc]; exact Nat.le_of_ble_eq_true rfl, by rw [hRs]; exact Nat.le_of_ble_eq_true rfl⟩) hP hD hS hA (fun u : Int32 × Int32 × Int32 × (Nat → Int32) => [(a_0, .inr (12, [.int i_3, .ref a_1, .ref a_2, .ref a_3, .ref a_4, .ref a_5, .int i_4, .int i_5, .int i_6, .int i_7, .int i_8, .long j_0, .int i_9, .int i_10, .int i_11, .int i_12, .ref a_6, .ref a_7, .ref a_8, .ref a_9, .ref a_10, .ref a_11, .ref a_12, .ref a_13, .ref a_14, .ref a_15, .ref a_16, .ref a_17, .ref a_18, .int u.1, .int u.2.1, .int u.2.2.1, .int i_16, .int i_17, .int i_18, .ref a_19, .int i_19, .ref a_20])), (a_7, .inl (cy 1, 30, .inl (mm_g [i_20, i_21, i_22, i_23, i_24, i_25, i_26, i_27, i_28, i_29, i_30, i_31, i_32, i_33, i_34, i_35, i_36, i_37, i_38, i_39, i_40, i_41, i_42, i_43, i_44, i_45, i_46, i_47, i_48, i_49]))), (a_8, .inl (cy 1, 90, .inl f_0)), (a_11, .inl (cy 1, 30, .inl f_1)), (a_12, .inl (cy 1, 240, .inl f_2)), (a_13, .inl (cy 1, 450, .inl f_3)), (a_15, .inl (cy 1, 7200, .inl f_4)), (a_16, .inl (cy 1, 3, .inl f_5)), (a_18, .inl (cy 1, 8, .inl u.2.2.2))]) [0, 1, 2, 3, 4, 5, 6, 7, 8] [] (n := 9) (fun _ => rfl) (by decide +kernel) (by decide +kernel) rfl (fun _ => rfl) (wr := []) rfl (fun _ => rfl) (fun _ => @rfl _ ([a_0, a_7, a_8, a_11, a_12, a_13, a_15, a_16, a_18] : List Nat)) ?_
              clear hP hD hS
              clear H locs
              intro v327 u
              obtain ⟨n323, n324, n325, n326⟩ := u
              intro H locs hw (hP : va_P G vwCl [(a_0, .inr (12, [.int i_3, .ref a_1, .ref a_2, .ref a_3, .ref a_4, .ref a_5, .int i_4, .int i_5, .int i_6, .int i_7, .int i_8, .long j_0, .int i_9, .int i_10, .int i_11, .int i_12, .ref a_6, .ref a_7, .ref a_8, .ref a_9, .ref a_10, .ref a_11, .ref a_12, .ref a_13, .ref a_14, .ref a_15, .ref a_16, .ref a_17, .ref a_18, .int n323, .int n324, .int n325, .int i_16, .int i_17, .int i_18, .ref a_19, .int i_19, .ref a_20])), (a_7, .inl (cy 1, 30, .inl (mm_g [i_20, i_21, i_22, i_23, i_24, i_25, i_26, i_27, i_28, i_29, i_30, i_31, i_32, i_33, i_34, i_35, i_36, i_37, i_38, i_39, i_40, i_41, i_42, i_43, i_44, i_45, i_46, i_47, i_48, i_49]))), (a_8, .inl (cy 1, 90, .inl f_0)), (a_11, .inl (cy 1, 30, .inl f_1)), (a_12, .inl (cy 1, 240, .inl f_2)), (a_13, .inl (cy 1, 450, .inl f_3)), (a_15, .inl (cy 1, 7200, .inl f_4)), (a_16, .inl (cy 1, 3, .inl f_5)), (a_18, .inl (cy 1, 8, .inl n326))] H) (hD : va_D A [(a_0, .inr (12, [.int i_3, .ref a_1, .ref a_2, .ref a_3, .ref a_4, .ref a_5, .int i_4, .int i_5, .int i_6, .int i_7, .int i_8, .long j_0, .int i_9, .int i_10, .int i_11, .int i_12, .ref a_6, .ref a_7, .ref a_8, .ref a_9, .ref a_10, .ref a_11, .ref a_12, .ref a_13, .ref a_14, .ref a_15, .ref a_16, .ref a_17, .ref a_18, .int n323, .int n324, .int n325, .int i_16, .int i_17, .int i_18, .ref a_19, .int i_19, .ref a_20])), (a_7, .inl (cy 1, 30, .inl (mm_g [i_20, i_21, i_22, i_23, i_24, i_25, i_26, i_27, i_28, i_29, i_30, i_31, i_32, i_33, i_34, i_35, i_36, i_37, i_38, i_39, i_40, i_41, i_42, i_43, i_44, i_45, i_46, i_47, i_48, i_49]))), (a_8, .inl (cy 1, 90, .inl f_0)), (a_11, .inl (cy 1, 30, .inl f_1)), (a_12, .inl (cy 1, 240, .inl f_2)), (a_13, .inl (cy 1, 450, .inl f_3)), (a_15, .inl (cy 1, 7200, .inl f_4)), (a_16, .inl (cy 1, 3, .inl f_5)), (a_18, .inl (cy 1, 8, .inl n326))]) hS
              obtain ⟨w328, w329, hw⟩ := hw
              obtain ⟨w330, w331⟩ := hw
              replace w331 : mm_rd f_4 f_5 f_0 f_1 f_2 f_3 i_0 i_1 x16_5_306 i_21 i_22 i_25 v327 := w331
              refine lv_aload_n hx hb dX12_heirsOf_45 rfl (lv_at hl 2 rfl) ?_
              refine lv_iload_n hx hb dX12_heirsOf_46 rfl (lv_at hl 3 rfl) ?_
              refine lv_iload_n hx hb dX12_heirsOf_47 rfl (lv_at hl 4 rfl) ?_
              refine lv_iconst (v := 1) hx hb dX12_heirsOf_48 (by decide) ?_
              refine lv_iadd hx hb dX12_heirsOf_49 ?_
              refine lv_topi (fun v332 ev332 => ?_)
              have rv332 : mm_rg v332 1 1000000006 := mm_add ev332 h1 mm_k1 (by decide) (by decide)
              have tv332 := mm_addEc ev332 h1 mm_k1 (by decide) (k := 1) (by decide)
              refine lv_iload_n hx hb dX12_heirsOf_50 rfl (lv_at hl 5 rfl) ?_
              refine lv_iconst (v := 1) hx hb dX12_heirsOf_51 (by decide) ?_
              refine lv_iload hx hb dX12_heirsOf_52 (lv_at hl 0 rfl) ?_
              refine lv_ishl hx hb dX12_heirsOf_54 ?_
              refine lv_topi (fun v333 ev333 => ?_)
              have rv333 : mm_rg v333 1 32 := mm_shl1 ev333 q315 (by decide)
              refine lv_iconst (v := (-1)) hx hb dX12_heirsOf_55 (by decide) ?_
              refine lv_ixor hx hb dX12_heirsOf_56 ?_
              refine lv_topi (fun v334 ev334 => ?_)
              refine lv_iand hx hb dX12_heirsOf_57 ?_
              refine lv_topi (fun v335 ev335 => ?_)
              have rv335 : mm_rg v335 0 63 := mm_andL ev335 q2 (by decide)
              refine mm_fini (va_runV (As := [.int i_0, .int v332, .int v335]) (rest := [.int v327]) ⟨hx, hb, hml, hown, hts⟩ (M234_X12_heirsOf l G cy H.size a_0 i_0 v332 v335 i_3 a_1 a_2 a_3 a_4 a_5 i_4 i_5 i_6 i_7 i_8 j_0 i_9 i_10 i_11 i_12 a_6 a_7 a_8 a_9 a_10 a_11 a_12 a_13 a_14 a_15 a_16 a_17 a_18 n323 n324 n325 i_16 i_17 i_18 a_19 i_19 a_20 i_20 i_21 i_22 i_23 i_24 i_25 i_26 i_27 i_28 i_29 i_30 i_31 i_32 i_33 i_34 i_35 i_36 i_37 i_38 i_39 i_40 i_41 i_42 i_43 i_44 i_45 i_46 i_47 i_48 i_49 f_0 f_1 f_2 f_3 f_4 f_5 n326 h0 (mm_wk rv332 (by decide)) rv335 w328 h4 h5 h6 h7 (mm_wk q316 (by decide)) h9 h10 h11 h12 h13 h14 h15 h16 h17 h18 h19 h20 h21 h22 h23 h24 h25 h26 h27 h28 h29 h30 h31 h32 h33 h34 h35 h36 h37 h38 h39 w329 h41 h42 h43 h44 h45 h46 h47 h48 h49 (mm_pc_cut h50 w319 ev333 ev334 ev335 q2 q315 (by decide))) (cwV 3 hts (mm_gV mm_w1456 mm_w1457 mm_w1458 mm_w5 mm_w1459) rfl rfl rfl hd_X12_heirsOf ⟨by rw [hRf]; exact Nat.le_of_ble_eq_true rfl, by rw [hRl]; exact Nat.le_of_ble_eq_true rfl⟩) (mm_preV hK hZ hS hA hP hD [0, 1, 2, 3, 4, 5, 6, 7, 8] rfl rfl 0 rfl rfl rfl) rfl rfl hl.1 rfl (lv_room (Nat.le_of_ble_eq_true rfl)) dX12_heirsOf_58 ⟨by rw [hRc]; exact Nat.le_of_ble_eq_true rfl, by rw [hRs]; exact Nat.le_of_ble_eq_true rfl⟩) hP hD hS hA (fun u : Int32 × Int32 × Int32 × (Nat → Int32) => [(a_0, .inr (12, [.int i_3, .ref a_1, .ref a_2, .ref a_3, .ref a_4, .ref a_5, .int i_4, .int i_5, .int i_6, .int i_7, .int i_8, .long j_0, .int i_9, .int i_10, .int i_11, .int i_12, .ref a_6, .ref a_7, .ref a_8, .ref a_9, .ref a_10, .ref a_11, .ref a_12, .ref a_13, .ref a_14, .ref a_15, .ref a_16, .ref a_17, .ref a_18, .int u.1, .int u.2.1, .int u.2.2.1, .int i_16, .int i_17, .int i_18, .ref a_19, .int i_19, .ref a_20])), (a_7, .inl (cy 1, 30, .inl (mm_g [i_20, i_21, i_22, i_23, i_24, i_25, i_26, i_27, i_28, i_29, i_30, i_31, i_32, i_33, i_34, i_35, i_36, i_37, i_38, i_39, i_40, i_41, i_42, i_43, i_44, i_45, i_46, i_47, i_48, i_49]))), (a_8, .inl (cy 1, 90, .inl f_0)), (a_11, .inl (cy 1, 30, .inl f_1)), (a_12, .inl (cy 1, 240, .inl f_2)), (a_13, .inl (cy 1, 450, .inl f_3)), (a_15, .inl (cy 1, 7200, .inl f_4)), (a_16, .inl (cy 1, 3, .inl f_5)), (a_18, .inl (cy 1, 8, .inl u.2.2.2))]) [0, 1, 2, 3, 4, 5, 6, 7, 8] [] (n := 9) (fun _ => rfl) (by decide +kernel) (by decide +kernel) rfl (fun _ => rfl) (wr := []) rfl (fun _ => rfl) (fun _ => @rfl _ ([a_0, a_7, a_8, a_11, a_12, a_13, a_15, a_16, a_18] : List Nat)) ?_
              clear hP hD hS
              clear H locs
              intro v340 u
              obtain ⟨n336, n337, n338, n339⟩ := u
              intro H locs hw (hP : va_P G vwCl [(a_0, .inr (12, [.int i_3, .ref a_1, .ref a_2, .ref a_3, .ref a_4, .ref a_5, .int i_4, .int i_5, .int i_6, .int i_7, .int i_8, .long j_0, .int i_9, .int i_10, .int i_11, .int i_12, .ref a_6, .ref a_7, .ref a_8, .ref a_9, .ref a_10, .ref a_11, .ref a_12, .ref a_13, .ref a_14, .ref a_15, .ref a_16, .ref a_17, .ref a_18, .int n336, .int n337, .int n338, .int i_16, .int i_17, .int i_18, .ref a_19, .int i_19, .ref a_20])), (a_7, .inl (cy 1, 30, .inl (mm_g [i_20, i_21, i_22, i_23, i_24, i_25, i_26, i_27, i_28, i_29, i_30, i_31, i_32, i_33, i_34, i_35, i_36, i_37, i_38, i_39, i_40, i_41, i_42, i_43, i_44, i_45, i_46, i_47, i_48, i_49]))), (a_8, .inl (cy 1, 90, .inl f_0)), (a_11, .inl (cy 1, 30, .inl f_1)), (a_12, .inl (cy 1, 240, .inl f_2)), (a_13, .inl (cy 1, 450, .inl f_3)), (a_15, .inl (cy 1, 7200, .inl f_4)), (a_16, .inl (cy 1, 3, .inl f_5)), (a_18, .inl (cy 1, 8, .inl n339))] H) (hD : va_D A [(a_0, .inr (12, [.int i_3, .ref a_1, .ref a_2, .ref a_3, .ref a_4, .ref a_5, .int i_4, .int i_5, .int i_6, .int i_7, .int i_8, .long j_0, .int i_9, .int i_10, .int i_11, .int i_12, .ref a_6, .ref a_7, .ref a_8, .ref a_9, .ref a_10, .ref a_11, .ref a_12, .ref a_13, .ref a_14, .ref a_15, .ref a_16, .ref a_17, .ref a_18, .int n336, .int n337, .int n338, .int i_16, .int i_17, .int i_18, .ref a_19, .int i_19, .ref a_20])), (a_7, .inl (cy 1, 30, .inl (mm_g [i_20, i_21, i_22, i_23, i_24, i_25, i_26, i_27, i_28, i_29, i_30, i_31, i_32, i_33, i_34, i_35, i_36, i_37, i_38, i_39, i_40, i_41, i_42, i_43, i_44, i_45, i_46, i_47, i_48, i_49]))), (a_8, .inl (cy 1, 90, .inl f_0)), (a_11, .inl (cy 1, 30, .inl f_1)), (a_12, .inl (cy 1, 240, .inl f_2)), (a_13, .inl (cy 1, 450, .inl f_3)), (a_15, .inl (cy 1, 7200, .inl f_4)), (a_16, .inl (cy 1, 3, .inl f_5)), (a_18, .inl (cy 1, 8, .inl n339))]) hS
              obtain ⟨w341, w342, hw⟩ := hw
              have w343 := hw
              refine lv_isub hx hb dX12_heirsOf_61 ?_
              refine lv_topi (fun v344 ev344 => ?_)
              have rv344 : mm_rg v344 (-1009999) 1009999 := mm_sub ev344 w330 w343 (by decide) (by decide)
              have tv344 := mm_subE ev344 w330 w343 (by decide)
              refine lv_istore (lv' := [(6, .int v344), (5, .int x16_5_306), (4, .int x16_4_307), (0, .ref a_0), (1, .int i_0), (2, .int i_1), (3, .int i_2)]) hx hb dX12_heirsOf_62 hl (by decide) rfl ?_
              clear hl
              clear ls
              intro ls hl
              refine lv_iload hx hb dX12_heirsOf_64 (lv_at hl 0 rfl) ?_
              refine lv_iload hx hb dX12_heirsOf_66 (lv_at hl 2 rfl) ?_
              refine lv_icmp_le (tgt := 76) hx hb dX12_heirsOf_68 (by decide) (fun c345 => ?_) (fun c345 => ?_)
              · refine lv_iload hx hb dX12_heirsOf_76 (lv_at hl 2 rfl) ?_
                refine lv_istore (lv' := [(4, .int x16_4_307), (6, .int v344), (5, .int x16_5_306), (0, .ref a_0), (1, .int i_0), (2, .int i_1), (3, .int i_2)]) hx hb dX12_heirsOf_78 hl (by decide) rfl ?_
                clear hl
                clear ls
                intro ls hl
                obtain ⟨v346, ev346⟩ : ∃ y : Int32, y = x16_5_306 + 1 := ⟨_, rfl⟩
                refine lv_iinc (v := v346) (lv' := [(5, .int v346), (4, .int x16_4_307), (6, .int v344), (0, .ref a_0), (1, .int i_0), (2, .int i_1), (3, .int i_2)]) hx hb dX12_heirsOf_80 hl (k := 2) rfl (by rw [ev346]; rfl) (by decide) rfl ?_
                clear hl
                clear ls
                intro ls hl
                have rv346 : mm_rg v346 1 6 := mm_add ev346 q315 mm_k1 (by decide) (by decide)
                have tv346 := mm_addEc ev346 q315 mm_k1 (by decide) (k := 1) (by decide)
                refine lv_goto (tgt := 16) hx hb dX12_heirsOf_83 (by decide) ?_
                exact ih16 v346 x16_4_307 n336 n337 n338 n339 (mm_wk rv346 (by decide)) rx16_4_307 w341 w342 (mm_mu hm16 tv346 (by decide) (rv346).2 (by decide)) H locs hP hD hS ls (lv_sub hl [0, 1, 3, 4, 5, 6] rfl)
              · have q347 := mm_ltL (h := 1009998) (mm_nle c345) rx16_4_307 rv344 (by decide)
                have q348 := mm_ltR (lo := (-999999)) (mm_nle c345) rx16_4_307 rv344 (by decide)
                have q349 : mm_rg v340 (-1000000) 1009998 := mm_unsubY tv344 q348 w330 w343 (by decide)
                refine lv_iload hx hb dX12_heirsOf_71 (lv_at hl 0 rfl) ?_
                refine lv_goto (tgt := 78) hx hb dX12_heirsOf_73 (by decide) ?_
                refine lv_istore (lv' := [(4, .int v344), (6, .int v344), (5, .int x16_5_306), (0, .ref a_0), (1, .int i_0), (2, .int i_1), (3, .int i_2)]) hx hb dX12_heirsOf_78 hl (by decide) rfl ?_
                clear hl
                clear ls
                intro ls hl
                obtain ⟨v350, ev350⟩ : ∃ y : Int32, y = x16_5_306 + 1 := ⟨_, rfl⟩
                refine lv_iinc (v := v350) (lv' := [(5, .int v350), (4, .int v344), (6, .int v344), (0, .ref a_0), (1, .int i_0), (2, .int i_1), (3, .int i_2)]) hx hb dX12_heirsOf_80 hl (k := 2) rfl (by rw [ev350]; rfl) (by decide) rfl ?_
                clear hl
                clear ls
                intro ls hl
                have rv350 : mm_rg v350 1 6 := mm_add ev350 q315 mm_k1 (by decide) (by decide)
                have tv350 := mm_addEc ev350 q315 mm_k1 (by decide) (k := 1) (by decide)
                refine lv_goto (tgt := 16) hx hb dX12_heirsOf_83 (by decide) ?_
                exact ih16 v350 v344 n336 n337 n338 n339 (mm_wk rv350 (by decide)) (mm_wk q348 (by decide)) w341 w342 (mm_mu hm16 tv350 (by decide) (rv350).2 (by decide)) H locs hP hD hS ls (lv_sub hl [0, 1, 3, 4, 5, 6] rfl)
            · exact mm_eqN c322.symm mm_k0 mm_k1 (by decide)
    exact L16_311 _ 0 (-1000000) i_13 i_14 i_15 f_6 (mm_wk mm_k0 (by decide)) (mm_wk mm_km1000000 (by decide)) h3 h40 (Nat.lt_succ_self _) H locs hP hD hS ls (lv_sub hl [0, 1, 2, 3, 4, 5] rfl)
  · have q351 := mm_eqI (lo := 0) (hi := 0) c1 h2 mm_k0 (by decide)
    refine lv_iconst (v := 0) hx hb dX12_heirsOf_4 (by decide) ?_
    refine lv_goto (tgt := 11) hx hb dX12_heirsOf_5 (by decide) ?_
    refine lv_istore (lv' := [(4, .int 0), (0, .ref a_0), (1, .int i_0), (2, .int i_1), (3, .int i_2)]) hx hb dX12_heirsOf_11 hl (by decide) rfl ?_
    clear hl
    clear ls
    intro ls hl
    refine lv_iconst (v := 0) hx hb dX12_heirsOf_13 (by decide) ?_
    refine lv_istore (lv' := [(5, .int 0), (4, .int 0), (0, .ref a_0), (1, .int i_0), (2, .int i_1), (3, .int i_2)]) hx hb dX12_heirsOf_14 hl (by decide) rfl ?_
    clear hl
    clear ls
    intro ls hl
    have L16_423 : ∀ (n : Nat) (x16_5_423 : Int32), mm_rg x16_5_423 0 6 → (6 - x16_5_423.toInt).toNat < n → ∀ (H : Heap) (locs : List Loc), va_P G vwCl [(a_0, .inr (12, [.int i_3, .ref a_1, .ref a_2, .ref a_3, .ref a_4, .ref a_5, .int i_4, .int i_5, .int i_6, .int i_7, .int i_8, .long j_0, .int i_9, .int i_10, .int i_11, .int i_12, .ref a_6, .ref a_7, .ref a_8, .ref a_9, .ref a_10, .ref a_11, .ref a_12, .ref a_13, .ref a_14, .ref a_15, .ref a_16, .ref a_17, .ref a_18, .int i_13, .int i_14, .int i_15, .int i_16, .int i_17, .int i_18, .ref a_19, .int i_19, .ref a_20])), (a_7, .inl (cy 1, 30, .inl (mm_g [i_20, i_21, i_22, i_23, i_24, i_25, i_26, i_27, i_28, i_29, i_30, i_31, i_32, i_33, i_34, i_35, i_36, i_37, i_38, i_39, i_40, i_41, i_42, i_43, i_44, i_45, i_46, i_47, i_48, i_49]))), (a_8, .inl (cy 1, 90, .inl f_0)), (a_11, .inl (cy 1, 30, .inl f_1)), (a_12, .inl (cy 1, 240, .inl f_2)), (a_13, .inl (cy 1, 450, .inl f_3)), (a_15, .inl (cy 1, 7200, .inl f_4)), (a_16, .inl (cy 1, 3, .inl f_5)), (a_18, .inl (cy 1, 8, .inl f_6))] H → va_D A [(a_0, .inr (12, [.int i_3, .ref a_1, .ref a_2, .ref a_3, .ref a_4, .ref a_5, .int i_4, .int i_5, .int i_6, .int i_7, .int i_8, .long j_0, .int i_9, .int i_10, .int i_11, .int i_12, .ref a_6, .ref a_7, .ref a_8, .ref a_9, .ref a_10, .ref a_11, .ref a_12, .ref a_13, .ref a_14, .ref a_15, .ref a_16, .ref a_17, .ref a_18, .int i_13, .int i_14, .int i_15, .int i_16, .int i_17, .int i_18, .ref a_19, .int i_19, .ref a_20])), (a_7, .inl (cy 1, 30, .inl (mm_g [i_20, i_21, i_22, i_23, i_24, i_25, i_26, i_27, i_28, i_29, i_30, i_31, i_32, i_33, i_34, i_35, i_36, i_37, i_38, i_39, i_40, i_41, i_42, i_43, i_44, i_45, i_46, i_47, i_48, i_49]))), (a_8, .inl (cy 1, 90, .inl f_0)), (a_11, .inl (cy 1, 30, .inl f_1)), (a_12, .inl (cy 1, 240, .inl f_2)), (a_13, .inl (cy 1, 450, .inl f_3)), (a_15, .inl (cy 1, 7200, .inl f_4)), (a_16, .inl (cy 1, 3, .inl f_5)), (a_18, .inl (cy 1, 8, .inl f_6))] → va_S A s.heap H locs → ∀ (ls : Array Slot), lv_has ls 7 [(5, .int x16_5_423), (4, .int 0), (0, .ref a_0), (1, .int i_0), (2, .int i_1), (3, .int i_2)] → W p l e R s m args below meth c H locs 0 0 Q (F0 m 16 ls []) := by
      intro n
      induction n with
      | zero => intro x16_5_423 rx16_5_423 hm; exact absurd hm (Nat.not_lt_zero _)
      | succ n ih16 =>
        intro x16_5_423 rx16_5_423 hm16 H locs hP hD hS ls hl
        refine lv_iload hx hb dX12_heirsOf_16 (lv_at hl 0 rfl) ?_
        refine lv_aload_n hx hb dX12_heirsOf_18 rfl (lv_at hl 2 rfl) ?_
        refine mm_finir (va_runV (As := []) (rest := [.int x16_5_423]) ⟨hx, hb, hml, hown, hts⟩ (M95_X12_texts l G cy H.size a_0 i_3 a_1 a_2 a_3 a_4 a_5 i_4 i_5 i_6 i_7 i_8 j_0 i_9 i_10 i_11 i_12 a_6 a_7 a_8 a_9 a_10 a_11 a_12 a_13 a_14 a_15 a_16 a_17 a_18 i_13 i_14 i_15 i_16 i_17 i_18 a_19 i_19 a_20 i_20 i_21 i_22 i_23 i_24 i_25 i_26 i_27 i_28 i_29 i_30 i_31 i_32 i_33 i_34 i_35 i_36 i_37 i_38 i_39 i_40 i_41 i_42 i_43 i_44 i_45 i_46 i_47 i_48 i_49 h4 h5 h6 h7 h8 h9 h10 h11 h12 h13 h14 h15 h16 h17 h18 h19 h20 h21 h22 h23 h24 h25 h26 h27 h28 h29 h30 h31 h32 h33) (cwV 0 hts (mm_gV mm_w617 mm_w618 mm_w619 mm_w5 mm_w620) rfl rfl rfl hd_X12_texts ⟨by rw [hRf]; exact Nat.le_of_ble_eq_true rfl, by rw [hRl]; exact Nat.le_of_ble_eq_true rfl⟩) (mm_preV hK hZ hS hA hP hD [0, 1] rfl rfl 0 rfl rfl rfl) rfl rfl hl.1 rfl (lv_room (Nat.le_of_ble_eq_true rfl)) dX12_heirsOf_19 ⟨by rw [hRc]; exact Nat.le_of_ble_eq_true rfl, by rw [hRs]; exact Nat.le_of_ble_eq_true rfl⟩) hP hD hS hA [0, 1] rfl (fun _ => rfl) ?_
        clear hP hD hS
        clear H locs
        intro v425 _u H locs hw hP hD hS
        subst hw
        refine lv_icmp_ge (tgt := 86) hx hb dX12_heirsOf_22 (by decide) (fun c426 => ?_) (fun c426 => ?_)
        · refine lv_iload hx hb dX12_heirsOf_86 (lv_at hl 1 rfl) ?_
          subst hAe
          rw [hQ]
          exact W.iret (v := 0) hx hb hr (fun t ht hW => ⟨⟨0, (i_13, i_14, i_15, f_6), rfl, ⟨h3, h40, (mm_wk mm_k0 (by decide))⟩, by rw [ht]; exact hP, hK.warm hW, hD⟩, hS.F ht⟩) hS.2.2 dX12_heirsOf_88
        · have q427 := mm_ltL (h := 5) (mm_nle c426) rx16_5_423 h8 (by decide)
          have q428 := mm_ltR (lo := 1) (mm_nle c426) rx16_5_423 h8 (by decide)
          refine lv_iload_n hx hb dX12_heirsOf_25 rfl (lv_at hl 5 rfl) ?_
          refine lv_iload hx hb dX12_heirsOf_26 (lv_at hl 0 rfl) ?_
          refine mm_finir (va_runS (As := [.int i_2, .int x16_5_423]) (rest := []) ⟨hx, hb, hml, hown, hts⟩ (M232_X12_isBit l G cy H.size i_2 x16_5_423 (mm_wk q351 (by decide)) q427) (va_cwS 2 hts (mm_gS mm_w1461 mm_w1462 mm_w5 mm_w1463) rfl rfl rfl hs_X12_isBit ⟨by rw [hRf]; exact Nat.le_of_ble_eq_true rfl, by rw [hRl]; exact Nat.le_of_ble_eq_true rfl⟩) (mm_preS hK hZ hS hA hP hD [] rfl rfl) rfl rfl hl.1 rfl (lv_room (Nat.le_of_ble_eq_true rfl)) dX12_heirsOf_28 ⟨by rw [hRc]; exact Nat.le_of_ble_eq_true rfl, by rw [hRs]; exact Nat.le_of_ble_eq_true rfl⟩) hP hD hS hA [] rfl (fun _ => rfl) ?_
          clear hP hD hS
          clear H locs
          intro v429 _u H locs hw hP hD hS
          rcases hw with ⟨rfl, w430⟩ | ⟨rfl, w431⟩
          · refine lv_if_ne (tgt := 37) hx hb dX12_heirsOf_31 (by decide) (fun c432 => ?_) (fun c432 => ?_)
            · exact absurd rfl (mm_ne c432)
            · refine lv_goto (tgt := 80) hx hb dX12_heirsOf_34 (by decide) ?_
              obtain ⟨v433, ev433⟩ : ∃ y : Int32, y = x16_5_423 + 1 := ⟨_, rfl⟩
              refine lv_iinc (v := v433) (lv' := [(5, .int v433), (4, .int 0), (0, .ref a_0), (1, .int i_0), (2, .int i_1), (3, .int i_2)]) hx hb dX12_heirsOf_80 hl (k := 0) rfl (by rw [ev433]; rfl) (by decide) rfl ?_
              clear hl
              clear ls
              intro ls hl
              have rv433 : mm_rg v433 1 6 := mm_add ev433 q427 mm_k1 (by decide) (by decide)
              have tv433 := mm_addEc ev433 q427 mm_k1 (by decide) (k := 1) (by decide)
              refine lv_goto (tgt := 16) hx hb dX12_heirsOf_83 (by decide) ?_
              exact ih16 v433 (mm_wk rv433 (by decide)) (mm_mu hm16 tv433 (by decide) (rv433).2 (by decide)) H locs hP hD hS ls (lv_sub hl [0, 1, 2, 3, 4, 5] rfl)
          · exact mm_bit_no w431 q351 (by decide)
    exact L16_423 _ 0 (mm_wk mm_k0 (by decide)) (Nat.lt_succ_self _) H locs hP hD hS ls (lv_sub hl [0, 1, 2, 3, 4, 5] rfl)

set_option maxHeartbeats 4000000 in
set_option maxRecDepth 100000 in
theorem M236_X12_heirsOf (l : Launch) (G : va_G) (cy : Nat → ClassId) (sz : Nat) (a_0 : Nat) (i_0 : Int32) (i_1 : Int32) (i_2 : Int32) (i_3 : Int32) (a_1 : Nat) (a_2 : Nat) (a_3 : Nat) (a_4 : Nat) (a_5 : Nat) (i_4 : Int32) (i_5 : Int32) (i_6 : Int32) (i_7 : Int32) (i_8 : Int32) (j_0 : Int64) (i_9 : Int32) (i_10 : Int32) (i_11 : Int32) (i_12 : Int32) (a_6 : Nat) (a_7 : Nat) (a_8 : Nat) (a_9 : Nat) (a_10 : Nat) (a_11 : Nat) (a_12 : Nat) (a_13 : Nat) (a_14 : Nat) (a_15 : Nat) (a_16 : Nat) (a_17 : Nat) (a_18 : Nat) (i_13 : Int32) (i_14 : Int32) (i_15 : Int32) (i_16 : Int32) (i_17 : Int32) (i_18 : Int32) (a_19 : Nat) (i_19 : Int32) (a_20 : Nat) (i_20 : Int32) (i_21 : Int32) (i_22 : Int32) (i_23 : Int32) (i_24 : Int32) (i_25 : Int32) (i_26 : Int32) (i_27 : Int32) (i_28 : Int32) (i_29 : Int32) (i_30 : Int32) (i_31 : Int32) (i_32 : Int32) (i_33 : Int32) (i_34 : Int32) (i_35 : Int32) (i_36 : Int32) (i_37 : Int32) (i_38 : Int32) (i_39 : Int32) (i_40 : Int32) (i_41 : Int32) (i_42 : Int32) (i_43 : Int32) (i_44 : Int32) (i_45 : Int32) (i_46 : Int32) (i_47 : Int32) (i_48 : Int32) (i_49 : Int32) (f_0 : Nat → Int32) (f_1 : Nat → Int32) (f_2 : Nat → Int32) (f_3 : Nat → Int32) (f_4 : Nat → Int32) (f_5 : Nat → Int32) (f_6 : Nat → Int32) (h0 : mm_rg i_0 0 2) (h1 : mm_rg i_1 0 1000000004) (h2 : mm_rg i_2 0 63) (h3 : mm_rg i_13 0 8) (h4 : mm_rg i_20 0 10) (h5 : mm_rg i_21 0 99) (h6 : mm_rg i_22 0 9) (h7 : mm_rg i_23 0 3) (h8 : mm_rg i_24 0 6) (h9 : mm_rg i_25 0 30) (h10 : mm_rg i_26 0 10) (h11 : mm_rg i_27 0 99) (h12 : mm_rg i_28 0 9) (h13 : mm_rg i_29 0 3) (h14 : mm_rg i_30 0 6) (h15 : mm_rg i_31 0 30) (h16 : mm_rg i_32 0 10) (h17 : mm_rg i_33 0 99) (h18 : mm_rg i_34 0 9) (h19 : mm_rg i_35 0 3) (h20 : mm_rg i_36 0 6) (h21 : mm_rg i_37 0 30) (h22 : mm_rg i_38 0 10) (h23 : mm_rg i_39 0 99) (h24 : mm_rg i_40 0 9) (h25 : mm_rg i_41 0 3) (h26 : mm_rg i_42 0 6) (h27 : mm_rg i_43 0 30) (h28 : mm_rg i_44 0 10) (h29 : mm_rg i_45 0 99) (h30 : mm_rg i_46 0 9) (h31 : mm_rg i_47 0 3) (h32 : mm_rg i_48 0 6) (h33 : mm_rg i_49 0 30) (h34 : mm_ar f_0 0 99) (h35 : mm_ar f_1 0 8) (h36 : mm_ar f_2 0 9) (h37 : mm_ar f_3 (-1) 99) (h38 : mm_ar f_4 0 9) (h39 : mm_ar f_5 0 210) (h40 : mm_ar f_6 0 9) (h41 : mm_txs f_1 f_2 0 i_22 i_24) (h42 : mm_acs f_3 0 i_22 i_23 i_25) (h43 : mm_txs f_1 f_2 1 i_28 i_30) (h44 : mm_acs f_3 1 i_28 i_29 i_31) (h45 : mm_txs f_1 f_2 2 i_34 i_36) (h46 : mm_acs f_3 2 i_34 i_35 i_37) (h47 : mm_txs f_1 f_2 3 i_40 i_42) (h48 : mm_acs f_3 3 i_40 i_41 i_43) (h49 : mm_f1 f_5 i_0) (h50 : mm_pc 3 i_2)  : mm_CI l yX12_heirsOf (mm_ws yX12_heirsOf cX12_heirsOf 7 (some .int)) ({ frames := 5, cells := 0, slots := 0, locals := 125 } : Room) G cy sz [(a_0, .inr (12, [.int i_3, .ref a_1, .ref a_2, .ref a_3, .ref a_4, .ref a_5, .int i_4, .int i_5, .int i_6, .int i_7, .int i_8, .long j_0, .int i_9, .int i_10, .int i_11, .int i_12, .ref a_6, .ref a_7, .ref a_8, .ref a_9, .ref a_10, .ref a_11, .ref a_12, .ref a_13, .ref a_14, .ref a_15, .ref a_16, .ref a_17, .ref a_18, .int i_13, .int i_14, .int i_15, .int i_16, .int i_17, .int i_18, .ref a_19, .int i_19, .ref a_20])), (a_7, .inl (cy 1, 30, .inl (mm_g [i_20, i_21, i_22, i_23, i_24, i_25, i_26, i_27, i_28, i_29, i_30, i_31, i_32, i_33, i_34, i_35, i_36, i_37, i_38, i_39, i_40, i_41, i_42, i_43, i_44, i_45, i_46, i_47, i_48, i_49]))), (a_8, .inl (cy 1, 90, .inl f_0)), (a_11, .inl (cy 1, 30, .inl f_1)), (a_12, .inl (cy 1, 240, .inl f_2)), (a_13, .inl (cy 1, 450, .inl f_3)), (a_15, .inl (cy 1, 7200, .inl f_4)), (a_16, .inl (cy 1, 3, .inl f_5)), (a_18, .inl (cy 1, 8, .inl f_6))] [.ref a_0, .int i_0, .int i_1, .int i_2] (fun u : Int32 × Int32 × Int32 × (Nat → Int32) => [(a_0, .inr (12, [.int i_3, .ref a_1, .ref a_2, .ref a_3, .ref a_4, .ref a_5, .int i_4, .int i_5, .int i_6, .int i_7, .int i_8, .long j_0, .int i_9, .int i_10, .int i_11, .int i_12, .ref a_6, .ref a_7, .ref a_8, .ref a_9, .ref a_10, .ref a_11, .ref a_12, .ref a_13, .ref a_14, .ref a_15, .ref a_16, .ref a_17, .ref a_18, .int u.1, .int u.2.1, .int u.2.2.1, .int i_16, .int i_17, .int i_18, .ref a_19, .int i_19, .ref a_20])), (a_7, .inl (cy 1, 30, .inl (mm_g [i_20, i_21, i_22, i_23, i_24, i_25, i_26, i_27, i_28, i_29, i_30, i_31, i_32, i_33, i_34, i_35, i_36, i_37, i_38, i_39, i_40, i_41, i_42, i_43, i_44, i_45, i_46, i_47, i_48, i_49]))), (a_8, .inl (cy 1, 90, .inl f_0)), (a_11, .inl (cy 1, 30, .inl f_1)), (a_12, .inl (cy 1, 240, .inl f_2)), (a_13, .inl (cy 1, 450, .inl f_3)), (a_15, .inl (cy 1, 7200, .inl f_4)), (a_16, .inl (cy 1, 3, .inl f_5)), (a_18, .inl (cy 1, 8, .inl u.2.2.2))]) (fun (r : Int32) (u : Int32 × Int32 × Int32 × (Nat → Int32)) => mm_rg u.1 0 8 ∧ mm_ar u.2.2.2 0 9 ∧ mm_rg r (-1000000) 1009999) 0 0 := by
  refine mm_begin (lv := [(0, .ref a_0), (1, .int i_0), (2, .int i_1), (3, .int i_2)]) (by decide) (Nat.le_of_ble_eq_true rfl) rfl ?_
  intro p e s m below meth c A ls R args Q H locs hRe hQ hAe hx hb hr hlocks hml hown hnm hts hsz hA hS hP hK hD hZ hl
  have hRf : R.frames = 5 := by rw [hRe]
  have hRl : R.locals = 125 := by rw [hRe]
  have hRc : R.cells = 0 := by rw [hRe]
  have hRs : R.slots = 0 := by rw [hRe]
  refine lv_iload_n hx hb dX12_heirsOf_0 rfl (lv_at hl 3 rfl) ?_
  refine lv_if_ne (tgt := 8) hx hb dX12_heirsOf_1 (by decide) (fun c1 => ?_) (fun c1 => ?_)
  · have q2 := mm_neL (lo := 1) (mm_ne c1) h2 mm_k0 (by decide) (by decide)
    refine lv_ldcw (v := (-1000000)) hx hb hown (mm_h hts mm_w1460) dX12_heirsOf_8 ?_
    refine lv_istore (lv' := [(4, .int (-1000000)), (0, .ref a_0), (1, .int i_0), (2, .int i_1), (3, .int i_2)]) hx hb dX12_heirsOf_11 hl (by decide) rfl ?_
    clear hl
    clear ls
    intro ls hl
    refine lv_iconst (v := 0) hx hb dX12_heirsOf_13 (by decide) ?_
    refine lv_istore (lv' := [(5, .int 0), (4, .int (-1000000)), (0, .ref a_0), (1, .int i_0), (2, .int i_1), (3, .int i_2)]) hx hb dX12_heirsOf_14 hl (by decide) rfl ?_
    clear hl
    clear ls
    intro ls hl
    have L16_311 : ∀ (n : Nat) (x16_5_306 : Int32) (x16_4_307 : Int32) (y16_0_29_308 : Int32) (y16_0_30_309 : Int32) (y16_0_31_310 : Int32) (z16_8_311 : Nat → Int32), mm_rg x16_5_306 0 6 → mm_rg x16_4_307 (-1000000) 1009999 → mm_rg y16_0_29_308 0 8 → mm_ar z16_8_311 0 9 → (6 - x16_5_306.toInt).toNat < n → ∀ (H : Heap) (locs : List Loc), va_P G vwCl [(a_0, .inr (12, [.int i_3, .ref a_1, .ref a_2, .ref a_3, .ref a_4, .ref a_5, .int i_4, .int i_5, .int i_6, .int i_7, .int i_8, .long j_0, .int i_9, .int i_10, .int i_11, .int i_12, .ref a_6, .ref a_7, .ref a_8, .ref a_9, .ref a_10, .ref a_11, .ref a_12, .ref a_13, .ref a_14, .ref a_15, .ref a_16, .ref a_17, .ref a_18, .int y16_0_29_308, .int y16_0_30_309, .int y16_0_31_310, .int i_16, .int i_17, .int i_18, .ref a_19, .int i_19, .ref a_20])), (a_7, .inl (cy 1, 30, .inl (mm_g [i_20, i_21, i_22, i_23, i_24, i_25, i_26, i_27, i_28, i_29, i_30, i_31, i_32, i_33, i_34, i_35, i_36, i_37, i_38, i_39, i_40, i_41, i_42, i_43, i_44, i_45, i_46, i_47, i_48, i_49]))), (a_8, .inl (cy 1, 90, .inl f_0)), (a_11, .inl (cy 1, 30, .inl f_1)), (a_12, .inl (cy 1, 240, .inl f_2)), (a_13, .inl (cy 1, 450, .inl f_3)), (a_15, .inl (cy 1, 7200, .inl f_4)), (a_16, .inl (cy 1, 3, .inl f_5)), (a_18, .inl (cy 1, 8, .inl z16_8_311))] H → va_D A [(a_0, .inr (12, [.int i_3, .ref a_1, .ref a_2, .ref a_3, .ref a_4, .ref a_5, .int i_4, .int i_5, .int i_6, .int i_7, .int i_8, .long j_0, .int i_9, .int i_10, .int i_11, .int i_12, .ref a_6, .ref a_7, .ref a_8, .ref a_9, .ref a_10, .ref a_11, .ref a_12, .ref a_13, .ref a_14, .ref a_15, .ref a_16, .ref a_17, .ref a_18, .int y16_0_29_308, .int y16_0_30_309, .int y16_0_31_310, .int i_16, .int i_17, .int i_18, .ref a_19, .int i_19, .ref a_20])), (a_7, .inl (cy 1, 30, .inl (mm_g [i_20, i_21, i_22, i_23, i_24, i_25, i_26, i_27, i_28, i_29, i_30, i_31, i_32, i_33, i_34, i_35, i_36, i_37, i_38, i_39, i_40, i_41, i_42, i_43, i_44, i_45, i_46, i_47, i_48, i_49]))), (a_8, .inl (cy 1, 90, .inl f_0)), (a_11, .inl (cy 1, 30, .inl f_1)), (a_12, .inl (cy 1, 240, .inl f_2)), (a_13, .inl (cy 1, 450, .inl f_3)), (a_15, .inl (cy 1, 7200, .inl f_4)), (a_16, .inl (cy 1, 3, .inl f_5)), (a_18, .inl (cy 1, 8, .inl z16_8_311))] → va_S A s.heap H locs → ∀ (ls : Array Slot), lv_has ls 7 [(5, .int x16_5_306), (4, .int x16_4_307), (0, .ref a_0), (1, .int i_0), (2, .int i_1), (3, .int i_2)] → W p l e R s m args below meth c H locs 0 0 Q (F0 m 16 ls []) := by
      intro n
      induction n with
      | zero => intro x16_5_306 x16_4_307 y16_0_29_308 y16_0_30_309 y16_0_31_310 z16_8_311 rx16_5_306 rx16_4_307 ry16_0_29_308 rz16_8_311 hm; exact absurd hm (Nat.not_lt_zero _)
      | succ n ih16 =>
        intro x16_5_306 x16_4_307 y16_0_29_308 y16_0_30_309 y16_0_31_310 z16_8_311 rx16_5_306 rx16_4_307 ry16_0_29_308 rz16_8_311 hm16 H locs hP hD hS ls hl
        refine lv_iload hx hb dX12_heirsOf_16 (lv_at hl 0 rfl) ?_
        refine lv_aload_n hx hb dX12_heirsOf_18 rfl (lv_at hl 2 rfl) ?_
        refine mm_finir (va_runV (As := []) (rest := [.int x16_5_306]) ⟨hx, hb, hml, hown, hts⟩ (M95_X12_texts l G cy H.size a_0 i_3 a_1 a_2 a_3 a_4 a_5 i_4 i_5 i_6 i_7 i_8 j_0 i_9 i_10 i_11 i_12 a_6 a_7 a_8 a_9 a_10 a_11 a_12 a_13 a_14 a_15 a_16 a_17 a_18 y16_0_29_308 y16_0_30_309 y16_0_31_310 i_16 i_17 i_18 a_19 i_19 a_20 i_20 i_21 i_22 i_23 i_24 i_25 i_26 i_27 i_28 i_29 i_30 i_31 i_32 i_33 i_34 i_35 i_36 i_37 i_38 i_39 i_40 i_41 i_42 i_43 i_44 i_45 i_46 i_47 i_48 i_49 h4 h5 h6 h7 h8 h9 h10 h11 h12 h13 h14 h15 h16 h17 h18 h19 h20 h21 h22 h23 h24 h25 h26 h27 h28 h29 h30 h31 h32 h33) (cwV 0 hts (mm_gV mm_w617 mm_w618 mm_w619 mm_w5 mm_w620) rfl rfl rfl hd_X12_texts ⟨by rw [hRf]; exact Nat.le_of_ble_eq_true rfl, by rw [hRl]; exact Nat.le_of_ble_eq_true rfl⟩) (mm_preV hK hZ hS hA hP hD [0, 1] rfl rfl 0 rfl rfl rfl) rfl rfl hl.1 rfl (lv_room (Nat.le_of_ble_eq_true rfl)) dX12_heirsOf_19 ⟨by rw [hRc]; exact Nat.le_of_ble_eq_true rfl, by rw [hRs]; exact Nat.le_of_ble_eq_true rfl⟩) hP hD hS hA [0, 1] rfl (fun _ => rfl) ?_
        clear hP hD hS
        clear H locs
        intro v313 _u H locs hw hP hD hS
        subst hw
        refine lv_icmp_ge (tgt := 86) hx hb dX12_heirsOf_22 (by decide) (fun c314 => ?_) (fun c314 => ?_)
        · refine lv_iload hx hb dX12_heirsOf_86 (lv_at hl 1 rfl) ?_
          subst hAe
          rw [hQ]
          exact W.iret (v := x16_4_307) hx hb hr (fun t ht hW => ⟨⟨x16_4_307, (y16_0_29_308, y16_0_30_309, y16_0_31_310, z16_8_311), rfl, ⟨ry16_0_29_308, rz16_8_311, rx16_4_307⟩, by rw [ht]; exact hP, hK.warm hW, hD⟩, hS.F ht⟩) hS.2.2 dX12_heirsOf_88
        · have q315 := mm_ltL (h := 5) (mm_nle c314) rx16_5_306 h8 (by decide)
          have q316 := mm_ltR (lo := 1) (mm_nle c314) rx16_5_306 h8 (by decide)
          refine lv_iload_n hx hb dX12_heirsOf_25 rfl (lv_at hl 5 rfl) ?_
          refine lv_iload hx hb dX12_heirsOf_26 (lv_at hl 0 rfl) ?_
          refine mm_finir (va_runS (As := [.int i_2, .int x16_5_306]) (rest := []) ⟨hx, hb, hml, hown, hts⟩ (M232_X12_isBit l G cy H.size i_2 x16_5_306 (mm_wk q2 (by decide)) q315) (va_cwS 2 hts (mm_gS mm_w1461 mm_w1462 mm_w5 mm_w1463) rfl rfl rfl hs_X12_isBit ⟨by rw [hRf]; exact Nat.le_of_ble_eq_true rfl, by rw [hRl]; exact Nat.le_of_ble_eq_true rfl⟩) (mm_preS hK hZ hS hA hP hD [] rfl rfl) rfl rfl hl.1 rfl (lv_room (Nat.le_of_ble_eq_true rfl)) dX12_heirsOf_28 ⟨by rw [hRc]; exact Nat.le_of_ble_eq_true rfl, by rw [hRs]; exact Nat.le_of_ble_eq_true rfl⟩) hP hD hS hA [] rfl (fun _ => rfl) ?_
          clear hP hD hS
          clear H locs
          intro v317 _u H locs hw hP hD hS
          rcases hw with ⟨rfl, w318⟩ | ⟨rfl, w319⟩
          · refine lv_if_ne (tgt := 37) hx hb dX12_heirsOf_31 (by decide) (fun c320 => ?_) (fun c320 => ?_)
            · exact absurd rfl (mm_ne c320)
            · refine lv_goto (tgt := 80) hx hb dX12_heirsOf_34 (by decide) ?_
              obtain ⟨v321, ev321⟩ : ∃ y : Int32, y = x16_5_306 + 1 := ⟨_, rfl⟩
              refine lv_iinc (v := v321) (lv' := [(5, .int v321), (4, .int x16_4_307), (0, .ref a_0), (1, .int i_0), (2, .int i_1), (3, .int i_2)]) hx hb dX12_heirsOf_80 hl (k := 0) rfl (by rw [ev321]; rfl) (by decide) rfl ?_
              clear hl
              clear ls
              intro ls hl
              have rv321 : mm_rg v321 1 6 := mm_add ev321 q315 mm_k1 (by decide) (by decide)
              have tv321 := mm_addEc ev321 q315 mm_k1 (by decide) (k := 1) (by decide)
              refine lv_goto (tgt := 16) hx hb dX12_heirsOf_83 (by decide) ?_
              exact ih16 v321 x16_4_307 y16_0_29_308 y16_0_30_309 y16_0_31_310 z16_8_311 (mm_wk rv321 (by decide)) rx16_4_307 ry16_0_29_308 rz16_8_311 (mm_mu hm16 tv321 (by decide) (rv321).2 (by decide)) H locs hP hD hS ls (lv_sub hl [0, 1, 2, 3, 4, 5] rfl)
          · refine lv_if_ne (tgt := 37) hx hb dX12_heirsOf_31 (by decide) (fun c322 => ?_) (fun c322 => ?_)
            · refine lv_aload_n hx hb dX12_heirsOf_37 rfl (lv_at hl 2 rfl) ?_
              refine lv_iload_n hx hb dX12_heirsOf_38 rfl (lv_at hl 3 rfl) ?_
              refine lv_iload_n hx hb dX12_heirsOf_39 rfl (lv_at hl 4 rfl) ?_
              refine lv_iload hx hb dX12_heirsOf_40 (lv_at hl 0 rfl) ?_
              refine mm_fini (va_runV (As := [.int i_0, .int i_1, .int x16_5_306]) (rest := []) ⟨hx, hb, hml, hown, hts⟩ (M141_X12_reads l G cy H.size a_0 i_0 i_1 x16_5_306 i_3 a_1 a_2 a_3 a_4 a_5 i_4 i_5 i_6 i_7 i_8 j_0 i_9 i_10 i_11 i_12 a_6 a_7 a_8 a_9 a_10 a_11 a_12 a_13 a_14 a_15 a_16 a_17 a_18 y16_0_29_308 y16_0_30_309 y16_0_31_310 i_16 i_17 i_18 a_19 i_19 a_20 i_20 i_21 i_22 i_23 i_24 i_25 i_26 i_27 i_28 i_29 i_30 i_31 i_32 i_33 i_34 i_35 i_36 i_37 i_38 i_39 i_40 i_41 i_42 i_43 i_44 i_45 i_46 i_47 i_48 i_49 f_0 f_1 f_2 f_3 f_4 f_5 z16_8_311 h0 (mm_wk h1 (by decide)) q315 ry16_0_29_308 h4 h5 h6 h7 (mm_wk q316 (by decide)) h9 h10 h11 h12 h13 h14 h15 h16 h17 h18 h19 h20 h21 h22 h23 h24 h25 h26 h27 h28 h29 h30 h31 h32 h33 h34 h35 h36 h37 h38 h39 rz16_8_311 h41 h42 h43 h44 h45 h46 h47 h48 h49) (cwV 3 hts (mm_gV mm_w852 mm_w853 mm_w854 mm_w5 mm_w855) rfl rfl rfl hd_X12_reads ⟨by rw [hRf]; exact Nat.le_of_ble_eq_true rfl, by rw [hRl]; exact Nat.le_of_ble_eq_true rfl⟩) (mm_preV hK hZ hS hA hP hD [0, 1, 2, 3, 4, 5, 6, 7, 8] rfl rfl 0 rfl rfl rfl) rfl rfl hl.1 rfl (lv_room (Nat.le_of_ble_eq_true rfl)) dX12_heirsOf_42 ⟨by rw [hRc]; exact Nat.le_of_ble_eq_true rfl, by rw [hRs]; exact Nat.le_of_ble_eq_true rfl⟩) hP hD hS hA (fun u : Int32 × Int32 × Int32 × (Nat → Int32) => [(a_0, .inr (12, [.int i_3, .ref a_1, .ref a_2, .ref a_3, .ref a_4, .ref a_5, .int i_4, .int i_5, .int i_6, .int i_7, .int i_8, .long j_0, .int i_9, .int i_10, .int i_11, .int i_12, .ref a_6, .ref a_7, .ref a_8, .ref a_9, .ref a_10, .ref a_11, .ref a_12, .ref a_13, .ref a_14, .ref a_15, .ref a_16, .ref a_17, .ref a_18, .int u.1, .int u.2.1, .int u.2.2.1, .int i_16, .int i_17, .int i_18, .ref a_19, .int i_19, .ref a_20])), (a_7, .inl (cy 1, 30, .inl (mm_g [i_20, i_21, i_22, i_23, i_24, i_25, i_26, i_27, i_28, i_29, i_30, i_31, i_32, i_33, i_34, i_35, i_36, i_37, i_38, i_39, i_40, i_41, i_42, i_43, i_44, i_45, i_46, i_47, i_48, i_49]))), (a_8, .inl (cy 1, 90, .inl f_0)), (a_11, .inl (cy 1, 30, .inl f_1)), (a_12, .inl (cy 1, 240, .inl f_2)), (a_13, .inl (cy 1, 450, .inl f_3)), (a_15, .inl (cy 1, 7200, .inl f_4)), (a_16, .inl (cy 1, 3, .inl f_5)), (a_18, .inl (cy 1, 8, .inl u.2.2.2))]) [0, 1, 2, 3, 4, 5, 6, 7, 8] [] (n := 9) (fun _ => rfl) (by decide +kernel) (by decide +kernel) rfl (fun _ => rfl) (wr := []) rfl (fun _ => rfl) (fun _ => @rfl _ ([a_0, a_7, a_8, a_11, a_12, a_13, a_15, a_16, a_18] : List Nat)) ?_
              clear hP hD hS
              clear H locs
              intro v327 u
              obtain ⟨n323, n324, n325, n326⟩ := u
              intro H locs hw (hP : va_P G vwCl [(a_0, .inr (12, [.int i_3, .ref a_1, .ref a_2, .ref a_3, .ref a_4, .ref a_5, .int i_4, .int i_5, .int i_6, .int i_7, .int i_8, .long j_0, .int i_9, .int i_10, .int i_11, .int i_12, .ref a_6, .ref a_7, .ref a_8, .ref a_9, .ref a_10, .ref a_11, .ref a_12, .ref a_13, .ref a_14, .ref a_15, .ref a_16, .ref a_17, .ref a_18, .int n323, .int n324, .int n325, .int i_16, .int i_17, .int i_18, .ref a_19, .int i_19, .ref a_20])), (a_7, .inl (cy 1, 30, .inl (mm_g [i_20, i_21, i_22, i_23, i_24, i_25, i_26, i_27, i_28, i_29, i_30, i_31, i_32, i_33, i_34, i_35, i_36, i_37, i_38, i_39, i_40, i_41, i_42, i_43, i_44, i_45, i_46, i_47, i_48, i_49]))), (a_8, .inl (cy 1, 90, .inl f_0)), (a_11, .inl (cy 1, 30, .inl f_1)), (a_12, .inl (cy 1, 240, .inl f_2)), (a_13, .inl (cy 1, 450, .inl f_3)), (a_15, .inl (cy 1, 7200, .inl f_4)), (a_16, .inl (cy 1, 3, .inl f_5)), (a_18, .inl (cy 1, 8, .inl n326))] H) (hD : va_D A [(a_0, .inr (12, [.int i_3, .ref a_1, .ref a_2, .ref a_3, .ref a_4, .ref a_5, .int i_4, .int i_5, .int i_6, .int i_7, .int i_8, .long j_0, .int i_9, .int i_10, .int i_11, .int i_12, .ref a_6, .ref a_7, .ref a_8, .ref a_9, .ref a_10, .ref a_11, .ref a_12, .ref a_13, .ref a_14, .ref a_15, .ref a_16, .ref a_17, .ref a_18, .int n323, .int n324, .int n325, .int i_16, .int i_17, .int i_18, .ref a_19, .int i_19, .ref a_20])), (a_7, .inl (cy 1, 30, .inl (mm_g [i_20, i_21, i_22, i_23, i_24, i_25, i_26, i_27, i_28, i_29, i_30, i_31, i_32, i_33, i_34, i_35, i_36, i_37, i_38, i_39, i_40, i_41, i_42, i_43, i_44, i_45, i_46, i_47, i_48, i_49]))), (a_8, .inl (cy 1, 90, .inl f_0)), (a_11, .inl (cy 1, 30, .inl f_1)), (a_12, .inl (cy 1, 240, .inl f_2)), (a_13, .inl (cy 1, 450, .inl f_3)), (a_15, .inl (cy 1, 7200, .inl f_4)), (a_16, .inl (cy 1, 3, .inl f_5)), (a_18, .inl (cy 1, 8, .inl n326))]) hS
              obtain ⟨w328, w329, hw⟩ := hw
              obtain ⟨w330, w331⟩ := hw
              replace w331 : mm_rd f_4 f_5 f_0 f_1 f_2 f_3 i_0 i_1 x16_5_306 i_21 i_22 i_25 v327 := w331
              refine lv_aload_n hx hb dX12_heirsOf_45 rfl (lv_at hl 2 rfl) ?_
              refine lv_iload_n hx hb dX12_heirsOf_46 rfl (lv_at hl 3 rfl) ?_
              refine lv_iload_n hx hb dX12_heirsOf_47 rfl (lv_at hl 4 rfl) ?_
              refine lv_iconst (v := 1) hx hb dX12_heirsOf_48 (by decide) ?_
              refine lv_iadd hx hb dX12_heirsOf_49 ?_
              refine lv_topi (fun v332 ev332 => ?_)
              have rv332 : mm_rg v332 1 1000000005 := mm_add ev332 h1 mm_k1 (by decide) (by decide)
              have tv332 := mm_addEc ev332 h1 mm_k1 (by decide) (k := 1) (by decide)
              refine lv_iload_n hx hb dX12_heirsOf_50 rfl (lv_at hl 5 rfl) ?_
              refine lv_iconst (v := 1) hx hb dX12_heirsOf_51 (by decide) ?_
              refine lv_iload hx hb dX12_heirsOf_52 (lv_at hl 0 rfl) ?_
              refine lv_ishl hx hb dX12_heirsOf_54 ?_
              refine lv_topi (fun v333 ev333 => ?_)
              have rv333 : mm_rg v333 1 32 := mm_shl1 ev333 q315 (by decide)
              refine lv_iconst (v := (-1)) hx hb dX12_heirsOf_55 (by decide) ?_
              refine lv_ixor hx hb dX12_heirsOf_56 ?_
              refine lv_topi (fun v334 ev334 => ?_)
              refine lv_iand hx hb dX12_heirsOf_57 ?_
              refine lv_topi (fun v335 ev335 => ?_)
              have rv335 : mm_rg v335 0 63 := mm_andL ev335 q2 (by decide)
              refine mm_fini (va_runV (As := [.int i_0, .int v332, .int v335]) (rest := [.int v327]) ⟨hx, hb, hml, hown, hts⟩ (M235_X12_heirsOf l G cy H.size a_0 i_0 v332 v335 i_3 a_1 a_2 a_3 a_4 a_5 i_4 i_5 i_6 i_7 i_8 j_0 i_9 i_10 i_11 i_12 a_6 a_7 a_8 a_9 a_10 a_11 a_12 a_13 a_14 a_15 a_16 a_17 a_18 n323 n324 n325 i_16 i_17 i_18 a_19 i_19 a_20 i_20 i_21 i_22 i_23 i_24 i_25 i_26 i_27 i_28 i_29 i_30 i_31 i_32 i_33 i_34 i_35 i_36 i_37 i_38 i_39 i_40 i_41 i_42 i_43 i_44 i_45 i_46 i_47 i_48 i_49 f_0 f_1 f_2 f_3 f_4 f_5 n326 h0 (mm_wk rv332 (by decide)) rv335 w328 h4 h5 h6 h7 (mm_wk q316 (by decide)) h9 h10 h11 h12 h13 h14 h15 h16 h17 h18 h19 h20 h21 h22 h23 h24 h25 h26 h27 h28 h29 h30 h31 h32 h33 h34 h35 h36 h37 h38 h39 w329 h41 h42 h43 h44 h45 h46 h47 h48 h49 (mm_pc_cut h50 w319 ev333 ev334 ev335 q2 q315 (by decide))) (cwV 3 hts (mm_gV mm_w1456 mm_w1457 mm_w1458 mm_w5 mm_w1459) rfl rfl rfl hd_X12_heirsOf ⟨by rw [hRf]; exact Nat.le_of_ble_eq_true rfl, by rw [hRl]; exact Nat.le_of_ble_eq_true rfl⟩) (mm_preV hK hZ hS hA hP hD [0, 1, 2, 3, 4, 5, 6, 7, 8] rfl rfl 0 rfl rfl rfl) rfl rfl hl.1 rfl (lv_room (Nat.le_of_ble_eq_true rfl)) dX12_heirsOf_58 ⟨by rw [hRc]; exact Nat.le_of_ble_eq_true rfl, by rw [hRs]; exact Nat.le_of_ble_eq_true rfl⟩) hP hD hS hA (fun u : Int32 × Int32 × Int32 × (Nat → Int32) => [(a_0, .inr (12, [.int i_3, .ref a_1, .ref a_2, .ref a_3, .ref a_4, .ref a_5, .int i_4, .int i_5, .int i_6, .int i_7, .int i_8, .long j_0, .int i_9, .int i_10, .int i_11, .int i_12, .ref a_6, .ref a_7, .ref a_8, .ref a_9, .ref a_10, .ref a_11, .ref a_12, .ref a_13, .ref a_14, .ref a_15, .ref a_16, .ref a_17, .ref a_18, .int u.1, .int u.2.1, .int u.2.2.1, .int i_16, .int i_17, .int i_18, .ref a_19, .int i_19, .ref a_20])), (a_7, .inl (cy 1, 30, .inl (mm_g [i_20, i_21, i_22, i_23, i_24, i_25, i_26, i_27, i_28, i_29, i_30, i_31, i_32, i_33, i_34, i_35, i_36, i_37, i_38, i_39, i_40, i_41, i_42, i_43, i_44, i_45, i_46, i_47, i_48, i_49]))), (a_8, .inl (cy 1, 90, .inl f_0)), (a_11, .inl (cy 1, 30, .inl f_1)), (a_12, .inl (cy 1, 240, .inl f_2)), (a_13, .inl (cy 1, 450, .inl f_3)), (a_15, .inl (cy 1, 7200, .inl f_4)), (a_16, .inl (cy 1, 3, .inl f_5)), (a_18, .inl (cy 1, 8, .inl u.2.2.2))]) [0, 1, 2, 3, 4, 5, 6, 7, 8] [] (n := 9) (fun _ => rfl) (by decide +kernel) (by decide +kernel) rfl (fun _ => rfl) (wr := []) rfl (fun _ => rfl) (fun _ => @rfl _ ([a_0, a_7, a_8, a_11, a_12, a_13, a_15, a_16, a_18] : List Nat)) ?_
              clear hP hD hS
              clear H locs
              intro v340 u
              obtain ⟨n336, n337, n338, n339⟩ := u
              intro H locs hw (hP : va_P G vwCl [(a_0, .inr (12, [.int i_3, .ref a_1, .ref a_2, .ref a_3, .ref a_4, .ref a_5, .int i_4, .int i_5, .int i_6, .int i_7, .int i_8, .long j_0, .int i_9, .int i_10, .int i_11, .int i_12, .ref a_6, .ref a_7, .ref a_8, .ref a_9, .ref a_10, .ref a_11, .ref a_12, .ref a_13, .ref a_14, .ref a_15, .ref a_16, .ref a_17, .ref a_18, .int n336, .int n337, .int n338, .int i_16, .int i_17, .int i_18, .ref a_19, .int i_19, .ref a_20])), (a_7, .inl (cy 1, 30, .inl (mm_g [i_20, i_21, i_22, i_23, i_24, i_25, i_26, i_27, i_28, i_29, i_30, i_31, i_32, i_33, i_34, i_35, i_36, i_37, i_38, i_39, i_40, i_41, i_42, i_43, i_44, i_45, i_46, i_47, i_48, i_49]))), (a_8, .inl (cy 1, 90, .inl f_0)), (a_11, .inl (cy 1, 30, .inl f_1)), (a_12, .inl (cy 1, 240, .inl f_2)), (a_13, .inl (cy 1, 450, .inl f_3)), (a_15, .inl (cy 1, 7200, .inl f_4)), (a_16, .inl (cy 1, 3, .inl f_5)), (a_18, .inl (cy 1, 8, .inl n339))] H) (hD : va_D A [(a_0, .inr (12, [.int i_3, .ref a_1, .ref a_2, .ref a_3, .ref a_4, .ref a_5, .int i_4, .int i_5, .int i_6, .int i_7, .int i_8, .long j_0, .int i_9, .int i_10, .int i_11, .int i_12, .ref a_6, .ref a_7, .ref a_8, .ref a_9, .ref a_10, .ref a_11, .ref a_12, .ref a_13, .ref a_14, .ref a_15, .ref a_16, .ref a_17, .ref a_18, .int n336, .int n337, .int n338, .int i_16, .int i_17, .int i_18, .ref a_19, .int i_19, .ref a_20])), (a_7, .inl (cy 1, 30, .inl (mm_g [i_20, i_21, i_22, i_23, i_24, i_25, i_26, i_27, i_28, i_29, i_30, i_31, i_32, i_33, i_34, i_35, i_36, i_37, i_38, i_39, i_40, i_41, i_42, i_43, i_44, i_45, i_46, i_47, i_48, i_49]))), (a_8, .inl (cy 1, 90, .inl f_0)), (a_11, .inl (cy 1, 30, .inl f_1)), (a_12, .inl (cy 1, 240, .inl f_2)), (a_13, .inl (cy 1, 450, .inl f_3)), (a_15, .inl (cy 1, 7200, .inl f_4)), (a_16, .inl (cy 1, 3, .inl f_5)), (a_18, .inl (cy 1, 8, .inl n339))]) hS
              obtain ⟨w341, w342, hw⟩ := hw
              have w343 := hw
              refine lv_isub hx hb dX12_heirsOf_61 ?_
              refine lv_topi (fun v344 ev344 => ?_)
              have rv344 : mm_rg v344 (-1009999) 1009999 := mm_sub ev344 w330 w343 (by decide) (by decide)
              have tv344 := mm_subE ev344 w330 w343 (by decide)
              refine lv_istore (lv' := [(6, .int v344), (5, .int x16_5_306), (4, .int x16_4_307), (0, .ref a_0), (1, .int i_0), (2, .int i_1), (3, .int i_2)]) hx hb dX12_heirsOf_62 hl (by decide) rfl ?_
              clear hl
              clear ls
              intro ls hl
              refine lv_iload hx hb dX12_heirsOf_64 (lv_at hl 0 rfl) ?_
              refine lv_iload hx hb dX12_heirsOf_66 (lv_at hl 2 rfl) ?_
              refine lv_icmp_le (tgt := 76) hx hb dX12_heirsOf_68 (by decide) (fun c345 => ?_) (fun c345 => ?_)
              · refine lv_iload hx hb dX12_heirsOf_76 (lv_at hl 2 rfl) ?_
                refine lv_istore (lv' := [(4, .int x16_4_307), (6, .int v344), (5, .int x16_5_306), (0, .ref a_0), (1, .int i_0), (2, .int i_1), (3, .int i_2)]) hx hb dX12_heirsOf_78 hl (by decide) rfl ?_
                clear hl
                clear ls
                intro ls hl
                obtain ⟨v346, ev346⟩ : ∃ y : Int32, y = x16_5_306 + 1 := ⟨_, rfl⟩
                refine lv_iinc (v := v346) (lv' := [(5, .int v346), (4, .int x16_4_307), (6, .int v344), (0, .ref a_0), (1, .int i_0), (2, .int i_1), (3, .int i_2)]) hx hb dX12_heirsOf_80 hl (k := 2) rfl (by rw [ev346]; rfl) (by decide) rfl ?_
                clear hl
                clear ls
                intro ls hl
                have rv346 : mm_rg v346 1 6 := mm_add ev346 q315 mm_k1 (by decide) (by decide)
                have tv346 := mm_addEc ev346 q315 mm_k1 (by decide) (k := 1) (by decide)
                refine lv_goto (tgt := 16) hx hb dX12_heirsOf_83 (by decide) ?_
                exact ih16 v346 x16_4_307 n336 n337 n338 n339 (mm_wk rv346 (by decide)) rx16_4_307 w341 w342 (mm_mu hm16 tv346 (by decide) (rv346).2 (by decide)) H locs hP hD hS ls (lv_sub hl [0, 1, 3, 4, 5, 6] rfl)
              · have q347 := mm_ltL (h := 1009998) (mm_nle c345) rx16_4_307 rv344 (by decide)
                have q348 := mm_ltR (lo := (-999999)) (mm_nle c345) rx16_4_307 rv344 (by decide)
                have q349 : mm_rg v340 (-1000000) 1009998 := mm_unsubY tv344 q348 w330 w343 (by decide)
                refine lv_iload hx hb dX12_heirsOf_71 (lv_at hl 0 rfl) ?_
                refine lv_goto (tgt := 78) hx hb dX12_heirsOf_73 (by decide) ?_
                refine lv_istore (lv' := [(4, .int v344), (6, .int v344), (5, .int x16_5_306), (0, .ref a_0), (1, .int i_0), (2, .int i_1), (3, .int i_2)]) hx hb dX12_heirsOf_78 hl (by decide) rfl ?_
                clear hl
                clear ls
                intro ls hl
                obtain ⟨v350, ev350⟩ : ∃ y : Int32, y = x16_5_306 + 1 := ⟨_, rfl⟩
                refine lv_iinc (v := v350) (lv' := [(5, .int v350), (4, .int v344), (6, .int v344), (0, .ref a_0), (1, .int i_0), (2, .int i_1), (3, .int i_2)]) hx hb dX12_heirsOf_80 hl (k := 2) rfl (by rw [ev350]; rfl) (by decide) rfl ?_
                clear hl
                clear ls
                intro ls hl
                have rv350 : mm_rg v350 1 6 := mm_add ev350 q315 mm_k1 (by decide) (by decide)
                have tv350 := mm_addEc ev350 q315 mm_k1 (by decide) (k := 1) (by decide)
                refine lv_goto (tgt := 16) hx hb dX12_heirsOf_83 (by decide) ?_
                exact ih16 v350 v344 n336 n337 n338 n339 (mm_wk rv350 (by decide)) (mm_wk q348 (by decide)) w341 w342 (mm_mu hm16 tv350 (by decide) (rv350).2 (by decide)) H locs hP hD hS ls (lv_sub hl [0, 1, 3, 4, 5, 6] rfl)
            · exact mm_eqN c322.symm mm_k0 mm_k1 (by decide)
    exact L16_311 _ 0 (-1000000) i_13 i_14 i_15 f_6 (mm_wk mm_k0 (by decide)) (mm_wk mm_km1000000 (by decide)) h3 h40 (Nat.lt_succ_self _) H locs hP hD hS ls (lv_sub hl [0, 1, 2, 3, 4, 5] rfl)
  · have q351 := mm_eqI (lo := 0) (hi := 0) c1 h2 mm_k0 (by decide)
    refine lv_iconst (v := 0) hx hb dX12_heirsOf_4 (by decide) ?_
    refine lv_goto (tgt := 11) hx hb dX12_heirsOf_5 (by decide) ?_
    refine lv_istore (lv' := [(4, .int 0), (0, .ref a_0), (1, .int i_0), (2, .int i_1), (3, .int i_2)]) hx hb dX12_heirsOf_11 hl (by decide) rfl ?_
    clear hl
    clear ls
    intro ls hl
    refine lv_iconst (v := 0) hx hb dX12_heirsOf_13 (by decide) ?_
    refine lv_istore (lv' := [(5, .int 0), (4, .int 0), (0, .ref a_0), (1, .int i_0), (2, .int i_1), (3, .int i_2)]) hx hb dX12_heirsOf_14 hl (by decide) rfl ?_
    clear hl
    clear ls
    intro ls hl
    have L16_423 : ∀ (n : Nat) (x16_5_423 : Int32), mm_rg x16_5_423 0 6 → (6 - x16_5_423.toInt).toNat < n → ∀ (H : Heap) (locs : List Loc), va_P G vwCl [(a_0, .inr (12, [.int i_3, .ref a_1, .ref a_2, .ref a_3, .ref a_4, .ref a_5, .int i_4, .int i_5, .int i_6, .int i_7, .int i_8, .long j_0, .int i_9, .int i_10, .int i_11, .int i_12, .ref a_6, .ref a_7, .ref a_8, .ref a_9, .ref a_10, .ref a_11, .ref a_12, .ref a_13, .ref a_14, .ref a_15, .ref a_16, .ref a_17, .ref a_18, .int i_13, .int i_14, .int i_15, .int i_16, .int i_17, .int i_18, .ref a_19, .int i_19, .ref a_20])), (a_7, .inl (cy 1, 30, .inl (mm_g [i_20, i_21, i_22, i_23, i_24, i_25, i_26, i_27, i_28, i_29, i_30, i_31, i_32, i_33, i_34, i_35, i_36, i_37, i_38, i_39, i_40, i_41, i_42, i_43, i_44, i_45, i_46, i_47, i_48, i_49]))), (a_8, .inl (cy 1, 90, .inl f_0)), (a_11, .inl (cy 1, 30, .inl f_1)), (a_12, .inl (cy 1, 240, .inl f_2)), (a_13, .inl (cy 1, 450, .inl f_3)), (a_15, .inl (cy 1, 7200, .inl f_4)), (a_16, .inl (cy 1, 3, .inl f_5)), (a_18, .inl (cy 1, 8, .inl f_6))] H → va_D A [(a_0, .inr (12, [.int i_3, .ref a_1, .ref a_2, .ref a_3, .ref a_4, .ref a_5, .int i_4, .int i_5, .int i_6, .int i_7, .int i_8, .long j_0, .int i_9, .int i_10, .int i_11, .int i_12, .ref a_6, .ref a_7, .ref a_8, .ref a_9, .ref a_10, .ref a_11, .ref a_12, .ref a_13, .ref a_14, .ref a_15, .ref a_16, .ref a_17, .ref a_18, .int i_13, .int i_14, .int i_15, .int i_16, .int i_17, .int i_18, .ref a_19, .int i_19, .ref a_20])), (a_7, .inl (cy 1, 30, .inl (mm_g [i_20, i_21, i_22, i_23, i_24, i_25, i_26, i_27, i_28, i_29, i_30, i_31, i_32, i_33, i_34, i_35, i_36, i_37, i_38, i_39, i_40, i_41, i_42, i_43, i_44, i_45, i_46, i_47, i_48, i_49]))), (a_8, .inl (cy 1, 90, .inl f_0)), (a_11, .inl (cy 1, 30, .inl f_1)), (a_12, .inl (cy 1, 240, .inl f_2)), (a_13, .inl (cy 1, 450, .inl f_3)), (a_15, .inl (cy 1, 7200, .inl f_4)), (a_16, .inl (cy 1, 3, .inl f_5)), (a_18, .inl (cy 1, 8, .inl f_6))] → va_S A s.heap H locs → ∀ (ls : Array Slot), lv_has ls 7 [(5, .int x16_5_423), (4, .int 0), (0, .ref a_0), (1, .int i_0), (2, .int i_1), (3, .int i_2)] → W p l e R s m args below meth c H locs 0 0 Q (F0 m 16 ls []) := by
      intro n
      induction n with
      | zero => intro x16_5_423 rx16_5_423 hm; exact absurd hm (Nat.not_lt_zero _)
      | succ n ih16 =>
        intro x16_5_423 rx16_5_423 hm16 H locs hP hD hS ls hl
        refine lv_iload hx hb dX12_heirsOf_16 (lv_at hl 0 rfl) ?_
        refine lv_aload_n hx hb dX12_heirsOf_18 rfl (lv_at hl 2 rfl) ?_
        refine mm_finir (va_runV (As := []) (rest := [.int x16_5_423]) ⟨hx, hb, hml, hown, hts⟩ (M95_X12_texts l G cy H.size a_0 i_3 a_1 a_2 a_3 a_4 a_5 i_4 i_5 i_6 i_7 i_8 j_0 i_9 i_10 i_11 i_12 a_6 a_7 a_8 a_9 a_10 a_11 a_12 a_13 a_14 a_15 a_16 a_17 a_18 i_13 i_14 i_15 i_16 i_17 i_18 a_19 i_19 a_20 i_20 i_21 i_22 i_23 i_24 i_25 i_26 i_27 i_28 i_29 i_30 i_31 i_32 i_33 i_34 i_35 i_36 i_37 i_38 i_39 i_40 i_41 i_42 i_43 i_44 i_45 i_46 i_47 i_48 i_49 h4 h5 h6 h7 h8 h9 h10 h11 h12 h13 h14 h15 h16 h17 h18 h19 h20 h21 h22 h23 h24 h25 h26 h27 h28 h29 h30 h31 h32 h33) (cwV 0 hts (mm_gV mm_w617 mm_w618 mm_w619 mm_w5 mm_w620) rfl rfl rfl hd_X12_texts ⟨by rw [hRf]; exact Nat.le_of_ble_eq_true rfl, by rw [hRl]; exact Nat.le_of_ble_eq_true rfl⟩) (mm_preV hK hZ hS hA hP hD [0, 1] rfl rfl 0 rfl rfl rfl) rfl rfl hl.1 rfl (lv_room (Nat.le_of_ble_eq_true rfl)) dX12_heirsOf_19 ⟨by rw [hRc]; exact Nat.le_of_ble_eq_true rfl, by rw [hRs]; exact Nat.le_of_ble_eq_true rfl⟩) hP hD hS hA [0, 1] rfl (fun _ => rfl) ?_
        clear hP hD hS
        clear H locs
        intro v425 _u H locs hw hP hD hS
        subst hw
        refine lv_icmp_ge (tgt := 86) hx hb dX12_heirsOf_22 (by decide) (fun c426 => ?_) (fun c426 => ?_)
        · refine lv_iload hx hb dX12_heirsOf_86 (lv_at hl 1 rfl) ?_
          subst hAe
          rw [hQ]
          exact W.iret (v := 0) hx hb hr (fun t ht hW => ⟨⟨0, (i_13, i_14, i_15, f_6), rfl, ⟨h3, h40, (mm_wk mm_k0 (by decide))⟩, by rw [ht]; exact hP, hK.warm hW, hD⟩, hS.F ht⟩) hS.2.2 dX12_heirsOf_88
        · have q427 := mm_ltL (h := 5) (mm_nle c426) rx16_5_423 h8 (by decide)
          have q428 := mm_ltR (lo := 1) (mm_nle c426) rx16_5_423 h8 (by decide)
          refine lv_iload_n hx hb dX12_heirsOf_25 rfl (lv_at hl 5 rfl) ?_
          refine lv_iload hx hb dX12_heirsOf_26 (lv_at hl 0 rfl) ?_
          refine mm_finir (va_runS (As := [.int i_2, .int x16_5_423]) (rest := []) ⟨hx, hb, hml, hown, hts⟩ (M232_X12_isBit l G cy H.size i_2 x16_5_423 (mm_wk q351 (by decide)) q427) (va_cwS 2 hts (mm_gS mm_w1461 mm_w1462 mm_w5 mm_w1463) rfl rfl rfl hs_X12_isBit ⟨by rw [hRf]; exact Nat.le_of_ble_eq_true rfl, by rw [hRl]; exact Nat.le_of_ble_eq_true rfl⟩) (mm_preS hK hZ hS hA hP hD [] rfl rfl) rfl rfl hl.1 rfl (lv_room (Nat.le_of_ble_eq_true rfl)) dX12_heirsOf_28 ⟨by rw [hRc]; exact Nat.le_of_ble_eq_true rfl, by rw [hRs]; exact Nat.le_of_ble_eq_true rfl⟩) hP hD hS hA [] rfl (fun _ => rfl) ?_
          clear hP hD hS
          clear H locs
          intro v429 _u H locs hw hP hD hS
          rcases hw with ⟨rfl, w430⟩ | ⟨rfl, w431⟩
          · refine lv_if_ne (tgt := 37) hx hb dX12_heirsOf_31 (by decide) (fun c432 => ?_) (fun c432 => ?_)
            · exact absurd rfl (mm_ne c432)
            · refine lv_goto (tgt := 80) hx hb dX12_heirsOf_34 (by decide) ?_
              obtain ⟨v433, ev433⟩ : ∃ y : Int32, y = x16_5_423 + 1 := ⟨_, rfl⟩
              refine lv_iinc (v := v433) (lv' := [(5, .int v433), (4, .int 0), (0, .ref a_0), (1, .int i_0), (2, .int i_1), (3, .int i_2)]) hx hb dX12_heirsOf_80 hl (k := 0) rfl (by rw [ev433]; rfl) (by decide) rfl ?_
              clear hl
              clear ls
              intro ls hl
              have rv433 : mm_rg v433 1 6 := mm_add ev433 q427 mm_k1 (by decide) (by decide)
              have tv433 := mm_addEc ev433 q427 mm_k1 (by decide) (k := 1) (by decide)
              refine lv_goto (tgt := 16) hx hb dX12_heirsOf_83 (by decide) ?_
              exact ih16 v433 (mm_wk rv433 (by decide)) (mm_mu hm16 tv433 (by decide) (rv433).2 (by decide)) H locs hP hD hS ls (lv_sub hl [0, 1, 2, 3, 4, 5] rfl)
          · exact mm_bit_no w431 q351 (by decide)
    exact L16_423 _ 0 (mm_wk mm_k0 (by decide)) (Nat.lt_succ_self _) H locs hP hD hS ls (lv_sub hl [0, 1, 2, 3, 4, 5] rfl)

set_option maxHeartbeats 4000000 in
set_option maxRecDepth 100000 in
theorem M237_X12_heirsOf (l : Launch) (G : va_G) (cy : Nat → ClassId) (sz : Nat) (a_0 : Nat) (i_0 : Int32) (i_1 : Int32) (i_2 : Int32) (i_3 : Int32) (a_1 : Nat) (a_2 : Nat) (a_3 : Nat) (a_4 : Nat) (a_5 : Nat) (i_4 : Int32) (i_5 : Int32) (i_6 : Int32) (i_7 : Int32) (i_8 : Int32) (j_0 : Int64) (i_9 : Int32) (i_10 : Int32) (i_11 : Int32) (i_12 : Int32) (a_6 : Nat) (a_7 : Nat) (a_8 : Nat) (a_9 : Nat) (a_10 : Nat) (a_11 : Nat) (a_12 : Nat) (a_13 : Nat) (a_14 : Nat) (a_15 : Nat) (a_16 : Nat) (a_17 : Nat) (a_18 : Nat) (i_13 : Int32) (i_14 : Int32) (i_15 : Int32) (i_16 : Int32) (i_17 : Int32) (i_18 : Int32) (a_19 : Nat) (i_19 : Int32) (a_20 : Nat) (i_20 : Int32) (i_21 : Int32) (i_22 : Int32) (i_23 : Int32) (i_24 : Int32) (i_25 : Int32) (i_26 : Int32) (i_27 : Int32) (i_28 : Int32) (i_29 : Int32) (i_30 : Int32) (i_31 : Int32) (i_32 : Int32) (i_33 : Int32) (i_34 : Int32) (i_35 : Int32) (i_36 : Int32) (i_37 : Int32) (i_38 : Int32) (i_39 : Int32) (i_40 : Int32) (i_41 : Int32) (i_42 : Int32) (i_43 : Int32) (i_44 : Int32) (i_45 : Int32) (i_46 : Int32) (i_47 : Int32) (i_48 : Int32) (i_49 : Int32) (f_0 : Nat → Int32) (f_1 : Nat → Int32) (f_2 : Nat → Int32) (f_3 : Nat → Int32) (f_4 : Nat → Int32) (f_5 : Nat → Int32) (f_6 : Nat → Int32) (h0 : mm_rg i_0 0 2) (h1 : mm_rg i_1 0 1000000003) (h2 : mm_rg i_2 0 63) (h3 : mm_rg i_13 0 8) (h4 : mm_rg i_20 0 10) (h5 : mm_rg i_21 0 99) (h6 : mm_rg i_22 0 9) (h7 : mm_rg i_23 0 3) (h8 : mm_rg i_24 0 6) (h9 : mm_rg i_25 0 30) (h10 : mm_rg i_26 0 10) (h11 : mm_rg i_27 0 99) (h12 : mm_rg i_28 0 9) (h13 : mm_rg i_29 0 3) (h14 : mm_rg i_30 0 6) (h15 : mm_rg i_31 0 30) (h16 : mm_rg i_32 0 10) (h17 : mm_rg i_33 0 99) (h18 : mm_rg i_34 0 9) (h19 : mm_rg i_35 0 3) (h20 : mm_rg i_36 0 6) (h21 : mm_rg i_37 0 30) (h22 : mm_rg i_38 0 10) (h23 : mm_rg i_39 0 99) (h24 : mm_rg i_40 0 9) (h25 : mm_rg i_41 0 3) (h26 : mm_rg i_42 0 6) (h27 : mm_rg i_43 0 30) (h28 : mm_rg i_44 0 10) (h29 : mm_rg i_45 0 99) (h30 : mm_rg i_46 0 9) (h31 : mm_rg i_47 0 3) (h32 : mm_rg i_48 0 6) (h33 : mm_rg i_49 0 30) (h34 : mm_ar f_0 0 99) (h35 : mm_ar f_1 0 8) (h36 : mm_ar f_2 0 9) (h37 : mm_ar f_3 (-1) 99) (h38 : mm_ar f_4 0 9) (h39 : mm_ar f_5 0 210) (h40 : mm_ar f_6 0 9) (h41 : mm_txs f_1 f_2 0 i_22 i_24) (h42 : mm_acs f_3 0 i_22 i_23 i_25) (h43 : mm_txs f_1 f_2 1 i_28 i_30) (h44 : mm_acs f_3 1 i_28 i_29 i_31) (h45 : mm_txs f_1 f_2 2 i_34 i_36) (h46 : mm_acs f_3 2 i_34 i_35 i_37) (h47 : mm_txs f_1 f_2 3 i_40 i_42) (h48 : mm_acs f_3 3 i_40 i_41 i_43) (h49 : mm_f1 f_5 i_0) (h50 : mm_pc 4 i_2)  : mm_CI l yX12_heirsOf (mm_ws yX12_heirsOf cX12_heirsOf 7 (some .int)) ({ frames := 6, cells := 0, slots := 0, locals := 151 } : Room) G cy sz [(a_0, .inr (12, [.int i_3, .ref a_1, .ref a_2, .ref a_3, .ref a_4, .ref a_5, .int i_4, .int i_5, .int i_6, .int i_7, .int i_8, .long j_0, .int i_9, .int i_10, .int i_11, .int i_12, .ref a_6, .ref a_7, .ref a_8, .ref a_9, .ref a_10, .ref a_11, .ref a_12, .ref a_13, .ref a_14, .ref a_15, .ref a_16, .ref a_17, .ref a_18, .int i_13, .int i_14, .int i_15, .int i_16, .int i_17, .int i_18, .ref a_19, .int i_19, .ref a_20])), (a_7, .inl (cy 1, 30, .inl (mm_g [i_20, i_21, i_22, i_23, i_24, i_25, i_26, i_27, i_28, i_29, i_30, i_31, i_32, i_33, i_34, i_35, i_36, i_37, i_38, i_39, i_40, i_41, i_42, i_43, i_44, i_45, i_46, i_47, i_48, i_49]))), (a_8, .inl (cy 1, 90, .inl f_0)), (a_11, .inl (cy 1, 30, .inl f_1)), (a_12, .inl (cy 1, 240, .inl f_2)), (a_13, .inl (cy 1, 450, .inl f_3)), (a_15, .inl (cy 1, 7200, .inl f_4)), (a_16, .inl (cy 1, 3, .inl f_5)), (a_18, .inl (cy 1, 8, .inl f_6))] [.ref a_0, .int i_0, .int i_1, .int i_2] (fun u : Int32 × Int32 × Int32 × (Nat → Int32) => [(a_0, .inr (12, [.int i_3, .ref a_1, .ref a_2, .ref a_3, .ref a_4, .ref a_5, .int i_4, .int i_5, .int i_6, .int i_7, .int i_8, .long j_0, .int i_9, .int i_10, .int i_11, .int i_12, .ref a_6, .ref a_7, .ref a_8, .ref a_9, .ref a_10, .ref a_11, .ref a_12, .ref a_13, .ref a_14, .ref a_15, .ref a_16, .ref a_17, .ref a_18, .int u.1, .int u.2.1, .int u.2.2.1, .int i_16, .int i_17, .int i_18, .ref a_19, .int i_19, .ref a_20])), (a_7, .inl (cy 1, 30, .inl (mm_g [i_20, i_21, i_22, i_23, i_24, i_25, i_26, i_27, i_28, i_29, i_30, i_31, i_32, i_33, i_34, i_35, i_36, i_37, i_38, i_39, i_40, i_41, i_42, i_43, i_44, i_45, i_46, i_47, i_48, i_49]))), (a_8, .inl (cy 1, 90, .inl f_0)), (a_11, .inl (cy 1, 30, .inl f_1)), (a_12, .inl (cy 1, 240, .inl f_2)), (a_13, .inl (cy 1, 450, .inl f_3)), (a_15, .inl (cy 1, 7200, .inl f_4)), (a_16, .inl (cy 1, 3, .inl f_5)), (a_18, .inl (cy 1, 8, .inl u.2.2.2))]) (fun (r : Int32) (u : Int32 × Int32 × Int32 × (Nat → Int32)) => mm_rg u.1 0 8 ∧ mm_ar u.2.2.2 0 9 ∧ mm_rg r (-1000000) 1009999) 0 0 := by
  refine mm_begin (lv := [(0, .ref a_0), (1, .int i_0), (2, .int i_1), (3, .int i_2)]) (by decide) (Nat.le_of_ble_eq_true rfl) rfl ?_
  intro p e s m below meth c A ls R args Q H locs hRe hQ hAe hx hb hr hlocks hml hown hnm hts hsz hA hS hP hK hD hZ hl
  have hRf : R.frames = 6 := by rw [hRe]
  have hRl : R.locals = 151 := by rw [hRe]
  have hRc : R.cells = 0 := by rw [hRe]
  have hRs : R.slots = 0 := by rw [hRe]
  refine lv_iload_n hx hb dX12_heirsOf_0 rfl (lv_at hl 3 rfl) ?_
  refine lv_if_ne (tgt := 8) hx hb dX12_heirsOf_1 (by decide) (fun c1 => ?_) (fun c1 => ?_)
  · have q2 := mm_neL (lo := 1) (mm_ne c1) h2 mm_k0 (by decide) (by decide)
    refine lv_ldcw (v := (-1000000)) hx hb hown (mm_h hts mm_w1460) dX12_heirsOf_8 ?_
    refine lv_istore (lv' := [(4, .int (-1000000)), (0, .ref a_0), (1, .int i_0), (2, .int i_1), (3, .int i_2)]) hx hb dX12_heirsOf_11 hl (by decide) rfl ?_
    clear hl
    clear ls
    intro ls hl
    refine lv_iconst (v := 0) hx hb dX12_heirsOf_13 (by decide) ?_
    refine lv_istore (lv' := [(5, .int 0), (4, .int (-1000000)), (0, .ref a_0), (1, .int i_0), (2, .int i_1), (3, .int i_2)]) hx hb dX12_heirsOf_14 hl (by decide) rfl ?_
    clear hl
    clear ls
    intro ls hl
    have L16_311 : ∀ (n : Nat) (x16_5_306 : Int32) (x16_4_307 : Int32) (y16_0_29_308 : Int32) (y16_0_30_309 : Int32) (y16_0_31_310 : Int32) (z16_8_311 : Nat → Int32), mm_rg x16_5_306 0 6 → mm_rg x16_4_307 (-1000000) 1009999 → mm_rg y16_0_29_308 0 8 → mm_ar z16_8_311 0 9 → (6 - x16_5_306.toInt).toNat < n → ∀ (H : Heap) (locs : List Loc), va_P G vwCl [(a_0, .inr (12, [.int i_3, .ref a_1, .ref a_2, .ref a_3, .ref a_4, .ref a_5, .int i_4, .int i_5, .int i_6, .int i_7, .int i_8, .long j_0, .int i_9, .int i_10, .int i_11, .int i_12, .ref a_6, .ref a_7, .ref a_8, .ref a_9, .ref a_10, .ref a_11, .ref a_12, .ref a_13, .ref a_14, .ref a_15, .ref a_16, .ref a_17, .ref a_18, .int y16_0_29_308, .int y16_0_30_309, .int y16_0_31_310, .int i_16, .int i_17, .int i_18, .ref a_19, .int i_19, .ref a_20])), (a_7, .inl (cy 1, 30, .inl (mm_g [i_20, i_21, i_22, i_23, i_24, i_25, i_26, i_27, i_28, i_29, i_30, i_31, i_32, i_33, i_34, i_35, i_36, i_37, i_38, i_39, i_40, i_41, i_42, i_43, i_44, i_45, i_46, i_47, i_48, i_49]))), (a_8, .inl (cy 1, 90, .inl f_0)), (a_11, .inl (cy 1, 30, .inl f_1)), (a_12, .inl (cy 1, 240, .inl f_2)), (a_13, .inl (cy 1, 450, .inl f_3)), (a_15, .inl (cy 1, 7200, .inl f_4)), (a_16, .inl (cy 1, 3, .inl f_5)), (a_18, .inl (cy 1, 8, .inl z16_8_311))] H → va_D A [(a_0, .inr (12, [.int i_3, .ref a_1, .ref a_2, .ref a_3, .ref a_4, .ref a_5, .int i_4, .int i_5, .int i_6, .int i_7, .int i_8, .long j_0, .int i_9, .int i_10, .int i_11, .int i_12, .ref a_6, .ref a_7, .ref a_8, .ref a_9, .ref a_10, .ref a_11, .ref a_12, .ref a_13, .ref a_14, .ref a_15, .ref a_16, .ref a_17, .ref a_18, .int y16_0_29_308, .int y16_0_30_309, .int y16_0_31_310, .int i_16, .int i_17, .int i_18, .ref a_19, .int i_19, .ref a_20])), (a_7, .inl (cy 1, 30, .inl (mm_g [i_20, i_21, i_22, i_23, i_24, i_25, i_26, i_27, i_28, i_29, i_30, i_31, i_32, i_33, i_34, i_35, i_36, i_37, i_38, i_39, i_40, i_41, i_42, i_43, i_44, i_45, i_46, i_47, i_48, i_49]))), (a_8, .inl (cy 1, 90, .inl f_0)), (a_11, .inl (cy 1, 30, .inl f_1)), (a_12, .inl (cy 1, 240, .inl f_2)), (a_13, .inl (cy 1, 450, .inl f_3)), (a_15, .inl (cy 1, 7200, .inl f_4)), (a_16, .inl (cy 1, 3, .inl f_5)), (a_18, .inl (cy 1, 8, .inl z16_8_311))] → va_S A s.heap H locs → ∀ (ls : Array Slot), lv_has ls 7 [(5, .int x16_5_306), (4, .int x16_4_307), (0, .ref a_0), (1, .int i_0), (2, .int i_1), (3, .int i_2)] → W p l e R s m args below meth c H locs 0 0 Q (F0 m 16 ls []) := by
      intro n
      induction n with
      | zero => intro x16_5_306 x16_4_307 y16_0_29_308 y16_0_30_309 y16_0_31_310 z16_8_311 rx16_5_306 rx16_4_307 ry16_0_29_308 rz16_8_311 hm; exact absurd hm (Nat.not_lt_zero _)
      | succ n ih16 =>
        intro x16_5_306 x16_4_307 y16_0_29_308 y16_0_30_309 y16_0_31_310 z16_8_311 rx16_5_306 rx16_4_307 ry16_0_29_308 rz16_8_311 hm16 H locs hP hD hS ls hl
        refine lv_iload hx hb dX12_heirsOf_16 (lv_at hl 0 rfl) ?_
        refine lv_aload_n hx hb dX12_heirsOf_18 rfl (lv_at hl 2 rfl) ?_
        refine mm_finir (va_runV (As := []) (rest := [.int x16_5_306]) ⟨hx, hb, hml, hown, hts⟩ (M95_X12_texts l G cy H.size a_0 i_3 a_1 a_2 a_3 a_4 a_5 i_4 i_5 i_6 i_7 i_8 j_0 i_9 i_10 i_11 i_12 a_6 a_7 a_8 a_9 a_10 a_11 a_12 a_13 a_14 a_15 a_16 a_17 a_18 y16_0_29_308 y16_0_30_309 y16_0_31_310 i_16 i_17 i_18 a_19 i_19 a_20 i_20 i_21 i_22 i_23 i_24 i_25 i_26 i_27 i_28 i_29 i_30 i_31 i_32 i_33 i_34 i_35 i_36 i_37 i_38 i_39 i_40 i_41 i_42 i_43 i_44 i_45 i_46 i_47 i_48 i_49 h4 h5 h6 h7 h8 h9 h10 h11 h12 h13 h14 h15 h16 h17 h18 h19 h20 h21 h22 h23 h24 h25 h26 h27 h28 h29 h30 h31 h32 h33) (cwV 0 hts (mm_gV mm_w617 mm_w618 mm_w619 mm_w5 mm_w620) rfl rfl rfl hd_X12_texts ⟨by rw [hRf]; exact Nat.le_of_ble_eq_true rfl, by rw [hRl]; exact Nat.le_of_ble_eq_true rfl⟩) (mm_preV hK hZ hS hA hP hD [0, 1] rfl rfl 0 rfl rfl rfl) rfl rfl hl.1 rfl (lv_room (Nat.le_of_ble_eq_true rfl)) dX12_heirsOf_19 ⟨by rw [hRc]; exact Nat.le_of_ble_eq_true rfl, by rw [hRs]; exact Nat.le_of_ble_eq_true rfl⟩) hP hD hS hA [0, 1] rfl (fun _ => rfl) ?_
        clear hP hD hS
        clear H locs
        intro v313 _u H locs hw hP hD hS
        subst hw
        refine lv_icmp_ge (tgt := 86) hx hb dX12_heirsOf_22 (by decide) (fun c314 => ?_) (fun c314 => ?_)
        · refine lv_iload hx hb dX12_heirsOf_86 (lv_at hl 1 rfl) ?_
          subst hAe
          rw [hQ]
          exact W.iret (v := x16_4_307) hx hb hr (fun t ht hW => ⟨⟨x16_4_307, (y16_0_29_308, y16_0_30_309, y16_0_31_310, z16_8_311), rfl, ⟨ry16_0_29_308, rz16_8_311, rx16_4_307⟩, by rw [ht]; exact hP, hK.warm hW, hD⟩, hS.F ht⟩) hS.2.2 dX12_heirsOf_88
        · have q315 := mm_ltL (h := 5) (mm_nle c314) rx16_5_306 h8 (by decide)
          have q316 := mm_ltR (lo := 1) (mm_nle c314) rx16_5_306 h8 (by decide)
          refine lv_iload_n hx hb dX12_heirsOf_25 rfl (lv_at hl 5 rfl) ?_
          refine lv_iload hx hb dX12_heirsOf_26 (lv_at hl 0 rfl) ?_
          refine mm_finir (va_runS (As := [.int i_2, .int x16_5_306]) (rest := []) ⟨hx, hb, hml, hown, hts⟩ (M232_X12_isBit l G cy H.size i_2 x16_5_306 (mm_wk q2 (by decide)) q315) (va_cwS 2 hts (mm_gS mm_w1461 mm_w1462 mm_w5 mm_w1463) rfl rfl rfl hs_X12_isBit ⟨by rw [hRf]; exact Nat.le_of_ble_eq_true rfl, by rw [hRl]; exact Nat.le_of_ble_eq_true rfl⟩) (mm_preS hK hZ hS hA hP hD [] rfl rfl) rfl rfl hl.1 rfl (lv_room (Nat.le_of_ble_eq_true rfl)) dX12_heirsOf_28 ⟨by rw [hRc]; exact Nat.le_of_ble_eq_true rfl, by rw [hRs]; exact Nat.le_of_ble_eq_true rfl⟩) hP hD hS hA [] rfl (fun _ => rfl) ?_
          clear hP hD hS
          clear H locs
          intro v317 _u H locs hw hP hD hS
          rcases hw with ⟨rfl, w318⟩ | ⟨rfl, w319⟩
          · refine lv_if_ne (tgt := 37) hx hb dX12_heirsOf_31 (by decide) (fun c320 => ?_) (fun c320 => ?_)
            · exact absurd rfl (mm_ne c320)
            · refine lv_goto (tgt := 80) hx hb dX12_heirsOf_34 (by decide) ?_
              obtain ⟨v321, ev321⟩ : ∃ y : Int32, y = x16_5_306 + 1 := ⟨_, rfl⟩
              refine lv_iinc (v := v321) (lv' := [(5, .int v321), (4, .int x16_4_307), (0, .ref a_0), (1, .int i_0), (2, .int i_1), (3, .int i_2)]) hx hb dX12_heirsOf_80 hl (k := 0) rfl (by rw [ev321]; rfl) (by decide) rfl ?_
              clear hl
              clear ls
              intro ls hl
              have rv321 : mm_rg v321 1 6 := mm_add ev321 q315 mm_k1 (by decide) (by decide)
              have tv321 := mm_addEc ev321 q315 mm_k1 (by decide) (k := 1) (by decide)
              refine lv_goto (tgt := 16) hx hb dX12_heirsOf_83 (by decide) ?_
              exact ih16 v321 x16_4_307 y16_0_29_308 y16_0_30_309 y16_0_31_310 z16_8_311 (mm_wk rv321 (by decide)) rx16_4_307 ry16_0_29_308 rz16_8_311 (mm_mu hm16 tv321 (by decide) (rv321).2 (by decide)) H locs hP hD hS ls (lv_sub hl [0, 1, 2, 3, 4, 5] rfl)
          · refine lv_if_ne (tgt := 37) hx hb dX12_heirsOf_31 (by decide) (fun c322 => ?_) (fun c322 => ?_)
            · refine lv_aload_n hx hb dX12_heirsOf_37 rfl (lv_at hl 2 rfl) ?_
              refine lv_iload_n hx hb dX12_heirsOf_38 rfl (lv_at hl 3 rfl) ?_
              refine lv_iload_n hx hb dX12_heirsOf_39 rfl (lv_at hl 4 rfl) ?_
              refine lv_iload hx hb dX12_heirsOf_40 (lv_at hl 0 rfl) ?_
              refine mm_fini (va_runV (As := [.int i_0, .int i_1, .int x16_5_306]) (rest := []) ⟨hx, hb, hml, hown, hts⟩ (M141_X12_reads l G cy H.size a_0 i_0 i_1 x16_5_306 i_3 a_1 a_2 a_3 a_4 a_5 i_4 i_5 i_6 i_7 i_8 j_0 i_9 i_10 i_11 i_12 a_6 a_7 a_8 a_9 a_10 a_11 a_12 a_13 a_14 a_15 a_16 a_17 a_18 y16_0_29_308 y16_0_30_309 y16_0_31_310 i_16 i_17 i_18 a_19 i_19 a_20 i_20 i_21 i_22 i_23 i_24 i_25 i_26 i_27 i_28 i_29 i_30 i_31 i_32 i_33 i_34 i_35 i_36 i_37 i_38 i_39 i_40 i_41 i_42 i_43 i_44 i_45 i_46 i_47 i_48 i_49 f_0 f_1 f_2 f_3 f_4 f_5 z16_8_311 h0 (mm_wk h1 (by decide)) q315 ry16_0_29_308 h4 h5 h6 h7 (mm_wk q316 (by decide)) h9 h10 h11 h12 h13 h14 h15 h16 h17 h18 h19 h20 h21 h22 h23 h24 h25 h26 h27 h28 h29 h30 h31 h32 h33 h34 h35 h36 h37 h38 h39 rz16_8_311 h41 h42 h43 h44 h45 h46 h47 h48 h49) (cwV 3 hts (mm_gV mm_w852 mm_w853 mm_w854 mm_w5 mm_w855) rfl rfl rfl hd_X12_reads ⟨by rw [hRf]; exact Nat.le_of_ble_eq_true rfl, by rw [hRl]; exact Nat.le_of_ble_eq_true rfl⟩) (mm_preV hK hZ hS hA hP hD [0, 1, 2, 3, 4, 5, 6, 7, 8] rfl rfl 0 rfl rfl rfl) rfl rfl hl.1 rfl (lv_room (Nat.le_of_ble_eq_true rfl)) dX12_heirsOf_42 ⟨by rw [hRc]; exact Nat.le_of_ble_eq_true rfl, by rw [hRs]; exact Nat.le_of_ble_eq_true rfl⟩) hP hD hS hA (fun u : Int32 × Int32 × Int32 × (Nat → Int32) => [(a_0, .inr (12, [.int i_3, .ref a_1, .ref a_2, .ref a_3, .ref a_4, .ref a_5, .int i_4, .int i_5, .int i_6, .int i_7, .int i_8, .long j_0, .int i_9, .int i_10, .int i_11, .int i_12, .ref a_6, .ref a_7, .ref a_8, .ref a_9, .ref a_10, .ref a_11, .ref a_12, .ref a_13, .ref a_14, .ref a_15, .ref a_16, .ref a_17, .ref a_18, .int u.1, .int u.2.1, .int u.2.2.1, .int i_16, .int i_17, .int i_18, .ref a_19, .int i_19, .ref a_20])), (a_7, .inl (cy 1, 30, .inl (mm_g [i_20, i_21, i_22, i_23, i_24, i_25, i_26, i_27, i_28, i_29, i_30, i_31, i_32, i_33, i_34, i_35, i_36, i_37, i_38, i_39, i_40, i_41, i_42, i_43, i_44, i_45, i_46, i_47, i_48, i_49]))), (a_8, .inl (cy 1, 90, .inl f_0)), (a_11, .inl (cy 1, 30, .inl f_1)), (a_12, .inl (cy 1, 240, .inl f_2)), (a_13, .inl (cy 1, 450, .inl f_3)), (a_15, .inl (cy 1, 7200, .inl f_4)), (a_16, .inl (cy 1, 3, .inl f_5)), (a_18, .inl (cy 1, 8, .inl u.2.2.2))]) [0, 1, 2, 3, 4, 5, 6, 7, 8] [] (n := 9) (fun _ => rfl) (by decide +kernel) (by decide +kernel) rfl (fun _ => rfl) (wr := []) rfl (fun _ => rfl) (fun _ => @rfl _ ([a_0, a_7, a_8, a_11, a_12, a_13, a_15, a_16, a_18] : List Nat)) ?_
              clear hP hD hS
              clear H locs
              intro v327 u
              obtain ⟨n323, n324, n325, n326⟩ := u
              intro H locs hw (hP : va_P G vwCl [(a_0, .inr (12, [.int i_3, .ref a_1, .ref a_2, .ref a_3, .ref a_4, .ref a_5, .int i_4, .int i_5, .int i_6, .int i_7, .int i_8, .long j_0, .int i_9, .int i_10, .int i_11, .int i_12, .ref a_6, .ref a_7, .ref a_8, .ref a_9, .ref a_10, .ref a_11, .ref a_12, .ref a_13, .ref a_14, .ref a_15, .ref a_16, .ref a_17, .ref a_18, .int n323, .int n324, .int n325, .int i_16, .int i_17, .int i_18, .ref a_19, .int i_19, .ref a_20])), (a_7, .inl (cy 1, 30, .inl (mm_g [i_20, i_21, i_22, i_23, i_24, i_25, i_26, i_27, i_28, i_29, i_30, i_31, i_32, i_33, i_34, i_35, i_36, i_37, i_38, i_39, i_40, i_41, i_42, i_43, i_44, i_45, i_46, i_47, i_48, i_49]))), (a_8, .inl (cy 1, 90, .inl f_0)), (a_11, .inl (cy 1, 30, .inl f_1)), (a_12, .inl (cy 1, 240, .inl f_2)), (a_13, .inl (cy 1, 450, .inl f_3)), (a_15, .inl (cy 1, 7200, .inl f_4)), (a_16, .inl (cy 1, 3, .inl f_5)), (a_18, .inl (cy 1, 8, .inl n326))] H) (hD : va_D A [(a_0, .inr (12, [.int i_3, .ref a_1, .ref a_2, .ref a_3, .ref a_4, .ref a_5, .int i_4, .int i_5, .int i_6, .int i_7, .int i_8, .long j_0, .int i_9, .int i_10, .int i_11, .int i_12, .ref a_6, .ref a_7, .ref a_8, .ref a_9, .ref a_10, .ref a_11, .ref a_12, .ref a_13, .ref a_14, .ref a_15, .ref a_16, .ref a_17, .ref a_18, .int n323, .int n324, .int n325, .int i_16, .int i_17, .int i_18, .ref a_19, .int i_19, .ref a_20])), (a_7, .inl (cy 1, 30, .inl (mm_g [i_20, i_21, i_22, i_23, i_24, i_25, i_26, i_27, i_28, i_29, i_30, i_31, i_32, i_33, i_34, i_35, i_36, i_37, i_38, i_39, i_40, i_41, i_42, i_43, i_44, i_45, i_46, i_47, i_48, i_49]))), (a_8, .inl (cy 1, 90, .inl f_0)), (a_11, .inl (cy 1, 30, .inl f_1)), (a_12, .inl (cy 1, 240, .inl f_2)), (a_13, .inl (cy 1, 450, .inl f_3)), (a_15, .inl (cy 1, 7200, .inl f_4)), (a_16, .inl (cy 1, 3, .inl f_5)), (a_18, .inl (cy 1, 8, .inl n326))]) hS
              obtain ⟨w328, w329, hw⟩ := hw
              obtain ⟨w330, w331⟩ := hw
              replace w331 : mm_rd f_4 f_5 f_0 f_1 f_2 f_3 i_0 i_1 x16_5_306 i_21 i_22 i_25 v327 := w331
              refine lv_aload_n hx hb dX12_heirsOf_45 rfl (lv_at hl 2 rfl) ?_
              refine lv_iload_n hx hb dX12_heirsOf_46 rfl (lv_at hl 3 rfl) ?_
              refine lv_iload_n hx hb dX12_heirsOf_47 rfl (lv_at hl 4 rfl) ?_
              refine lv_iconst (v := 1) hx hb dX12_heirsOf_48 (by decide) ?_
              refine lv_iadd hx hb dX12_heirsOf_49 ?_
              refine lv_topi (fun v332 ev332 => ?_)
              have rv332 : mm_rg v332 1 1000000004 := mm_add ev332 h1 mm_k1 (by decide) (by decide)
              have tv332 := mm_addEc ev332 h1 mm_k1 (by decide) (k := 1) (by decide)
              refine lv_iload_n hx hb dX12_heirsOf_50 rfl (lv_at hl 5 rfl) ?_
              refine lv_iconst (v := 1) hx hb dX12_heirsOf_51 (by decide) ?_
              refine lv_iload hx hb dX12_heirsOf_52 (lv_at hl 0 rfl) ?_
              refine lv_ishl hx hb dX12_heirsOf_54 ?_
              refine lv_topi (fun v333 ev333 => ?_)
              have rv333 : mm_rg v333 1 32 := mm_shl1 ev333 q315 (by decide)
              refine lv_iconst (v := (-1)) hx hb dX12_heirsOf_55 (by decide) ?_
              refine lv_ixor hx hb dX12_heirsOf_56 ?_
              refine lv_topi (fun v334 ev334 => ?_)
              refine lv_iand hx hb dX12_heirsOf_57 ?_
              refine lv_topi (fun v335 ev335 => ?_)
              have rv335 : mm_rg v335 0 63 := mm_andL ev335 q2 (by decide)
              refine mm_fini (va_runV (As := [.int i_0, .int v332, .int v335]) (rest := [.int v327]) ⟨hx, hb, hml, hown, hts⟩ (M236_X12_heirsOf l G cy H.size a_0 i_0 v332 v335 i_3 a_1 a_2 a_3 a_4 a_5 i_4 i_5 i_6 i_7 i_8 j_0 i_9 i_10 i_11 i_12 a_6 a_7 a_8 a_9 a_10 a_11 a_12 a_13 a_14 a_15 a_16 a_17 a_18 n323 n324 n325 i_16 i_17 i_18 a_19 i_19 a_20 i_20 i_21 i_22 i_23 i_24 i_25 i_26 i_27 i_28 i_29 i_30 i_31 i_32 i_33 i_34 i_35 i_36 i_37 i_38 i_39 i_40 i_41 i_42 i_43 i_44 i_45 i_46 i_47 i_48 i_49 f_0 f_1 f_2 f_3 f_4 f_5 n326 h0 (mm_wk rv332 (by decide)) rv335 w328 h4 h5 h6 h7 (mm_wk q316 (by decide)) h9 h10 h11 h12 h13 h14 h15 h16 h17 h18 h19 h20 h21 h22 h23 h24 h25 h26 h27 h28 h29 h30 h31 h32 h33 h34 h35 h36 h37 h38 h39 w329 h41 h42 h43 h44 h45 h46 h47 h48 h49 (mm_pc_cut h50 w319 ev333 ev334 ev335 q2 q315 (by decide))) (cwV 3 hts (mm_gV mm_w1456 mm_w1457 mm_w1458 mm_w5 mm_w1459) rfl rfl rfl hd_X12_heirsOf ⟨by rw [hRf]; exact Nat.le_of_ble_eq_true rfl, by rw [hRl]; exact Nat.le_of_ble_eq_true rfl⟩) (mm_preV hK hZ hS hA hP hD [0, 1, 2, 3, 4, 5, 6, 7, 8] rfl rfl 0 rfl rfl rfl) rfl rfl hl.1 rfl (lv_room (Nat.le_of_ble_eq_true rfl)) dX12_heirsOf_58 ⟨by rw [hRc]; exact Nat.le_of_ble_eq_true rfl, by rw [hRs]; exact Nat.le_of_ble_eq_true rfl⟩) hP hD hS hA (fun u : Int32 × Int32 × Int32 × (Nat → Int32) => [(a_0, .inr (12, [.int i_3, .ref a_1, .ref a_2, .ref a_3, .ref a_4, .ref a_5, .int i_4, .int i_5, .int i_6, .int i_7, .int i_8, .long j_0, .int i_9, .int i_10, .int i_11, .int i_12, .ref a_6, .ref a_7, .ref a_8, .ref a_9, .ref a_10, .ref a_11, .ref a_12, .ref a_13, .ref a_14, .ref a_15, .ref a_16, .ref a_17, .ref a_18, .int u.1, .int u.2.1, .int u.2.2.1, .int i_16, .int i_17, .int i_18, .ref a_19, .int i_19, .ref a_20])), (a_7, .inl (cy 1, 30, .inl (mm_g [i_20, i_21, i_22, i_23, i_24, i_25, i_26, i_27, i_28, i_29, i_30, i_31, i_32, i_33, i_34, i_35, i_36, i_37, i_38, i_39, i_40, i_41, i_42, i_43, i_44, i_45, i_46, i_47, i_48, i_49]))), (a_8, .inl (cy 1, 90, .inl f_0)), (a_11, .inl (cy 1, 30, .inl f_1)), (a_12, .inl (cy 1, 240, .inl f_2)), (a_13, .inl (cy 1, 450, .inl f_3)), (a_15, .inl (cy 1, 7200, .inl f_4)), (a_16, .inl (cy 1, 3, .inl f_5)), (a_18, .inl (cy 1, 8, .inl u.2.2.2))]) [0, 1, 2, 3, 4, 5, 6, 7, 8] [] (n := 9) (fun _ => rfl) (by decide +kernel) (by decide +kernel) rfl (fun _ => rfl) (wr := []) rfl (fun _ => rfl) (fun _ => @rfl _ ([a_0, a_7, a_8, a_11, a_12, a_13, a_15, a_16, a_18] : List Nat)) ?_
              clear hP hD hS
              clear H locs
              intro v340 u
              obtain ⟨n336, n337, n338, n339⟩ := u
              intro H locs hw (hP : va_P G vwCl [(a_0, .inr (12, [.int i_3, .ref a_1, .ref a_2, .ref a_3, .ref a_4, .ref a_5, .int i_4, .int i_5, .int i_6, .int i_7, .int i_8, .long j_0, .int i_9, .int i_10, .int i_11, .int i_12, .ref a_6, .ref a_7, .ref a_8, .ref a_9, .ref a_10, .ref a_11, .ref a_12, .ref a_13, .ref a_14, .ref a_15, .ref a_16, .ref a_17, .ref a_18, .int n336, .int n337, .int n338, .int i_16, .int i_17, .int i_18, .ref a_19, .int i_19, .ref a_20])), (a_7, .inl (cy 1, 30, .inl (mm_g [i_20, i_21, i_22, i_23, i_24, i_25, i_26, i_27, i_28, i_29, i_30, i_31, i_32, i_33, i_34, i_35, i_36, i_37, i_38, i_39, i_40, i_41, i_42, i_43, i_44, i_45, i_46, i_47, i_48, i_49]))), (a_8, .inl (cy 1, 90, .inl f_0)), (a_11, .inl (cy 1, 30, .inl f_1)), (a_12, .inl (cy 1, 240, .inl f_2)), (a_13, .inl (cy 1, 450, .inl f_3)), (a_15, .inl (cy 1, 7200, .inl f_4)), (a_16, .inl (cy 1, 3, .inl f_5)), (a_18, .inl (cy 1, 8, .inl n339))] H) (hD : va_D A [(a_0, .inr (12, [.int i_3, .ref a_1, .ref a_2, .ref a_3, .ref a_4, .ref a_5, .int i_4, .int i_5, .int i_6, .int i_7, .int i_8, .long j_0, .int i_9, .int i_10, .int i_11, .int i_12, .ref a_6, .ref a_7, .ref a_8, .ref a_9, .ref a_10, .ref a_11, .ref a_12, .ref a_13, .ref a_14, .ref a_15, .ref a_16, .ref a_17, .ref a_18, .int n336, .int n337, .int n338, .int i_16, .int i_17, .int i_18, .ref a_19, .int i_19, .ref a_20])), (a_7, .inl (cy 1, 30, .inl (mm_g [i_20, i_21, i_22, i_23, i_24, i_25, i_26, i_27, i_28, i_29, i_30, i_31, i_32, i_33, i_34, i_35, i_36, i_37, i_38, i_39, i_40, i_41, i_42, i_43, i_44, i_45, i_46, i_47, i_48, i_49]))), (a_8, .inl (cy 1, 90, .inl f_0)), (a_11, .inl (cy 1, 30, .inl f_1)), (a_12, .inl (cy 1, 240, .inl f_2)), (a_13, .inl (cy 1, 450, .inl f_3)), (a_15, .inl (cy 1, 7200, .inl f_4)), (a_16, .inl (cy 1, 3, .inl f_5)), (a_18, .inl (cy 1, 8, .inl n339))]) hS
              obtain ⟨w341, w342, hw⟩ := hw
              have w343 := hw
              refine lv_isub hx hb dX12_heirsOf_61 ?_
              refine lv_topi (fun v344 ev344 => ?_)
              have rv344 : mm_rg v344 (-1009999) 1009999 := mm_sub ev344 w330 w343 (by decide) (by decide)
              have tv344 := mm_subE ev344 w330 w343 (by decide)
              refine lv_istore (lv' := [(6, .int v344), (5, .int x16_5_306), (4, .int x16_4_307), (0, .ref a_0), (1, .int i_0), (2, .int i_1), (3, .int i_2)]) hx hb dX12_heirsOf_62 hl (by decide) rfl ?_
              clear hl
              clear ls
              intro ls hl
              refine lv_iload hx hb dX12_heirsOf_64 (lv_at hl 0 rfl) ?_
              refine lv_iload hx hb dX12_heirsOf_66 (lv_at hl 2 rfl) ?_
              refine lv_icmp_le (tgt := 76) hx hb dX12_heirsOf_68 (by decide) (fun c345 => ?_) (fun c345 => ?_)
              · refine lv_iload hx hb dX12_heirsOf_76 (lv_at hl 2 rfl) ?_
                refine lv_istore (lv' := [(4, .int x16_4_307), (6, .int v344), (5, .int x16_5_306), (0, .ref a_0), (1, .int i_0), (2, .int i_1), (3, .int i_2)]) hx hb dX12_heirsOf_78 hl (by decide) rfl ?_
                clear hl
                clear ls
                intro ls hl
                obtain ⟨v346, ev346⟩ : ∃ y : Int32, y = x16_5_306 + 1 := ⟨_, rfl⟩
                refine lv_iinc (v := v346) (lv' := [(5, .int v346), (4, .int x16_4_307), (6, .int v344), (0, .ref a_0), (1, .int i_0), (2, .int i_1), (3, .int i_2)]) hx hb dX12_heirsOf_80 hl (k := 2) rfl (by rw [ev346]; rfl) (by decide) rfl ?_
                clear hl
                clear ls
                intro ls hl
                have rv346 : mm_rg v346 1 6 := mm_add ev346 q315 mm_k1 (by decide) (by decide)
                have tv346 := mm_addEc ev346 q315 mm_k1 (by decide) (k := 1) (by decide)
                refine lv_goto (tgt := 16) hx hb dX12_heirsOf_83 (by decide) ?_
                exact ih16 v346 x16_4_307 n336 n337 n338 n339 (mm_wk rv346 (by decide)) rx16_4_307 w341 w342 (mm_mu hm16 tv346 (by decide) (rv346).2 (by decide)) H locs hP hD hS ls (lv_sub hl [0, 1, 3, 4, 5, 6] rfl)
              · have q347 := mm_ltL (h := 1009998) (mm_nle c345) rx16_4_307 rv344 (by decide)
                have q348 := mm_ltR (lo := (-999999)) (mm_nle c345) rx16_4_307 rv344 (by decide)
                have q349 : mm_rg v340 (-1000000) 1009998 := mm_unsubY tv344 q348 w330 w343 (by decide)
                refine lv_iload hx hb dX12_heirsOf_71 (lv_at hl 0 rfl) ?_
                refine lv_goto (tgt := 78) hx hb dX12_heirsOf_73 (by decide) ?_
                refine lv_istore (lv' := [(4, .int v344), (6, .int v344), (5, .int x16_5_306), (0, .ref a_0), (1, .int i_0), (2, .int i_1), (3, .int i_2)]) hx hb dX12_heirsOf_78 hl (by decide) rfl ?_
                clear hl
                clear ls
                intro ls hl
                obtain ⟨v350, ev350⟩ : ∃ y : Int32, y = x16_5_306 + 1 := ⟨_, rfl⟩
                refine lv_iinc (v := v350) (lv' := [(5, .int v350), (4, .int v344), (6, .int v344), (0, .ref a_0), (1, .int i_0), (2, .int i_1), (3, .int i_2)]) hx hb dX12_heirsOf_80 hl (k := 2) rfl (by rw [ev350]; rfl) (by decide) rfl ?_
                clear hl
                clear ls
                intro ls hl
                have rv350 : mm_rg v350 1 6 := mm_add ev350 q315 mm_k1 (by decide) (by decide)
                have tv350 := mm_addEc ev350 q315 mm_k1 (by decide) (k := 1) (by decide)
                refine lv_goto (tgt := 16) hx hb dX12_heirsOf_83 (by decide) ?_
                exact ih16 v350 v344 n336 n337 n338 n339 (mm_wk rv350 (by decide)) (mm_wk q348 (by decide)) w341 w342 (mm_mu hm16 tv350 (by decide) (rv350).2 (by decide)) H locs hP hD hS ls (lv_sub hl [0, 1, 3, 4, 5, 6] rfl)
            · exact mm_eqN c322.symm mm_k0 mm_k1 (by decide)
    exact L16_311 _ 0 (-1000000) i_13 i_14 i_15 f_6 (mm_wk mm_k0 (by decide)) (mm_wk mm_km1000000 (by decide)) h3 h40 (Nat.lt_succ_self _) H locs hP hD hS ls (lv_sub hl [0, 1, 2, 3, 4, 5] rfl)
  · have q351 := mm_eqI (lo := 0) (hi := 0) c1 h2 mm_k0 (by decide)
    refine lv_iconst (v := 0) hx hb dX12_heirsOf_4 (by decide) ?_
    refine lv_goto (tgt := 11) hx hb dX12_heirsOf_5 (by decide) ?_
    refine lv_istore (lv' := [(4, .int 0), (0, .ref a_0), (1, .int i_0), (2, .int i_1), (3, .int i_2)]) hx hb dX12_heirsOf_11 hl (by decide) rfl ?_
    clear hl
    clear ls
    intro ls hl
    refine lv_iconst (v := 0) hx hb dX12_heirsOf_13 (by decide) ?_
    refine lv_istore (lv' := [(5, .int 0), (4, .int 0), (0, .ref a_0), (1, .int i_0), (2, .int i_1), (3, .int i_2)]) hx hb dX12_heirsOf_14 hl (by decide) rfl ?_
    clear hl
    clear ls
    intro ls hl
    have L16_423 : ∀ (n : Nat) (x16_5_423 : Int32), mm_rg x16_5_423 0 6 → (6 - x16_5_423.toInt).toNat < n → ∀ (H : Heap) (locs : List Loc), va_P G vwCl [(a_0, .inr (12, [.int i_3, .ref a_1, .ref a_2, .ref a_3, .ref a_4, .ref a_5, .int i_4, .int i_5, .int i_6, .int i_7, .int i_8, .long j_0, .int i_9, .int i_10, .int i_11, .int i_12, .ref a_6, .ref a_7, .ref a_8, .ref a_9, .ref a_10, .ref a_11, .ref a_12, .ref a_13, .ref a_14, .ref a_15, .ref a_16, .ref a_17, .ref a_18, .int i_13, .int i_14, .int i_15, .int i_16, .int i_17, .int i_18, .ref a_19, .int i_19, .ref a_20])), (a_7, .inl (cy 1, 30, .inl (mm_g [i_20, i_21, i_22, i_23, i_24, i_25, i_26, i_27, i_28, i_29, i_30, i_31, i_32, i_33, i_34, i_35, i_36, i_37, i_38, i_39, i_40, i_41, i_42, i_43, i_44, i_45, i_46, i_47, i_48, i_49]))), (a_8, .inl (cy 1, 90, .inl f_0)), (a_11, .inl (cy 1, 30, .inl f_1)), (a_12, .inl (cy 1, 240, .inl f_2)), (a_13, .inl (cy 1, 450, .inl f_3)), (a_15, .inl (cy 1, 7200, .inl f_4)), (a_16, .inl (cy 1, 3, .inl f_5)), (a_18, .inl (cy 1, 8, .inl f_6))] H → va_D A [(a_0, .inr (12, [.int i_3, .ref a_1, .ref a_2, .ref a_3, .ref a_4, .ref a_5, .int i_4, .int i_5, .int i_6, .int i_7, .int i_8, .long j_0, .int i_9, .int i_10, .int i_11, .int i_12, .ref a_6, .ref a_7, .ref a_8, .ref a_9, .ref a_10, .ref a_11, .ref a_12, .ref a_13, .ref a_14, .ref a_15, .ref a_16, .ref a_17, .ref a_18, .int i_13, .int i_14, .int i_15, .int i_16, .int i_17, .int i_18, .ref a_19, .int i_19, .ref a_20])), (a_7, .inl (cy 1, 30, .inl (mm_g [i_20, i_21, i_22, i_23, i_24, i_25, i_26, i_27, i_28, i_29, i_30, i_31, i_32, i_33, i_34, i_35, i_36, i_37, i_38, i_39, i_40, i_41, i_42, i_43, i_44, i_45, i_46, i_47, i_48, i_49]))), (a_8, .inl (cy 1, 90, .inl f_0)), (a_11, .inl (cy 1, 30, .inl f_1)), (a_12, .inl (cy 1, 240, .inl f_2)), (a_13, .inl (cy 1, 450, .inl f_3)), (a_15, .inl (cy 1, 7200, .inl f_4)), (a_16, .inl (cy 1, 3, .inl f_5)), (a_18, .inl (cy 1, 8, .inl f_6))] → va_S A s.heap H locs → ∀ (ls : Array Slot), lv_has ls 7 [(5, .int x16_5_423), (4, .int 0), (0, .ref a_0), (1, .int i_0), (2, .int i_1), (3, .int i_2)] → W p l e R s m args below meth c H locs 0 0 Q (F0 m 16 ls []) := by
      intro n
      induction n with
      | zero => intro x16_5_423 rx16_5_423 hm; exact absurd hm (Nat.not_lt_zero _)
      | succ n ih16 =>
        intro x16_5_423 rx16_5_423 hm16 H locs hP hD hS ls hl
        refine lv_iload hx hb dX12_heirsOf_16 (lv_at hl 0 rfl) ?_
        refine lv_aload_n hx hb dX12_heirsOf_18 rfl (lv_at hl 2 rfl) ?_
        refine mm_finir (va_runV (As := []) (rest := [.int x16_5_423]) ⟨hx, hb, hml, hown, hts⟩ (M95_X12_texts l G cy H.size a_0 i_3 a_1 a_2 a_3 a_4 a_5 i_4 i_5 i_6 i_7 i_8 j_0 i_9 i_10 i_11 i_12 a_6 a_7 a_8 a_9 a_10 a_11 a_12 a_13 a_14 a_15 a_16 a_17 a_18 i_13 i_14 i_15 i_16 i_17 i_18 a_19 i_19 a_20 i_20 i_21 i_22 i_23 i_24 i_25 i_26 i_27 i_28 i_29 i_30 i_31 i_32 i_33 i_34 i_35 i_36 i_37 i_38 i_39 i_40 i_41 i_42 i_43 i_44 i_45 i_46 i_47 i_48 i_49 h4 h5 h6 h7 h8 h9 h10 h11 h12 h13 h14 h15 h16 h17 h18 h19 h20 h21 h22 h23 h24 h25 h26 h27 h28 h29 h30 h31 h32 h33) (cwV 0 hts (mm_gV mm_w617 mm_w618 mm_w619 mm_w5 mm_w620) rfl rfl rfl hd_X12_texts ⟨by rw [hRf]; exact Nat.le_of_ble_eq_true rfl, by rw [hRl]; exact Nat.le_of_ble_eq_true rfl⟩) (mm_preV hK hZ hS hA hP hD [0, 1] rfl rfl 0 rfl rfl rfl) rfl rfl hl.1 rfl (lv_room (Nat.le_of_ble_eq_true rfl)) dX12_heirsOf_19 ⟨by rw [hRc]; exact Nat.le_of_ble_eq_true rfl, by rw [hRs]; exact Nat.le_of_ble_eq_true rfl⟩) hP hD hS hA [0, 1] rfl (fun _ => rfl) ?_
        clear hP hD hS
        clear H locs
        intro v425 _u H locs hw hP hD hS
        subst hw
        refine lv_icmp_ge (tgt := 86) hx hb dX12_heirsOf_22 (by decide) (fun c426 => ?_) (fun c426 => ?_)
        · refine lv_iload hx hb dX12_heirsOf_86 (lv_at hl 1 rfl) ?_
          subst hAe
          rw [hQ]
          exact W.iret (v := 0) hx hb hr (fun t ht hW => ⟨⟨0, (i_13, i_14, i_15, f_6), rfl, ⟨h3, h40, (mm_wk mm_k0 (by decide))⟩, by rw [ht]; exact hP, hK.warm hW, hD⟩, hS.F ht⟩) hS.2.2 dX12_heirsOf_88
        · have q427 := mm_ltL (h := 5) (mm_nle c426) rx16_5_423 h8 (by decide)
          have q428 := mm_ltR (lo := 1) (mm_nle c426) rx16_5_423 h8 (by decide)
          refine lv_iload_n hx hb dX12_heirsOf_25 rfl (lv_at hl 5 rfl) ?_
          refine lv_iload hx hb dX12_heirsOf_26 (lv_at hl 0 rfl) ?_
          refine mm_finir (va_runS (As := [.int i_2, .int x16_5_423]) (rest := []) ⟨hx, hb, hml, hown, hts⟩ (M232_X12_isBit l G cy H.size i_2 x16_5_423 (mm_wk q351 (by decide)) q427) (va_cwS 2 hts (mm_gS mm_w1461 mm_w1462 mm_w5 mm_w1463) rfl rfl rfl hs_X12_isBit ⟨by rw [hRf]; exact Nat.le_of_ble_eq_true rfl, by rw [hRl]; exact Nat.le_of_ble_eq_true rfl⟩) (mm_preS hK hZ hS hA hP hD [] rfl rfl) rfl rfl hl.1 rfl (lv_room (Nat.le_of_ble_eq_true rfl)) dX12_heirsOf_28 ⟨by rw [hRc]; exact Nat.le_of_ble_eq_true rfl, by rw [hRs]; exact Nat.le_of_ble_eq_true rfl⟩) hP hD hS hA [] rfl (fun _ => rfl) ?_
          clear hP hD hS
          clear H locs
          intro v429 _u H locs hw hP hD hS
          rcases hw with ⟨rfl, w430⟩ | ⟨rfl, w431⟩
          · refine lv_if_ne (tgt := 37) hx hb dX12_heirsOf_31 (by decide) (fun c432 => ?_) (fun c432 => ?_)
            · exact absurd rfl (mm_ne c432)
            · refine lv_goto (tgt := 80) hx hb dX12_heirsOf_34 (by decide) ?_
              obtain ⟨v433, ev433⟩ : ∃ y : Int32, y = x16_5_423 + 1 := ⟨_, rfl⟩
              refine lv_iinc (v := v433) (lv' := [(5, .int v433), (4, .int 0), (0, .ref a_0), (1, .int i_0), (2, .int i_1), (3, .int i_2)]) hx hb dX12_heirsOf_80 hl (k := 0) rfl (by rw [ev433]; rfl) (by decide) rfl ?_
              clear hl
              clear ls
              intro ls hl
              have rv433 : mm_rg v433 1 6 := mm_add ev433 q427 mm_k1 (by decide) (by decide)
              have tv433 := mm_addEc ev433 q427 mm_k1 (by decide) (k := 1) (by decide)
              refine lv_goto (tgt := 16) hx hb dX12_heirsOf_83 (by decide) ?_
              exact ih16 v433 (mm_wk rv433 (by decide)) (mm_mu hm16 tv433 (by decide) (rv433).2 (by decide)) H locs hP hD hS ls (lv_sub hl [0, 1, 2, 3, 4, 5] rfl)
          · exact mm_bit_no w431 q351 (by decide)
    exact L16_423 _ 0 (mm_wk mm_k0 (by decide)) (Nat.lt_succ_self _) H locs hP hD hS ls (lv_sub hl [0, 1, 2, 3, 4, 5] rfl)

set_option maxHeartbeats 4000000 in
set_option maxRecDepth 100000 in
theorem M238_X12_heirsOf (l : Launch) (G : va_G) (cy : Nat → ClassId) (sz : Nat) (a_0 : Nat) (i_0 : Int32) (i_1 : Int32) (i_2 : Int32) (i_3 : Int32) (a_1 : Nat) (a_2 : Nat) (a_3 : Nat) (a_4 : Nat) (a_5 : Nat) (i_4 : Int32) (i_5 : Int32) (i_6 : Int32) (i_7 : Int32) (i_8 : Int32) (j_0 : Int64) (i_9 : Int32) (i_10 : Int32) (i_11 : Int32) (i_12 : Int32) (a_6 : Nat) (a_7 : Nat) (a_8 : Nat) (a_9 : Nat) (a_10 : Nat) (a_11 : Nat) (a_12 : Nat) (a_13 : Nat) (a_14 : Nat) (a_15 : Nat) (a_16 : Nat) (a_17 : Nat) (a_18 : Nat) (i_13 : Int32) (i_14 : Int32) (i_15 : Int32) (i_16 : Int32) (i_17 : Int32) (i_18 : Int32) (a_19 : Nat) (i_19 : Int32) (a_20 : Nat) (i_20 : Int32) (i_21 : Int32) (i_22 : Int32) (i_23 : Int32) (i_24 : Int32) (i_25 : Int32) (i_26 : Int32) (i_27 : Int32) (i_28 : Int32) (i_29 : Int32) (i_30 : Int32) (i_31 : Int32) (i_32 : Int32) (i_33 : Int32) (i_34 : Int32) (i_35 : Int32) (i_36 : Int32) (i_37 : Int32) (i_38 : Int32) (i_39 : Int32) (i_40 : Int32) (i_41 : Int32) (i_42 : Int32) (i_43 : Int32) (i_44 : Int32) (i_45 : Int32) (i_46 : Int32) (i_47 : Int32) (i_48 : Int32) (i_49 : Int32) (f_0 : Nat → Int32) (f_1 : Nat → Int32) (f_2 : Nat → Int32) (f_3 : Nat → Int32) (f_4 : Nat → Int32) (f_5 : Nat → Int32) (f_6 : Nat → Int32) (h0 : mm_rg i_0 0 2) (h1 : mm_rg i_1 0 1000000002) (h2 : mm_rg i_2 0 63) (h3 : mm_rg i_13 0 8) (h4 : mm_rg i_20 0 10) (h5 : mm_rg i_21 0 99) (h6 : mm_rg i_22 0 9) (h7 : mm_rg i_23 0 3) (h8 : mm_rg i_24 0 6) (h9 : mm_rg i_25 0 30) (h10 : mm_rg i_26 0 10) (h11 : mm_rg i_27 0 99) (h12 : mm_rg i_28 0 9) (h13 : mm_rg i_29 0 3) (h14 : mm_rg i_30 0 6) (h15 : mm_rg i_31 0 30) (h16 : mm_rg i_32 0 10) (h17 : mm_rg i_33 0 99) (h18 : mm_rg i_34 0 9) (h19 : mm_rg i_35 0 3) (h20 : mm_rg i_36 0 6) (h21 : mm_rg i_37 0 30) (h22 : mm_rg i_38 0 10) (h23 : mm_rg i_39 0 99) (h24 : mm_rg i_40 0 9) (h25 : mm_rg i_41 0 3) (h26 : mm_rg i_42 0 6) (h27 : mm_rg i_43 0 30) (h28 : mm_rg i_44 0 10) (h29 : mm_rg i_45 0 99) (h30 : mm_rg i_46 0 9) (h31 : mm_rg i_47 0 3) (h32 : mm_rg i_48 0 6) (h33 : mm_rg i_49 0 30) (h34 : mm_ar f_0 0 99) (h35 : mm_ar f_1 0 8) (h36 : mm_ar f_2 0 9) (h37 : mm_ar f_3 (-1) 99) (h38 : mm_ar f_4 0 9) (h39 : mm_ar f_5 0 210) (h40 : mm_ar f_6 0 9) (h41 : mm_txs f_1 f_2 0 i_22 i_24) (h42 : mm_acs f_3 0 i_22 i_23 i_25) (h43 : mm_txs f_1 f_2 1 i_28 i_30) (h44 : mm_acs f_3 1 i_28 i_29 i_31) (h45 : mm_txs f_1 f_2 2 i_34 i_36) (h46 : mm_acs f_3 2 i_34 i_35 i_37) (h47 : mm_txs f_1 f_2 3 i_40 i_42) (h48 : mm_acs f_3 3 i_40 i_41 i_43) (h49 : mm_f1 f_5 i_0) (h50 : mm_pc 5 i_2)  : mm_CI l yX12_heirsOf (mm_ws yX12_heirsOf cX12_heirsOf 7 (some .int)) ({ frames := 7, cells := 0, slots := 0, locals := 177 } : Room) G cy sz [(a_0, .inr (12, [.int i_3, .ref a_1, .ref a_2, .ref a_3, .ref a_4, .ref a_5, .int i_4, .int i_5, .int i_6, .int i_7, .int i_8, .long j_0, .int i_9, .int i_10, .int i_11, .int i_12, .ref a_6, .ref a_7, .ref a_8, .ref a_9, .ref a_10, .ref a_11, .ref a_12, .ref a_13, .ref a_14, .ref a_15, .ref a_16, .ref a_17, .ref a_18, .int i_13, .int i_14, .int i_15, .int i_16, .int i_17, .int i_18, .ref a_19, .int i_19, .ref a_20])), (a_7, .inl (cy 1, 30, .inl (mm_g [i_20, i_21, i_22, i_23, i_24, i_25, i_26, i_27, i_28, i_29, i_30, i_31, i_32, i_33, i_34, i_35, i_36, i_37, i_38, i_39, i_40, i_41, i_42, i_43, i_44, i_45, i_46, i_47, i_48, i_49]))), (a_8, .inl (cy 1, 90, .inl f_0)), (a_11, .inl (cy 1, 30, .inl f_1)), (a_12, .inl (cy 1, 240, .inl f_2)), (a_13, .inl (cy 1, 450, .inl f_3)), (a_15, .inl (cy 1, 7200, .inl f_4)), (a_16, .inl (cy 1, 3, .inl f_5)), (a_18, .inl (cy 1, 8, .inl f_6))] [.ref a_0, .int i_0, .int i_1, .int i_2] (fun u : Int32 × Int32 × Int32 × (Nat → Int32) => [(a_0, .inr (12, [.int i_3, .ref a_1, .ref a_2, .ref a_3, .ref a_4, .ref a_5, .int i_4, .int i_5, .int i_6, .int i_7, .int i_8, .long j_0, .int i_9, .int i_10, .int i_11, .int i_12, .ref a_6, .ref a_7, .ref a_8, .ref a_9, .ref a_10, .ref a_11, .ref a_12, .ref a_13, .ref a_14, .ref a_15, .ref a_16, .ref a_17, .ref a_18, .int u.1, .int u.2.1, .int u.2.2.1, .int i_16, .int i_17, .int i_18, .ref a_19, .int i_19, .ref a_20])), (a_7, .inl (cy 1, 30, .inl (mm_g [i_20, i_21, i_22, i_23, i_24, i_25, i_26, i_27, i_28, i_29, i_30, i_31, i_32, i_33, i_34, i_35, i_36, i_37, i_38, i_39, i_40, i_41, i_42, i_43, i_44, i_45, i_46, i_47, i_48, i_49]))), (a_8, .inl (cy 1, 90, .inl f_0)), (a_11, .inl (cy 1, 30, .inl f_1)), (a_12, .inl (cy 1, 240, .inl f_2)), (a_13, .inl (cy 1, 450, .inl f_3)), (a_15, .inl (cy 1, 7200, .inl f_4)), (a_16, .inl (cy 1, 3, .inl f_5)), (a_18, .inl (cy 1, 8, .inl u.2.2.2))]) (fun (r : Int32) (u : Int32 × Int32 × Int32 × (Nat → Int32)) => mm_rg u.1 0 8 ∧ mm_ar u.2.2.2 0 9 ∧ mm_rg r (-1000000) 1009999) 0 0 := by
  refine mm_begin (lv := [(0, .ref a_0), (1, .int i_0), (2, .int i_1), (3, .int i_2)]) (by decide) (Nat.le_of_ble_eq_true rfl) rfl ?_
  intro p e s m below meth c A ls R args Q H locs hRe hQ hAe hx hb hr hlocks hml hown hnm hts hsz hA hS hP hK hD hZ hl
  have hRf : R.frames = 7 := by rw [hRe]
  have hRl : R.locals = 177 := by rw [hRe]
  have hRc : R.cells = 0 := by rw [hRe]
  have hRs : R.slots = 0 := by rw [hRe]
  refine lv_iload_n hx hb dX12_heirsOf_0 rfl (lv_at hl 3 rfl) ?_
  refine lv_if_ne (tgt := 8) hx hb dX12_heirsOf_1 (by decide) (fun c1 => ?_) (fun c1 => ?_)
  · have q2 := mm_neL (lo := 1) (mm_ne c1) h2 mm_k0 (by decide) (by decide)
    refine lv_ldcw (v := (-1000000)) hx hb hown (mm_h hts mm_w1460) dX12_heirsOf_8 ?_
    refine lv_istore (lv' := [(4, .int (-1000000)), (0, .ref a_0), (1, .int i_0), (2, .int i_1), (3, .int i_2)]) hx hb dX12_heirsOf_11 hl (by decide) rfl ?_
    clear hl
    clear ls
    intro ls hl
    refine lv_iconst (v := 0) hx hb dX12_heirsOf_13 (by decide) ?_
    refine lv_istore (lv' := [(5, .int 0), (4, .int (-1000000)), (0, .ref a_0), (1, .int i_0), (2, .int i_1), (3, .int i_2)]) hx hb dX12_heirsOf_14 hl (by decide) rfl ?_
    clear hl
    clear ls
    intro ls hl
    have L16_311 : ∀ (n : Nat) (x16_5_306 : Int32) (x16_4_307 : Int32) (y16_0_29_308 : Int32) (y16_0_30_309 : Int32) (y16_0_31_310 : Int32) (z16_8_311 : Nat → Int32), mm_rg x16_5_306 0 6 → mm_rg x16_4_307 (-1000000) 1009999 → mm_rg y16_0_29_308 0 8 → mm_ar z16_8_311 0 9 → (6 - x16_5_306.toInt).toNat < n → ∀ (H : Heap) (locs : List Loc), va_P G vwCl [(a_0, .inr (12, [.int i_3, .ref a_1, .ref a_2, .ref a_3, .ref a_4, .ref a_5, .int i_4, .int i_5, .int i_6, .int i_7, .int i_8, .long j_0, .int i_9, .int i_10, .int i_11, .int i_12, .ref a_6, .ref a_7, .ref a_8, .ref a_9, .ref a_10, .ref a_11, .ref a_12, .ref a_13, .ref a_14, .ref a_15, .ref a_16, .ref a_17, .ref a_18, .int y16_0_29_308, .int y16_0_30_309, .int y16_0_31_310, .int i_16, .int i_17, .int i_18, .ref a_19, .int i_19, .ref a_20])), (a_7, .inl (cy 1, 30, .inl (mm_g [i_20, i_21, i_22, i_23, i_24, i_25, i_26, i_27, i_28, i_29, i_30, i_31, i_32, i_33, i_34, i_35, i_36, i_37, i_38, i_39, i_40, i_41, i_42, i_43, i_44, i_45, i_46, i_47, i_48, i_49]))), (a_8, .inl (cy 1, 90, .inl f_0)), (a_11, .inl (cy 1, 30, .inl f_1)), (a_12, .inl (cy 1, 240, .inl f_2)), (a_13, .inl (cy 1, 450, .inl f_3)), (a_15, .inl (cy 1, 7200, .inl f_4)), (a_16, .inl (cy 1, 3, .inl f_5)), (a_18, .inl (cy 1, 8, .inl z16_8_311))] H → va_D A [(a_0, .inr (12, [.int i_3, .ref a_1, .ref a_2, .ref a_3, .ref a_4, .ref a_5, .int i_4, .int i_5, .int i_6, .int i_7, .int i_8, .long j_0, .int i_9, .int i_10, .int i_11, .int i_12, .ref a_6, .ref a_7, .ref a_8, .ref a_9, .ref a_10, .ref a_11, .ref a_12, .ref a_13, .ref a_14, .ref a_15, .ref a_16, .ref a_17, .ref a_18, .int y16_0_29_308, .int y16_0_30_309, .int y16_0_31_310, .int i_16, .int i_17, .int i_18, .ref a_19, .int i_19, .ref a_20])), (a_7, .inl (cy 1, 30, .inl (mm_g [i_20, i_21, i_22, i_23, i_24, i_25, i_26, i_27, i_28, i_29, i_30, i_31, i_32, i_33, i_34, i_35, i_36, i_37, i_38, i_39, i_40, i_41, i_42, i_43, i_44, i_45, i_46, i_47, i_48, i_49]))), (a_8, .inl (cy 1, 90, .inl f_0)), (a_11, .inl (cy 1, 30, .inl f_1)), (a_12, .inl (cy 1, 240, .inl f_2)), (a_13, .inl (cy 1, 450, .inl f_3)), (a_15, .inl (cy 1, 7200, .inl f_4)), (a_16, .inl (cy 1, 3, .inl f_5)), (a_18, .inl (cy 1, 8, .inl z16_8_311))] → va_S A s.heap H locs → ∀ (ls : Array Slot), lv_has ls 7 [(5, .int x16_5_306), (4, .int x16_4_307), (0, .ref a_0), (1, .int i_0), (2, .int i_1), (3, .int i_2)] → W p l e R s m args below meth c H locs 0 0 Q (F0 m 16 ls []) := by
      intro n
      induction n with
      | zero => intro x16_5_306 x16_4_307 y16_0_29_308 y16_0_30_309 y16_0_31_310 z16_8_311 rx16_5_306 rx16_4_307 ry16_0_29_308 rz16_8_311 hm; exact absurd hm (Nat.not_lt_zero _)
      | succ n ih16 =>
        intro x16_5_306 x16_4_307 y16_0_29_308 y16_0_30_309 y16_0_31_310 z16_8_311 rx16_5_306 rx16_4_307 ry16_0_29_308 rz16_8_311 hm16 H locs hP hD hS ls hl
        refine lv_iload hx hb dX12_heirsOf_16 (lv_at hl 0 rfl) ?_
        refine lv_aload_n hx hb dX12_heirsOf_18 rfl (lv_at hl 2 rfl) ?_
        refine mm_finir (va_runV (As := []) (rest := [.int x16_5_306]) ⟨hx, hb, hml, hown, hts⟩ (M95_X12_texts l G cy H.size a_0 i_3 a_1 a_2 a_3 a_4 a_5 i_4 i_5 i_6 i_7 i_8 j_0 i_9 i_10 i_11 i_12 a_6 a_7 a_8 a_9 a_10 a_11 a_12 a_13 a_14 a_15 a_16 a_17 a_18 y16_0_29_308 y16_0_30_309 y16_0_31_310 i_16 i_17 i_18 a_19 i_19 a_20 i_20 i_21 i_22 i_23 i_24 i_25 i_26 i_27 i_28 i_29 i_30 i_31 i_32 i_33 i_34 i_35 i_36 i_37 i_38 i_39 i_40 i_41 i_42 i_43 i_44 i_45 i_46 i_47 i_48 i_49 h4 h5 h6 h7 h8 h9 h10 h11 h12 h13 h14 h15 h16 h17 h18 h19 h20 h21 h22 h23 h24 h25 h26 h27 h28 h29 h30 h31 h32 h33) (cwV 0 hts (mm_gV mm_w617 mm_w618 mm_w619 mm_w5 mm_w620) rfl rfl rfl hd_X12_texts ⟨by rw [hRf]; exact Nat.le_of_ble_eq_true rfl, by rw [hRl]; exact Nat.le_of_ble_eq_true rfl⟩) (mm_preV hK hZ hS hA hP hD [0, 1] rfl rfl 0 rfl rfl rfl) rfl rfl hl.1 rfl (lv_room (Nat.le_of_ble_eq_true rfl)) dX12_heirsOf_19 ⟨by rw [hRc]; exact Nat.le_of_ble_eq_true rfl, by rw [hRs]; exact Nat.le_of_ble_eq_true rfl⟩) hP hD hS hA [0, 1] rfl (fun _ => rfl) ?_
        clear hP hD hS
        clear H locs
        intro v313 _u H locs hw hP hD hS
        subst hw
        refine lv_icmp_ge (tgt := 86) hx hb dX12_heirsOf_22 (by decide) (fun c314 => ?_) (fun c314 => ?_)
        · refine lv_iload hx hb dX12_heirsOf_86 (lv_at hl 1 rfl) ?_
          subst hAe
          rw [hQ]
          exact W.iret (v := x16_4_307) hx hb hr (fun t ht hW => ⟨⟨x16_4_307, (y16_0_29_308, y16_0_30_309, y16_0_31_310, z16_8_311), rfl, ⟨ry16_0_29_308, rz16_8_311, rx16_4_307⟩, by rw [ht]; exact hP, hK.warm hW, hD⟩, hS.F ht⟩) hS.2.2 dX12_heirsOf_88
        · have q315 := mm_ltL (h := 5) (mm_nle c314) rx16_5_306 h8 (by decide)
          have q316 := mm_ltR (lo := 1) (mm_nle c314) rx16_5_306 h8 (by decide)
          refine lv_iload_n hx hb dX12_heirsOf_25 rfl (lv_at hl 5 rfl) ?_
          refine lv_iload hx hb dX12_heirsOf_26 (lv_at hl 0 rfl) ?_
          refine mm_finir (va_runS (As := [.int i_2, .int x16_5_306]) (rest := []) ⟨hx, hb, hml, hown, hts⟩ (M232_X12_isBit l G cy H.size i_2 x16_5_306 (mm_wk q2 (by decide)) q315) (va_cwS 2 hts (mm_gS mm_w1461 mm_w1462 mm_w5 mm_w1463) rfl rfl rfl hs_X12_isBit ⟨by rw [hRf]; exact Nat.le_of_ble_eq_true rfl, by rw [hRl]; exact Nat.le_of_ble_eq_true rfl⟩) (mm_preS hK hZ hS hA hP hD [] rfl rfl) rfl rfl hl.1 rfl (lv_room (Nat.le_of_ble_eq_true rfl)) dX12_heirsOf_28 ⟨by rw [hRc]; exact Nat.le_of_ble_eq_true rfl, by rw [hRs]; exact Nat.le_of_ble_eq_true rfl⟩) hP hD hS hA [] rfl (fun _ => rfl) ?_
          clear hP hD hS
          clear H locs
          intro v317 _u H locs hw hP hD hS
          rcases hw with ⟨rfl, w318⟩ | ⟨rfl, w319⟩
          · refine lv_if_ne (tgt := 37) hx hb dX12_heirsOf_31 (by decide) (fun c320 => ?_) (fun c320 => ?_)
            · exact absurd rfl (mm_ne c320)
            · refine lv_goto (tgt := 80) hx hb dX12_heirsOf_34 (by decide) ?_
              obtain ⟨v321, ev321⟩ : ∃ y : Int32, y = x16_5_306 + 1 := ⟨_, rfl⟩
              refine lv_iinc (v := v321) (lv' := [(5, .int v321), (4, .int x16_4_307), (0, .ref a_0), (1, .int i_0), (2, .int i_1), (3, .int i_2)]) hx hb dX12_heirsOf_80 hl (k := 0) rfl (by rw [ev321]; rfl) (by decide) rfl ?_
              clear hl
              clear ls
              intro ls hl
              have rv321 : mm_rg v321 1 6 := mm_add ev321 q315 mm_k1 (by decide) (by decide)
              have tv321 := mm_addEc ev321 q315 mm_k1 (by decide) (k := 1) (by decide)
              refine lv_goto (tgt := 16) hx hb dX12_heirsOf_83 (by decide) ?_
              exact ih16 v321 x16_4_307 y16_0_29_308 y16_0_30_309 y16_0_31_310 z16_8_311 (mm_wk rv321 (by decide)) rx16_4_307 ry16_0_29_308 rz16_8_311 (mm_mu hm16 tv321 (by decide) (rv321).2 (by decide)) H locs hP hD hS ls (lv_sub hl [0, 1, 2, 3, 4, 5] rfl)
          · refine lv_if_ne (tgt := 37) hx hb dX12_heirsOf_31 (by decide) (fun c322 => ?_) (fun c322 => ?_)
            · refine lv_aload_n hx hb dX12_heirsOf_37 rfl (lv_at hl 2 rfl) ?_
              refine lv_iload_n hx hb dX12_heirsOf_38 rfl (lv_at hl 3 rfl) ?_
              refine lv_iload_n hx hb dX12_heirsOf_39 rfl (lv_at hl 4 rfl) ?_
              refine lv_iload hx hb dX12_heirsOf_40 (lv_at hl 0 rfl) ?_
              refine mm_fini (va_runV (As := [.int i_0, .int i_1, .int x16_5_306]) (rest := []) ⟨hx, hb, hml, hown, hts⟩ (M141_X12_reads l G cy H.size a_0 i_0 i_1 x16_5_306 i_3 a_1 a_2 a_3 a_4 a_5 i_4 i_5 i_6 i_7 i_8 j_0 i_9 i_10 i_11 i_12 a_6 a_7 a_8 a_9 a_10 a_11 a_12 a_13 a_14 a_15 a_16 a_17 a_18 y16_0_29_308 y16_0_30_309 y16_0_31_310 i_16 i_17 i_18 a_19 i_19 a_20 i_20 i_21 i_22 i_23 i_24 i_25 i_26 i_27 i_28 i_29 i_30 i_31 i_32 i_33 i_34 i_35 i_36 i_37 i_38 i_39 i_40 i_41 i_42 i_43 i_44 i_45 i_46 i_47 i_48 i_49 f_0 f_1 f_2 f_3 f_4 f_5 z16_8_311 h0 (mm_wk h1 (by decide)) q315 ry16_0_29_308 h4 h5 h6 h7 (mm_wk q316 (by decide)) h9 h10 h11 h12 h13 h14 h15 h16 h17 h18 h19 h20 h21 h22 h23 h24 h25 h26 h27 h28 h29 h30 h31 h32 h33 h34 h35 h36 h37 h38 h39 rz16_8_311 h41 h42 h43 h44 h45 h46 h47 h48 h49) (cwV 3 hts (mm_gV mm_w852 mm_w853 mm_w854 mm_w5 mm_w855) rfl rfl rfl hd_X12_reads ⟨by rw [hRf]; exact Nat.le_of_ble_eq_true rfl, by rw [hRl]; exact Nat.le_of_ble_eq_true rfl⟩) (mm_preV hK hZ hS hA hP hD [0, 1, 2, 3, 4, 5, 6, 7, 8] rfl rfl 0 rfl rfl rfl) rfl rfl hl.1 rfl (lv_room (Nat.le_of_ble_eq_true rfl)) dX12_heirsOf_42 ⟨by rw [hRc]; exact Nat.le_of_ble_eq_true rfl, by rw [hRs]; exact Nat.le_of_ble_eq_true rfl⟩) hP hD hS hA (fun u : Int32 × Int32 × Int32 × (Nat → Int32) => [(a_0, .inr (12, [.int i_3, .ref a_1, .ref a_2, .ref a_3, .ref a_4, .ref a_5, .int i_4, .int i_5, .int i_6, .int i_7, .int i_8, .long j_0, .int i_9, .int i_10, .int i_11, .int i_12, .ref a_6, .ref a_7, .ref a_8, .ref a_9, .ref a_10, .ref a_11, .ref a_12, .ref a_13, .ref a_14, .ref a_15, .ref a_16, .ref a_17, .ref a_18, .int u.1, .int u.2.1, .int u.2.2.1, .int i_16, .int i_17, .int i_18, .ref a_19, .int i_19, .ref a_20])), (a_7, .inl (cy 1, 30, .inl (mm_g [i_20, i_21, i_22, i_23, i_24, i_25, i_26, i_27, i_28, i_29, i_30, i_31, i_32, i_33, i_34, i_35, i_36, i_37, i_38, i_39, i_40, i_41, i_42, i_43, i_44, i_45, i_46, i_47, i_48, i_49]))), (a_8, .inl (cy 1, 90, .inl f_0)), (a_11, .inl (cy 1, 30, .inl f_1)), (a_12, .inl (cy 1, 240, .inl f_2)), (a_13, .inl (cy 1, 450, .inl f_3)), (a_15, .inl (cy 1, 7200, .inl f_4)), (a_16, .inl (cy 1, 3, .inl f_5)), (a_18, .inl (cy 1, 8, .inl u.2.2.2))]) [0, 1, 2, 3, 4, 5, 6, 7, 8] [] (n := 9) (fun _ => rfl) (by decide +kernel) (by decide +kernel) rfl (fun _ => rfl) (wr := []) rfl (fun _ => rfl) (fun _ => @rfl _ ([a_0, a_7, a_8, a_11, a_12, a_13, a_15, a_16, a_18] : List Nat)) ?_
              clear hP hD hS
              clear H locs
              intro v327 u
              obtain ⟨n323, n324, n325, n326⟩ := u
              intro H locs hw (hP : va_P G vwCl [(a_0, .inr (12, [.int i_3, .ref a_1, .ref a_2, .ref a_3, .ref a_4, .ref a_5, .int i_4, .int i_5, .int i_6, .int i_7, .int i_8, .long j_0, .int i_9, .int i_10, .int i_11, .int i_12, .ref a_6, .ref a_7, .ref a_8, .ref a_9, .ref a_10, .ref a_11, .ref a_12, .ref a_13, .ref a_14, .ref a_15, .ref a_16, .ref a_17, .ref a_18, .int n323, .int n324, .int n325, .int i_16, .int i_17, .int i_18, .ref a_19, .int i_19, .ref a_20])), (a_7, .inl (cy 1, 30, .inl (mm_g [i_20, i_21, i_22, i_23, i_24, i_25, i_26, i_27, i_28, i_29, i_30, i_31, i_32, i_33, i_34, i_35, i_36, i_37, i_38, i_39, i_40, i_41, i_42, i_43, i_44, i_45, i_46, i_47, i_48, i_49]))), (a_8, .inl (cy 1, 90, .inl f_0)), (a_11, .inl (cy 1, 30, .inl f_1)), (a_12, .inl (cy 1, 240, .inl f_2)), (a_13, .inl (cy 1, 450, .inl f_3)), (a_15, .inl (cy 1, 7200, .inl f_4)), (a_16, .inl (cy 1, 3, .inl f_5)), (a_18, .inl (cy 1, 8, .inl n326))] H) (hD : va_D A [(a_0, .inr (12, [.int i_3, .ref a_1, .ref a_2, .ref a_3, .ref a_4, .ref a_5, .int i_4, .int i_5, .int i_6, .int i_7, .int i_8, .long j_0, .int i_9, .int i_10, .int i_11, .int i_12, .ref a_6, .ref a_7, .ref a_8, .ref a_9, .ref a_10, .ref a_11, .ref a_12, .ref a_13, .ref a_14, .ref a_15, .ref a_16, .ref a_17, .ref a_18, .int n323, .int n324, .int n325, .int i_16, .int i_17, .int i_18, .ref a_19, .int i_19, .ref a_20])), (a_7, .inl (cy 1, 30, .inl (mm_g [i_20, i_21, i_22, i_23, i_24, i_25, i_26, i_27, i_28, i_29, i_30, i_31, i_32, i_33, i_34, i_35, i_36, i_37, i_38, i_39, i_40, i_41, i_42, i_43, i_44, i_45, i_46, i_47, i_48, i_49]))), (a_8, .inl (cy 1, 90, .inl f_0)), (a_11, .inl (cy 1, 30, .inl f_1)), (a_12, .inl (cy 1, 240, .inl f_2)), (a_13, .inl (cy 1, 450, .inl f_3)), (a_15, .inl (cy 1, 7200, .inl f_4)), (a_16, .inl (cy 1, 3, .inl f_5)), (a_18, .inl (cy 1, 8, .inl n326))]) hS
              obtain ⟨w328, w329, hw⟩ := hw
              obtain ⟨w330, w331⟩ := hw
              replace w331 : mm_rd f_4 f_5 f_0 f_1 f_2 f_3 i_0 i_1 x16_5_306 i_21 i_22 i_25 v327 := w331
              refine lv_aload_n hx hb dX12_heirsOf_45 rfl (lv_at hl 2 rfl) ?_
              refine lv_iload_n hx hb dX12_heirsOf_46 rfl (lv_at hl 3 rfl) ?_
              refine lv_iload_n hx hb dX12_heirsOf_47 rfl (lv_at hl 4 rfl) ?_
              refine lv_iconst (v := 1) hx hb dX12_heirsOf_48 (by decide) ?_
              refine lv_iadd hx hb dX12_heirsOf_49 ?_
              refine lv_topi (fun v332 ev332 => ?_)
              have rv332 : mm_rg v332 1 1000000003 := mm_add ev332 h1 mm_k1 (by decide) (by decide)
              have tv332 := mm_addEc ev332 h1 mm_k1 (by decide) (k := 1) (by decide)
              refine lv_iload_n hx hb dX12_heirsOf_50 rfl (lv_at hl 5 rfl) ?_
              refine lv_iconst (v := 1) hx hb dX12_heirsOf_51 (by decide) ?_
              refine lv_iload hx hb dX12_heirsOf_52 (lv_at hl 0 rfl) ?_
              refine lv_ishl hx hb dX12_heirsOf_54 ?_
              refine lv_topi (fun v333 ev333 => ?_)
              have rv333 : mm_rg v333 1 32 := mm_shl1 ev333 q315 (by decide)
              refine lv_iconst (v := (-1)) hx hb dX12_heirsOf_55 (by decide) ?_
              refine lv_ixor hx hb dX12_heirsOf_56 ?_
              refine lv_topi (fun v334 ev334 => ?_)
              refine lv_iand hx hb dX12_heirsOf_57 ?_
              refine lv_topi (fun v335 ev335 => ?_)
              have rv335 : mm_rg v335 0 63 := mm_andL ev335 q2 (by decide)
              refine mm_fini (va_runV (As := [.int i_0, .int v332, .int v335]) (rest := [.int v327]) ⟨hx, hb, hml, hown, hts⟩ (M237_X12_heirsOf l G cy H.size a_0 i_0 v332 v335 i_3 a_1 a_2 a_3 a_4 a_5 i_4 i_5 i_6 i_7 i_8 j_0 i_9 i_10 i_11 i_12 a_6 a_7 a_8 a_9 a_10 a_11 a_12 a_13 a_14 a_15 a_16 a_17 a_18 n323 n324 n325 i_16 i_17 i_18 a_19 i_19 a_20 i_20 i_21 i_22 i_23 i_24 i_25 i_26 i_27 i_28 i_29 i_30 i_31 i_32 i_33 i_34 i_35 i_36 i_37 i_38 i_39 i_40 i_41 i_42 i_43 i_44 i_45 i_46 i_47 i_48 i_49 f_0 f_1 f_2 f_3 f_4 f_5 n326 h0 (mm_wk rv332 (by decide)) rv335 w328 h4 h5 h6 h7 (mm_wk q316 (by decide)) h9 h10 h11 h12 h13 h14 h15 h16 h17 h18 h19 h20 h21 h22 h23 h24 h25 h26 h27 h28 h29 h30 h31 h32 h33 h34 h35 h36 h37 h38 h39 w329 h41 h42 h43 h44 h45 h46 h47 h48 h49 (mm_pc_cut h50 w319 ev333 ev334 ev335 q2 q315 (by decide))) (cwV 3 hts (mm_gV mm_w1456 mm_w1457 mm_w1458 mm_w5 mm_w1459) rfl rfl rfl hd_X12_heirsOf ⟨by rw [hRf]; exact Nat.le_of_ble_eq_true rfl, by rw [hRl]; exact Nat.le_of_ble_eq_true rfl⟩) (mm_preV hK hZ hS hA hP hD [0, 1, 2, 3, 4, 5, 6, 7, 8] rfl rfl 0 rfl rfl rfl) rfl rfl hl.1 rfl (lv_room (Nat.le_of_ble_eq_true rfl)) dX12_heirsOf_58 ⟨by rw [hRc]; exact Nat.le_of_ble_eq_true rfl, by rw [hRs]; exact Nat.le_of_ble_eq_true rfl⟩) hP hD hS hA (fun u : Int32 × Int32 × Int32 × (Nat → Int32) => [(a_0, .inr (12, [.int i_3, .ref a_1, .ref a_2, .ref a_3, .ref a_4, .ref a_5, .int i_4, .int i_5, .int i_6, .int i_7, .int i_8, .long j_0, .int i_9, .int i_10, .int i_11, .int i_12, .ref a_6, .ref a_7, .ref a_8, .ref a_9, .ref a_10, .ref a_11, .ref a_12, .ref a_13, .ref a_14, .ref a_15, .ref a_16, .ref a_17, .ref a_18, .int u.1, .int u.2.1, .int u.2.2.1, .int i_16, .int i_17, .int i_18, .ref a_19, .int i_19, .ref a_20])), (a_7, .inl (cy 1, 30, .inl (mm_g [i_20, i_21, i_22, i_23, i_24, i_25, i_26, i_27, i_28, i_29, i_30, i_31, i_32, i_33, i_34, i_35, i_36, i_37, i_38, i_39, i_40, i_41, i_42, i_43, i_44, i_45, i_46, i_47, i_48, i_49]))), (a_8, .inl (cy 1, 90, .inl f_0)), (a_11, .inl (cy 1, 30, .inl f_1)), (a_12, .inl (cy 1, 240, .inl f_2)), (a_13, .inl (cy 1, 450, .inl f_3)), (a_15, .inl (cy 1, 7200, .inl f_4)), (a_16, .inl (cy 1, 3, .inl f_5)), (a_18, .inl (cy 1, 8, .inl u.2.2.2))]) [0, 1, 2, 3, 4, 5, 6, 7, 8] [] (n := 9) (fun _ => rfl) (by decide +kernel) (by decide +kernel) rfl (fun _ => rfl) (wr := []) rfl (fun _ => rfl) (fun _ => @rfl _ ([a_0, a_7, a_8, a_11, a_12, a_13, a_15, a_16, a_18] : List Nat)) ?_
              clear hP hD hS
              clear H locs
              intro v340 u
              obtain ⟨n336, n337, n338, n339⟩ := u
              intro H locs hw (hP : va_P G vwCl [(a_0, .inr (12, [.int i_3, .ref a_1, .ref a_2, .ref a_3, .ref a_4, .ref a_5, .int i_4, .int i_5, .int i_6, .int i_7, .int i_8, .long j_0, .int i_9, .int i_10, .int i_11, .int i_12, .ref a_6, .ref a_7, .ref a_8, .ref a_9, .ref a_10, .ref a_11, .ref a_12, .ref a_13, .ref a_14, .ref a_15, .ref a_16, .ref a_17, .ref a_18, .int n336, .int n337, .int n338, .int i_16, .int i_17, .int i_18, .ref a_19, .int i_19, .ref a_20])), (a_7, .inl (cy 1, 30, .inl (mm_g [i_20, i_21, i_22, i_23, i_24, i_25, i_26, i_27, i_28, i_29, i_30, i_31, i_32, i_33, i_34, i_35, i_36, i_37, i_38, i_39, i_40, i_41, i_42, i_43, i_44, i_45, i_46, i_47, i_48, i_49]))), (a_8, .inl (cy 1, 90, .inl f_0)), (a_11, .inl (cy 1, 30, .inl f_1)), (a_12, .inl (cy 1, 240, .inl f_2)), (a_13, .inl (cy 1, 450, .inl f_3)), (a_15, .inl (cy 1, 7200, .inl f_4)), (a_16, .inl (cy 1, 3, .inl f_5)), (a_18, .inl (cy 1, 8, .inl n339))] H) (hD : va_D A [(a_0, .inr (12, [.int i_3, .ref a_1, .ref a_2, .ref a_3, .ref a_4, .ref a_5, .int i_4, .int i_5, .int i_6, .int i_7, .int i_8, .long j_0, .int i_9, .int i_10, .int i_11, .int i_12, .ref a_6, .ref a_7, .ref a_8, .ref a_9, .ref a_10, .ref a_11, .ref a_12, .ref a_13, .ref a_14, .ref a_15, .ref a_16, .ref a_17, .ref a_18, .int n336, .int n337, .int n338, .int i_16, .int i_17, .int i_18, .ref a_19, .int i_19, .ref a_20])), (a_7, .inl (cy 1, 30, .inl (mm_g [i_20, i_21, i_22, i_23, i_24, i_25, i_26, i_27, i_28, i_29, i_30, i_31, i_32, i_33, i_34, i_35, i_36, i_37, i_38, i_39, i_40, i_41, i_42, i_43, i_44, i_45, i_46, i_47, i_48, i_49]))), (a_8, .inl (cy 1, 90, .inl f_0)), (a_11, .inl (cy 1, 30, .inl f_1)), (a_12, .inl (cy 1, 240, .inl f_2)), (a_13, .inl (cy 1, 450, .inl f_3)), (a_15, .inl (cy 1, 7200, .inl f_4)), (a_16, .inl (cy 1, 3, .inl f_5)), (a_18, .inl (cy 1, 8, .inl n339))]) hS
              obtain ⟨w341, w342, hw⟩ := hw
              have w343 := hw
              refine lv_isub hx hb dX12_heirsOf_61 ?_
              refine lv_topi (fun v344 ev344 => ?_)
              have rv344 : mm_rg v344 (-1009999) 1009999 := mm_sub ev344 w330 w343 (by decide) (by decide)
              have tv344 := mm_subE ev344 w330 w343 (by decide)
              refine lv_istore (lv' := [(6, .int v344), (5, .int x16_5_306), (4, .int x16_4_307), (0, .ref a_0), (1, .int i_0), (2, .int i_1), (3, .int i_2)]) hx hb dX12_heirsOf_62 hl (by decide) rfl ?_
              clear hl
              clear ls
              intro ls hl
              refine lv_iload hx hb dX12_heirsOf_64 (lv_at hl 0 rfl) ?_
              refine lv_iload hx hb dX12_heirsOf_66 (lv_at hl 2 rfl) ?_
              refine lv_icmp_le (tgt := 76) hx hb dX12_heirsOf_68 (by decide) (fun c345 => ?_) (fun c345 => ?_)
              · refine lv_iload hx hb dX12_heirsOf_76 (lv_at hl 2 rfl) ?_
                refine lv_istore (lv' := [(4, .int x16_4_307), (6, .int v344), (5, .int x16_5_306), (0, .ref a_0), (1, .int i_0), (2, .int i_1), (3, .int i_2)]) hx hb dX12_heirsOf_78 hl (by decide) rfl ?_
                clear hl
                clear ls
                intro ls hl
                obtain ⟨v346, ev346⟩ : ∃ y : Int32, y = x16_5_306 + 1 := ⟨_, rfl⟩
                refine lv_iinc (v := v346) (lv' := [(5, .int v346), (4, .int x16_4_307), (6, .int v344), (0, .ref a_0), (1, .int i_0), (2, .int i_1), (3, .int i_2)]) hx hb dX12_heirsOf_80 hl (k := 2) rfl (by rw [ev346]; rfl) (by decide) rfl ?_
                clear hl
                clear ls
                intro ls hl
                have rv346 : mm_rg v346 1 6 := mm_add ev346 q315 mm_k1 (by decide) (by decide)
                have tv346 := mm_addEc ev346 q315 mm_k1 (by decide) (k := 1) (by decide)
                refine lv_goto (tgt := 16) hx hb dX12_heirsOf_83 (by decide) ?_
                exact ih16 v346 x16_4_307 n336 n337 n338 n339 (mm_wk rv346 (by decide)) rx16_4_307 w341 w342 (mm_mu hm16 tv346 (by decide) (rv346).2 (by decide)) H locs hP hD hS ls (lv_sub hl [0, 1, 3, 4, 5, 6] rfl)
              · have q347 := mm_ltL (h := 1009998) (mm_nle c345) rx16_4_307 rv344 (by decide)
                have q348 := mm_ltR (lo := (-999999)) (mm_nle c345) rx16_4_307 rv344 (by decide)
                have q349 : mm_rg v340 (-1000000) 1009998 := mm_unsubY tv344 q348 w330 w343 (by decide)
                refine lv_iload hx hb dX12_heirsOf_71 (lv_at hl 0 rfl) ?_
                refine lv_goto (tgt := 78) hx hb dX12_heirsOf_73 (by decide) ?_
                refine lv_istore (lv' := [(4, .int v344), (6, .int v344), (5, .int x16_5_306), (0, .ref a_0), (1, .int i_0), (2, .int i_1), (3, .int i_2)]) hx hb dX12_heirsOf_78 hl (by decide) rfl ?_
                clear hl
                clear ls
                intro ls hl
                obtain ⟨v350, ev350⟩ : ∃ y : Int32, y = x16_5_306 + 1 := ⟨_, rfl⟩
                refine lv_iinc (v := v350) (lv' := [(5, .int v350), (4, .int v344), (6, .int v344), (0, .ref a_0), (1, .int i_0), (2, .int i_1), (3, .int i_2)]) hx hb dX12_heirsOf_80 hl (k := 2) rfl (by rw [ev350]; rfl) (by decide) rfl ?_
                clear hl
                clear ls
                intro ls hl
                have rv350 : mm_rg v350 1 6 := mm_add ev350 q315 mm_k1 (by decide) (by decide)
                have tv350 := mm_addEc ev350 q315 mm_k1 (by decide) (k := 1) (by decide)
                refine lv_goto (tgt := 16) hx hb dX12_heirsOf_83 (by decide) ?_
                exact ih16 v350 v344 n336 n337 n338 n339 (mm_wk rv350 (by decide)) (mm_wk q348 (by decide)) w341 w342 (mm_mu hm16 tv350 (by decide) (rv350).2 (by decide)) H locs hP hD hS ls (lv_sub hl [0, 1, 3, 4, 5, 6] rfl)
            · exact mm_eqN c322.symm mm_k0 mm_k1 (by decide)
    exact L16_311 _ 0 (-1000000) i_13 i_14 i_15 f_6 (mm_wk mm_k0 (by decide)) (mm_wk mm_km1000000 (by decide)) h3 h40 (Nat.lt_succ_self _) H locs hP hD hS ls (lv_sub hl [0, 1, 2, 3, 4, 5] rfl)
  · have q351 := mm_eqI (lo := 0) (hi := 0) c1 h2 mm_k0 (by decide)
    refine lv_iconst (v := 0) hx hb dX12_heirsOf_4 (by decide) ?_
    refine lv_goto (tgt := 11) hx hb dX12_heirsOf_5 (by decide) ?_
    refine lv_istore (lv' := [(4, .int 0), (0, .ref a_0), (1, .int i_0), (2, .int i_1), (3, .int i_2)]) hx hb dX12_heirsOf_11 hl (by decide) rfl ?_
    clear hl
    clear ls
    intro ls hl
    refine lv_iconst (v := 0) hx hb dX12_heirsOf_13 (by decide) ?_
    refine lv_istore (lv' := [(5, .int 0), (4, .int 0), (0, .ref a_0), (1, .int i_0), (2, .int i_1), (3, .int i_2)]) hx hb dX12_heirsOf_14 hl (by decide) rfl ?_
    clear hl
    clear ls
    intro ls hl
    have L16_423 : ∀ (n : Nat) (x16_5_423 : Int32), mm_rg x16_5_423 0 6 → (6 - x16_5_423.toInt).toNat < n → ∀ (H : Heap) (locs : List Loc), va_P G vwCl [(a_0, .inr (12, [.int i_3, .ref a_1, .ref a_2, .ref a_3, .ref a_4, .ref a_5, .int i_4, .int i_5, .int i_6, .int i_7, .int i_8, .long j_0, .int i_9, .int i_10, .int i_11, .int i_12, .ref a_6, .ref a_7, .ref a_8, .ref a_9, .ref a_10, .ref a_11, .ref a_12, .ref a_13, .ref a_14, .ref a_15, .ref a_16, .ref a_17, .ref a_18, .int i_13, .int i_14, .int i_15, .int i_16, .int i_17, .int i_18, .ref a_19, .int i_19, .ref a_20])), (a_7, .inl (cy 1, 30, .inl (mm_g [i_20, i_21, i_22, i_23, i_24, i_25, i_26, i_27, i_28, i_29, i_30, i_31, i_32, i_33, i_34, i_35, i_36, i_37, i_38, i_39, i_40, i_41, i_42, i_43, i_44, i_45, i_46, i_47, i_48, i_49]))), (a_8, .inl (cy 1, 90, .inl f_0)), (a_11, .inl (cy 1, 30, .inl f_1)), (a_12, .inl (cy 1, 240, .inl f_2)), (a_13, .inl (cy 1, 450, .inl f_3)), (a_15, .inl (cy 1, 7200, .inl f_4)), (a_16, .inl (cy 1, 3, .inl f_5)), (a_18, .inl (cy 1, 8, .inl f_6))] H → va_D A [(a_0, .inr (12, [.int i_3, .ref a_1, .ref a_2, .ref a_3, .ref a_4, .ref a_5, .int i_4, .int i_5, .int i_6, .int i_7, .int i_8, .long j_0, .int i_9, .int i_10, .int i_11, .int i_12, .ref a_6, .ref a_7, .ref a_8, .ref a_9, .ref a_10, .ref a_11, .ref a_12, .ref a_13, .ref a_14, .ref a_15, .ref a_16, .ref a_17, .ref a_18, .int i_13, .int i_14, .int i_15, .int i_16, .int i_17, .int i_18, .ref a_19, .int i_19, .ref a_20])), (a_7, .inl (cy 1, 30, .inl (mm_g [i_20, i_21, i_22, i_23, i_24, i_25, i_26, i_27, i_28, i_29, i_30, i_31, i_32, i_33, i_34, i_35, i_36, i_37, i_38, i_39, i_40, i_41, i_42, i_43, i_44, i_45, i_46, i_47, i_48, i_49]))), (a_8, .inl (cy 1, 90, .inl f_0)), (a_11, .inl (cy 1, 30, .inl f_1)), (a_12, .inl (cy 1, 240, .inl f_2)), (a_13, .inl (cy 1, 450, .inl f_3)), (a_15, .inl (cy 1, 7200, .inl f_4)), (a_16, .inl (cy 1, 3, .inl f_5)), (a_18, .inl (cy 1, 8, .inl f_6))] → va_S A s.heap H locs → ∀ (ls : Array Slot), lv_has ls 7 [(5, .int x16_5_423), (4, .int 0), (0, .ref a_0), (1, .int i_0), (2, .int i_1), (3, .int i_2)] → W p l e R s m args below meth c H locs 0 0 Q (F0 m 16 ls []) := by
      intro n
      induction n with
      | zero => intro x16_5_423 rx16_5_423 hm; exact absurd hm (Nat.not_lt_zero _)
      | succ n ih16 =>
        intro x16_5_423 rx16_5_423 hm16 H locs hP hD hS ls hl
        refine lv_iload hx hb dX12_heirsOf_16 (lv_at hl 0 rfl) ?_
        refine lv_aload_n hx hb dX12_heirsOf_18 rfl (lv_at hl 2 rfl) ?_
        refine mm_finir (va_runV (As := []) (rest := [.int x16_5_423]) ⟨hx, hb, hml, hown, hts⟩ (M95_X12_texts l G cy H.size a_0 i_3 a_1 a_2 a_3 a_4 a_5 i_4 i_5 i_6 i_7 i_8 j_0 i_9 i_10 i_11 i_12 a_6 a_7 a_8 a_9 a_10 a_11 a_12 a_13 a_14 a_15 a_16 a_17 a_18 i_13 i_14 i_15 i_16 i_17 i_18 a_19 i_19 a_20 i_20 i_21 i_22 i_23 i_24 i_25 i_26 i_27 i_28 i_29 i_30 i_31 i_32 i_33 i_34 i_35 i_36 i_37 i_38 i_39 i_40 i_41 i_42 i_43 i_44 i_45 i_46 i_47 i_48 i_49 h4 h5 h6 h7 h8 h9 h10 h11 h12 h13 h14 h15 h16 h17 h18 h19 h20 h21 h22 h23 h24 h25 h26 h27 h28 h29 h30 h31 h32 h33) (cwV 0 hts (mm_gV mm_w617 mm_w618 mm_w619 mm_w5 mm_w620) rfl rfl rfl hd_X12_texts ⟨by rw [hRf]; exact Nat.le_of_ble_eq_true rfl, by rw [hRl]; exact Nat.le_of_ble_eq_true rfl⟩) (mm_preV hK hZ hS hA hP hD [0, 1] rfl rfl 0 rfl rfl rfl) rfl rfl hl.1 rfl (lv_room (Nat.le_of_ble_eq_true rfl)) dX12_heirsOf_19 ⟨by rw [hRc]; exact Nat.le_of_ble_eq_true rfl, by rw [hRs]; exact Nat.le_of_ble_eq_true rfl⟩) hP hD hS hA [0, 1] rfl (fun _ => rfl) ?_
        clear hP hD hS
        clear H locs
        intro v425 _u H locs hw hP hD hS
        subst hw
        refine lv_icmp_ge (tgt := 86) hx hb dX12_heirsOf_22 (by decide) (fun c426 => ?_) (fun c426 => ?_)
        · refine lv_iload hx hb dX12_heirsOf_86 (lv_at hl 1 rfl) ?_
          subst hAe
          rw [hQ]
          exact W.iret (v := 0) hx hb hr (fun t ht hW => ⟨⟨0, (i_13, i_14, i_15, f_6), rfl, ⟨h3, h40, (mm_wk mm_k0 (by decide))⟩, by rw [ht]; exact hP, hK.warm hW, hD⟩, hS.F ht⟩) hS.2.2 dX12_heirsOf_88
        · have q427 := mm_ltL (h := 5) (mm_nle c426) rx16_5_423 h8 (by decide)
          have q428 := mm_ltR (lo := 1) (mm_nle c426) rx16_5_423 h8 (by decide)
          refine lv_iload_n hx hb dX12_heirsOf_25 rfl (lv_at hl 5 rfl) ?_
          refine lv_iload hx hb dX12_heirsOf_26 (lv_at hl 0 rfl) ?_
          refine mm_finir (va_runS (As := [.int i_2, .int x16_5_423]) (rest := []) ⟨hx, hb, hml, hown, hts⟩ (M232_X12_isBit l G cy H.size i_2 x16_5_423 (mm_wk q351 (by decide)) q427) (va_cwS 2 hts (mm_gS mm_w1461 mm_w1462 mm_w5 mm_w1463) rfl rfl rfl hs_X12_isBit ⟨by rw [hRf]; exact Nat.le_of_ble_eq_true rfl, by rw [hRl]; exact Nat.le_of_ble_eq_true rfl⟩) (mm_preS hK hZ hS hA hP hD [] rfl rfl) rfl rfl hl.1 rfl (lv_room (Nat.le_of_ble_eq_true rfl)) dX12_heirsOf_28 ⟨by rw [hRc]; exact Nat.le_of_ble_eq_true rfl, by rw [hRs]; exact Nat.le_of_ble_eq_true rfl⟩) hP hD hS hA [] rfl (fun _ => rfl) ?_
          clear hP hD hS
          clear H locs
          intro v429 _u H locs hw hP hD hS
          rcases hw with ⟨rfl, w430⟩ | ⟨rfl, w431⟩
          · refine lv_if_ne (tgt := 37) hx hb dX12_heirsOf_31 (by decide) (fun c432 => ?_) (fun c432 => ?_)
            · exact absurd rfl (mm_ne c432)
            · refine lv_goto (tgt := 80) hx hb dX12_heirsOf_34 (by decide) ?_
              obtain ⟨v433, ev433⟩ : ∃ y : Int32, y = x16_5_423 + 1 := ⟨_, rfl⟩
              refine lv_iinc (v := v433) (lv' := [(5, .int v433), (4, .int 0), (0, .ref a_0), (1, .int i_0), (2, .int i_1), (3, .int i_2)]) hx hb dX12_heirsOf_80 hl (k := 0) rfl (by rw [ev433]; rfl) (by decide) rfl ?_
              clear hl
              clear ls
              intro ls hl
              have rv433 : mm_rg v433 1 6 := mm_add ev433 q427 mm_k1 (by decide) (by decide)
              have tv433 := mm_addEc ev433 q427 mm_k1 (by decide) (k := 1) (by decide)
              refine lv_goto (tgt := 16) hx hb dX12_heirsOf_83 (by decide) ?_
              exact ih16 v433 (mm_wk rv433 (by decide)) (mm_mu hm16 tv433 (by decide) (rv433).2 (by decide)) H locs hP hD hS ls (lv_sub hl [0, 1, 2, 3, 4, 5] rfl)
          · exact mm_bit_no w431 q351 (by decide)
    exact L16_423 _ 0 (mm_wk mm_k0 (by decide)) (Nat.lt_succ_self _) H locs hP hD hS ls (lv_sub hl [0, 1, 2, 3, 4, 5] rfl)

set_option maxHeartbeats 4000000 in
set_option maxRecDepth 100000 in
theorem M239_X12_heirsOf (l : Launch) (G : va_G) (cy : Nat → ClassId) (sz : Nat) (a_0 : Nat) (i_0 : Int32) (i_1 : Int32) (i_2 : Int32) (i_3 : Int32) (a_1 : Nat) (a_2 : Nat) (a_3 : Nat) (a_4 : Nat) (a_5 : Nat) (i_4 : Int32) (i_5 : Int32) (i_6 : Int32) (i_7 : Int32) (i_8 : Int32) (j_0 : Int64) (i_9 : Int32) (i_10 : Int32) (i_11 : Int32) (i_12 : Int32) (a_6 : Nat) (a_7 : Nat) (a_8 : Nat) (a_9 : Nat) (a_10 : Nat) (a_11 : Nat) (a_12 : Nat) (a_13 : Nat) (a_14 : Nat) (a_15 : Nat) (a_16 : Nat) (a_17 : Nat) (a_18 : Nat) (i_13 : Int32) (i_14 : Int32) (i_15 : Int32) (i_16 : Int32) (i_17 : Int32) (i_18 : Int32) (a_19 : Nat) (i_19 : Int32) (a_20 : Nat) (i_20 : Int32) (i_21 : Int32) (i_22 : Int32) (i_23 : Int32) (i_24 : Int32) (i_25 : Int32) (i_26 : Int32) (i_27 : Int32) (i_28 : Int32) (i_29 : Int32) (i_30 : Int32) (i_31 : Int32) (i_32 : Int32) (i_33 : Int32) (i_34 : Int32) (i_35 : Int32) (i_36 : Int32) (i_37 : Int32) (i_38 : Int32) (i_39 : Int32) (i_40 : Int32) (i_41 : Int32) (i_42 : Int32) (i_43 : Int32) (i_44 : Int32) (i_45 : Int32) (i_46 : Int32) (i_47 : Int32) (i_48 : Int32) (i_49 : Int32) (f_0 : Nat → Int32) (f_1 : Nat → Int32) (f_2 : Nat → Int32) (f_3 : Nat → Int32) (f_4 : Nat → Int32) (f_5 : Nat → Int32) (f_6 : Nat → Int32) (h0 : mm_rg i_0 0 2) (h1 : mm_rg i_1 0 1000000001) (h2 : mm_rg i_2 0 63) (h3 : mm_rg i_13 0 8) (h4 : mm_rg i_20 0 10) (h5 : mm_rg i_21 0 99) (h6 : mm_rg i_22 0 9) (h7 : mm_rg i_23 0 3) (h8 : mm_rg i_24 0 6) (h9 : mm_rg i_25 0 30) (h10 : mm_rg i_26 0 10) (h11 : mm_rg i_27 0 99) (h12 : mm_rg i_28 0 9) (h13 : mm_rg i_29 0 3) (h14 : mm_rg i_30 0 6) (h15 : mm_rg i_31 0 30) (h16 : mm_rg i_32 0 10) (h17 : mm_rg i_33 0 99) (h18 : mm_rg i_34 0 9) (h19 : mm_rg i_35 0 3) (h20 : mm_rg i_36 0 6) (h21 : mm_rg i_37 0 30) (h22 : mm_rg i_38 0 10) (h23 : mm_rg i_39 0 99) (h24 : mm_rg i_40 0 9) (h25 : mm_rg i_41 0 3) (h26 : mm_rg i_42 0 6) (h27 : mm_rg i_43 0 30) (h28 : mm_rg i_44 0 10) (h29 : mm_rg i_45 0 99) (h30 : mm_rg i_46 0 9) (h31 : mm_rg i_47 0 3) (h32 : mm_rg i_48 0 6) (h33 : mm_rg i_49 0 30) (h34 : mm_ar f_0 0 99) (h35 : mm_ar f_1 0 8) (h36 : mm_ar f_2 0 9) (h37 : mm_ar f_3 (-1) 99) (h38 : mm_ar f_4 0 9) (h39 : mm_ar f_5 0 210) (h40 : mm_ar f_6 0 9) (h41 : mm_txs f_1 f_2 0 i_22 i_24) (h42 : mm_acs f_3 0 i_22 i_23 i_25) (h43 : mm_txs f_1 f_2 1 i_28 i_30) (h44 : mm_acs f_3 1 i_28 i_29 i_31) (h45 : mm_txs f_1 f_2 2 i_34 i_36) (h46 : mm_acs f_3 2 i_34 i_35 i_37) (h47 : mm_txs f_1 f_2 3 i_40 i_42) (h48 : mm_acs f_3 3 i_40 i_41 i_43) (h49 : mm_f1 f_5 i_0) (h50 : mm_pc 6 i_2)  : mm_CI l yX12_heirsOf (mm_ws yX12_heirsOf cX12_heirsOf 7 (some .int)) ({ frames := 8, cells := 0, slots := 0, locals := 203 } : Room) G cy sz [(a_0, .inr (12, [.int i_3, .ref a_1, .ref a_2, .ref a_3, .ref a_4, .ref a_5, .int i_4, .int i_5, .int i_6, .int i_7, .int i_8, .long j_0, .int i_9, .int i_10, .int i_11, .int i_12, .ref a_6, .ref a_7, .ref a_8, .ref a_9, .ref a_10, .ref a_11, .ref a_12, .ref a_13, .ref a_14, .ref a_15, .ref a_16, .ref a_17, .ref a_18, .int i_13, .int i_14, .int i_15, .int i_16, .int i_17, .int i_18, .ref a_19, .int i_19, .ref a_20])), (a_7, .inl (cy 1, 30, .inl (mm_g [i_20, i_21, i_22, i_23, i_24, i_25, i_26, i_27, i_28, i_29, i_30, i_31, i_32, i_33, i_34, i_35, i_36, i_37, i_38, i_39, i_40, i_41, i_42, i_43, i_44, i_45, i_46, i_47, i_48, i_49]))), (a_8, .inl (cy 1, 90, .inl f_0)), (a_11, .inl (cy 1, 30, .inl f_1)), (a_12, .inl (cy 1, 240, .inl f_2)), (a_13, .inl (cy 1, 450, .inl f_3)), (a_15, .inl (cy 1, 7200, .inl f_4)), (a_16, .inl (cy 1, 3, .inl f_5)), (a_18, .inl (cy 1, 8, .inl f_6))] [.ref a_0, .int i_0, .int i_1, .int i_2] (fun u : Int32 × Int32 × Int32 × (Nat → Int32) => [(a_0, .inr (12, [.int i_3, .ref a_1, .ref a_2, .ref a_3, .ref a_4, .ref a_5, .int i_4, .int i_5, .int i_6, .int i_7, .int i_8, .long j_0, .int i_9, .int i_10, .int i_11, .int i_12, .ref a_6, .ref a_7, .ref a_8, .ref a_9, .ref a_10, .ref a_11, .ref a_12, .ref a_13, .ref a_14, .ref a_15, .ref a_16, .ref a_17, .ref a_18, .int u.1, .int u.2.1, .int u.2.2.1, .int i_16, .int i_17, .int i_18, .ref a_19, .int i_19, .ref a_20])), (a_7, .inl (cy 1, 30, .inl (mm_g [i_20, i_21, i_22, i_23, i_24, i_25, i_26, i_27, i_28, i_29, i_30, i_31, i_32, i_33, i_34, i_35, i_36, i_37, i_38, i_39, i_40, i_41, i_42, i_43, i_44, i_45, i_46, i_47, i_48, i_49]))), (a_8, .inl (cy 1, 90, .inl f_0)), (a_11, .inl (cy 1, 30, .inl f_1)), (a_12, .inl (cy 1, 240, .inl f_2)), (a_13, .inl (cy 1, 450, .inl f_3)), (a_15, .inl (cy 1, 7200, .inl f_4)), (a_16, .inl (cy 1, 3, .inl f_5)), (a_18, .inl (cy 1, 8, .inl u.2.2.2))]) (fun (r : Int32) (u : Int32 × Int32 × Int32 × (Nat → Int32)) => mm_rg u.1 0 8 ∧ mm_ar u.2.2.2 0 9 ∧ mm_rg r (-1000000) 1009999) 0 0 := by
  refine mm_begin (lv := [(0, .ref a_0), (1, .int i_0), (2, .int i_1), (3, .int i_2)]) (by decide) (Nat.le_of_ble_eq_true rfl) rfl ?_
  intro p e s m below meth c A ls R args Q H locs hRe hQ hAe hx hb hr hlocks hml hown hnm hts hsz hA hS hP hK hD hZ hl
  have hRf : R.frames = 8 := by rw [hRe]
  have hRl : R.locals = 203 := by rw [hRe]
  have hRc : R.cells = 0 := by rw [hRe]
  have hRs : R.slots = 0 := by rw [hRe]
  refine lv_iload_n hx hb dX12_heirsOf_0 rfl (lv_at hl 3 rfl) ?_
  refine lv_if_ne (tgt := 8) hx hb dX12_heirsOf_1 (by decide) (fun c1 => ?_) (fun c1 => ?_)
  · have q2 := mm_neL (lo := 1) (mm_ne c1) h2 mm_k0 (by decide) (by decide)
    refine lv_ldcw (v := (-1000000)) hx hb hown (mm_h hts mm_w1460) dX12_heirsOf_8 ?_
    refine lv_istore (lv' := [(4, .int (-1000000)), (0, .ref a_0), (1, .int i_0), (2, .int i_1), (3, .int i_2)]) hx hb dX12_heirsOf_11 hl (by decide) rfl ?_
    clear hl
    clear ls
    intro ls hl
    refine lv_iconst (v := 0) hx hb dX12_heirsOf_13 (by decide) ?_
    refine lv_istore (lv' := [(5, .int 0), (4, .int (-1000000)), (0, .ref a_0), (1, .int i_0), (2, .int i_1), (3, .int i_2)]) hx hb dX12_heirsOf_14 hl (by decide) rfl ?_
    clear hl
    clear ls
    intro ls hl
    have L16_311 : ∀ (n : Nat) (x16_5_306 : Int32) (x16_4_307 : Int32) (y16_0_29_308 : Int32) (y16_0_30_309 : Int32) (y16_0_31_310 : Int32) (z16_8_311 : Nat → Int32), mm_rg x16_5_306 0 6 → mm_rg x16_4_307 (-1000000) 1009999 → mm_rg y16_0_29_308 0 8 → mm_ar z16_8_311 0 9 → (6 - x16_5_306.toInt).toNat < n → ∀ (H : Heap) (locs : List Loc), va_P G vwCl [(a_0, .inr (12, [.int i_3, .ref a_1, .ref a_2, .ref a_3, .ref a_4, .ref a_5, .int i_4, .int i_5, .int i_6, .int i_7, .int i_8, .long j_0, .int i_9, .int i_10, .int i_11, .int i_12, .ref a_6, .ref a_7, .ref a_8, .ref a_9, .ref a_10, .ref a_11, .ref a_12, .ref a_13, .ref a_14, .ref a_15, .ref a_16, .ref a_17, .ref a_18, .int y16_0_29_308, .int y16_0_30_309, .int y16_0_31_310, .int i_16, .int i_17, .int i_18, .ref a_19, .int i_19, .ref a_20])), (a_7, .inl (cy 1, 30, .inl (mm_g [i_20, i_21, i_22, i_23, i_24, i_25, i_26, i_27, i_28, i_29, i_30, i_31, i_32, i_33, i_34, i_35, i_36, i_37, i_38, i_39, i_40, i_41, i_42, i_43, i_44, i_45, i_46, i_47, i_48, i_49]))), (a_8, .inl (cy 1, 90, .inl f_0)), (a_11, .inl (cy 1, 30, .inl f_1)), (a_12, .inl (cy 1, 240, .inl f_2)), (a_13, .inl (cy 1, 450, .inl f_3)), (a_15, .inl (cy 1, 7200, .inl f_4)), (a_16, .inl (cy 1, 3, .inl f_5)), (a_18, .inl (cy 1, 8, .inl z16_8_311))] H → va_D A [(a_0, .inr (12, [.int i_3, .ref a_1, .ref a_2, .ref a_3, .ref a_4, .ref a_5, .int i_4, .int i_5, .int i_6, .int i_7, .int i_8, .long j_0, .int i_9, .int i_10, .int i_11, .int i_12, .ref a_6, .ref a_7, .ref a_8, .ref a_9, .ref a_10, .ref a_11, .ref a_12, .ref a_13, .ref a_14, .ref a_15, .ref a_16, .ref a_17, .ref a_18, .int y16_0_29_308, .int y16_0_30_309, .int y16_0_31_310, .int i_16, .int i_17, .int i_18, .ref a_19, .int i_19, .ref a_20])), (a_7, .inl (cy 1, 30, .inl (mm_g [i_20, i_21, i_22, i_23, i_24, i_25, i_26, i_27, i_28, i_29, i_30, i_31, i_32, i_33, i_34, i_35, i_36, i_37, i_38, i_39, i_40, i_41, i_42, i_43, i_44, i_45, i_46, i_47, i_48, i_49]))), (a_8, .inl (cy 1, 90, .inl f_0)), (a_11, .inl (cy 1, 30, .inl f_1)), (a_12, .inl (cy 1, 240, .inl f_2)), (a_13, .inl (cy 1, 450, .inl f_3)), (a_15, .inl (cy 1, 7200, .inl f_4)), (a_16, .inl (cy 1, 3, .inl f_5)), (a_18, .inl (cy 1, 8, .inl z16_8_311))] → va_S A s.heap H locs → ∀ (ls : Array Slot), lv_has ls 7 [(5, .int x16_5_306), (4, .int x16_4_307), (0, .ref a_0), (1, .int i_0), (2, .int i_1), (3, .int i_2)] → W p l e R s m args below meth c H locs 0 0 Q (F0 m 16 ls []) := by
      intro n
      induction n with
      | zero => intro x16_5_306 x16_4_307 y16_0_29_308 y16_0_30_309 y16_0_31_310 z16_8_311 rx16_5_306 rx16_4_307 ry16_0_29_308 rz16_8_311 hm; exact absurd hm (Nat.not_lt_zero _)
      | succ n ih16 =>
        intro x16_5_306 x16_4_307 y16_0_29_308 y16_0_30_309 y16_0_31_310 z16_8_311 rx16_5_306 rx16_4_307 ry16_0_29_308 rz16_8_311 hm16 H locs hP hD hS ls hl
        refine lv_iload hx hb dX12_heirsOf_16 (lv_at hl 0 rfl) ?_
        refine lv_aload_n hx hb dX12_heirsOf_18 rfl (lv_at hl 2 rfl) ?_
        refine mm_finir (va_runV (As := []) (rest := [.int x16_5_306]) ⟨hx, hb, hml, hown, hts⟩ (M95_X12_texts l G cy H.size a_0 i_3 a_1 a_2 a_3 a_4 a_5 i_4 i_5 i_6 i_7 i_8 j_0 i_9 i_10 i_11 i_12 a_6 a_7 a_8 a_9 a_10 a_11 a_12 a_13 a_14 a_15 a_16 a_17 a_18 y16_0_29_308 y16_0_30_309 y16_0_31_310 i_16 i_17 i_18 a_19 i_19 a_20 i_20 i_21 i_22 i_23 i_24 i_25 i_26 i_27 i_28 i_29 i_30 i_31 i_32 i_33 i_34 i_35 i_36 i_37 i_38 i_39 i_40 i_41 i_42 i_43 i_44 i_45 i_46 i_47 i_48 i_49 h4 h5 h6 h7 h8 h9 h10 h11 h12 h13 h14 h15 h16 h17 h18 h19 h20 h21 h22 h23 h24 h25 h26 h27 h28 h29 h30 h31 h32 h33) (cwV 0 hts (mm_gV mm_w617 mm_w618 mm_w619 mm_w5 mm_w620) rfl rfl rfl hd_X12_texts ⟨by rw [hRf]; exact Nat.le_of_ble_eq_true rfl, by rw [hRl]; exact Nat.le_of_ble_eq_true rfl⟩) (mm_preV hK hZ hS hA hP hD [0, 1] rfl rfl 0 rfl rfl rfl) rfl rfl hl.1 rfl (lv_room (Nat.le_of_ble_eq_true rfl)) dX12_heirsOf_19 ⟨by rw [hRc]; exact Nat.le_of_ble_eq_true rfl, by rw [hRs]; exact Nat.le_of_ble_eq_true rfl⟩) hP hD hS hA [0, 1] rfl (fun _ => rfl) ?_
        clear hP hD hS
        clear H locs
        intro v313 _u H locs hw hP hD hS
        subst hw
        refine lv_icmp_ge (tgt := 86) hx hb dX12_heirsOf_22 (by decide) (fun c314 => ?_) (fun c314 => ?_)
        · refine lv_iload hx hb dX12_heirsOf_86 (lv_at hl 1 rfl) ?_
          subst hAe
          rw [hQ]
          exact W.iret (v := x16_4_307) hx hb hr (fun t ht hW => ⟨⟨x16_4_307, (y16_0_29_308, y16_0_30_309, y16_0_31_310, z16_8_311), rfl, ⟨ry16_0_29_308, rz16_8_311, rx16_4_307⟩, by rw [ht]; exact hP, hK.warm hW, hD⟩, hS.F ht⟩) hS.2.2 dX12_heirsOf_88
        · have q315 := mm_ltL (h := 5) (mm_nle c314) rx16_5_306 h8 (by decide)
          have q316 := mm_ltR (lo := 1) (mm_nle c314) rx16_5_306 h8 (by decide)
          refine lv_iload_n hx hb dX12_heirsOf_25 rfl (lv_at hl 5 rfl) ?_
          refine lv_iload hx hb dX12_heirsOf_26 (lv_at hl 0 rfl) ?_
          refine mm_finir (va_runS (As := [.int i_2, .int x16_5_306]) (rest := []) ⟨hx, hb, hml, hown, hts⟩ (M232_X12_isBit l G cy H.size i_2 x16_5_306 (mm_wk q2 (by decide)) q315) (va_cwS 2 hts (mm_gS mm_w1461 mm_w1462 mm_w5 mm_w1463) rfl rfl rfl hs_X12_isBit ⟨by rw [hRf]; exact Nat.le_of_ble_eq_true rfl, by rw [hRl]; exact Nat.le_of_ble_eq_true rfl⟩) (mm_preS hK hZ hS hA hP hD [] rfl rfl) rfl rfl hl.1 rfl (lv_room (Nat.le_of_ble_eq_true rfl)) dX12_heirsOf_28 ⟨by rw [hRc]; exact Nat.le_of_ble_eq_true rfl, by rw [hRs]; exact Nat.le_of_ble_eq_true rfl⟩) hP hD hS hA [] rfl (fun _ => rfl) ?_
          clear hP hD hS
          clear H locs
          intro v317 _u H locs hw hP hD hS
          rcases hw with ⟨rfl, w318⟩ | ⟨rfl, w319⟩
          · refine lv_if_ne (tgt := 37) hx hb dX12_heirsOf_31 (by decide) (fun c320 => ?_) (fun c320 => ?_)
            · exact absurd rfl (mm_ne c320)
            · refine lv_goto (tgt := 80) hx hb dX12_heirsOf_34 (by decide) ?_
              obtain ⟨v321, ev321⟩ : ∃ y : Int32, y = x16_5_306 + 1 := ⟨_, rfl⟩
              refine lv_iinc (v := v321) (lv' := [(5, .int v321), (4, .int x16_4_307), (0, .ref a_0), (1, .int i_0), (2, .int i_1), (3, .int i_2)]) hx hb dX12_heirsOf_80 hl (k := 0) rfl (by rw [ev321]; rfl) (by decide) rfl ?_
              clear hl
              clear ls
              intro ls hl
              have rv321 : mm_rg v321 1 6 := mm_add ev321 q315 mm_k1 (by decide) (by decide)
              have tv321 := mm_addEc ev321 q315 mm_k1 (by decide) (k := 1) (by decide)
              refine lv_goto (tgt := 16) hx hb dX12_heirsOf_83 (by decide) ?_
              exact ih16 v321 x16_4_307 y16_0_29_308 y16_0_30_309 y16_0_31_310 z16_8_311 (mm_wk rv321 (by decide)) rx16_4_307 ry16_0_29_308 rz16_8_311 (mm_mu hm16 tv321 (by decide) (rv321).2 (by decide)) H locs hP hD hS ls (lv_sub hl [0, 1, 2, 3, 4, 5] rfl)
          · refine lv_if_ne (tgt := 37) hx hb dX12_heirsOf_31 (by decide) (fun c322 => ?_) (fun c322 => ?_)
            · refine lv_aload_n hx hb dX12_heirsOf_37 rfl (lv_at hl 2 rfl) ?_
              refine lv_iload_n hx hb dX12_heirsOf_38 rfl (lv_at hl 3 rfl) ?_
              refine lv_iload_n hx hb dX12_heirsOf_39 rfl (lv_at hl 4 rfl) ?_
              refine lv_iload hx hb dX12_heirsOf_40 (lv_at hl 0 rfl) ?_
              refine mm_fini (va_runV (As := [.int i_0, .int i_1, .int x16_5_306]) (rest := []) ⟨hx, hb, hml, hown, hts⟩ (M141_X12_reads l G cy H.size a_0 i_0 i_1 x16_5_306 i_3 a_1 a_2 a_3 a_4 a_5 i_4 i_5 i_6 i_7 i_8 j_0 i_9 i_10 i_11 i_12 a_6 a_7 a_8 a_9 a_10 a_11 a_12 a_13 a_14 a_15 a_16 a_17 a_18 y16_0_29_308 y16_0_30_309 y16_0_31_310 i_16 i_17 i_18 a_19 i_19 a_20 i_20 i_21 i_22 i_23 i_24 i_25 i_26 i_27 i_28 i_29 i_30 i_31 i_32 i_33 i_34 i_35 i_36 i_37 i_38 i_39 i_40 i_41 i_42 i_43 i_44 i_45 i_46 i_47 i_48 i_49 f_0 f_1 f_2 f_3 f_4 f_5 z16_8_311 h0 (mm_wk h1 (by decide)) q315 ry16_0_29_308 h4 h5 h6 h7 (mm_wk q316 (by decide)) h9 h10 h11 h12 h13 h14 h15 h16 h17 h18 h19 h20 h21 h22 h23 h24 h25 h26 h27 h28 h29 h30 h31 h32 h33 h34 h35 h36 h37 h38 h39 rz16_8_311 h41 h42 h43 h44 h45 h46 h47 h48 h49) (cwV 3 hts (mm_gV mm_w852 mm_w853 mm_w854 mm_w5 mm_w855) rfl rfl rfl hd_X12_reads ⟨by rw [hRf]; exact Nat.le_of_ble_eq_true rfl, by rw [hRl]; exact Nat.le_of_ble_eq_true rfl⟩) (mm_preV hK hZ hS hA hP hD [0, 1, 2, 3, 4, 5, 6, 7, 8] rfl rfl 0 rfl rfl rfl) rfl rfl hl.1 rfl (lv_room (Nat.le_of_ble_eq_true rfl)) dX12_heirsOf_42 ⟨by rw [hRc]; exact Nat.le_of_ble_eq_true rfl, by rw [hRs]; exact Nat.le_of_ble_eq_true rfl⟩) hP hD hS hA (fun u : Int32 × Int32 × Int32 × (Nat → Int32) => [(a_0, .inr (12, [.int i_3, .ref a_1, .ref a_2, .ref a_3, .ref a_4, .ref a_5, .int i_4, .int i_5, .int i_6, .int i_7, .int i_8, .long j_0, .int i_9, .int i_10, .int i_11, .int i_12, .ref a_6, .ref a_7, .ref a_8, .ref a_9, .ref a_10, .ref a_11, .ref a_12, .ref a_13, .ref a_14, .ref a_15, .ref a_16, .ref a_17, .ref a_18, .int u.1, .int u.2.1, .int u.2.2.1, .int i_16, .int i_17, .int i_18, .ref a_19, .int i_19, .ref a_20])), (a_7, .inl (cy 1, 30, .inl (mm_g [i_20, i_21, i_22, i_23, i_24, i_25, i_26, i_27, i_28, i_29, i_30, i_31, i_32, i_33, i_34, i_35, i_36, i_37, i_38, i_39, i_40, i_41, i_42, i_43, i_44, i_45, i_46, i_47, i_48, i_49]))), (a_8, .inl (cy 1, 90, .inl f_0)), (a_11, .inl (cy 1, 30, .inl f_1)), (a_12, .inl (cy 1, 240, .inl f_2)), (a_13, .inl (cy 1, 450, .inl f_3)), (a_15, .inl (cy 1, 7200, .inl f_4)), (a_16, .inl (cy 1, 3, .inl f_5)), (a_18, .inl (cy 1, 8, .inl u.2.2.2))]) [0, 1, 2, 3, 4, 5, 6, 7, 8] [] (n := 9) (fun _ => rfl) (by decide +kernel) (by decide +kernel) rfl (fun _ => rfl) (wr := []) rfl (fun _ => rfl) (fun _ => @rfl _ ([a_0, a_7, a_8, a_11, a_12, a_13, a_15, a_16, a_18] : List Nat)) ?_
              clear hP hD hS
              clear H locs
              intro v327 u
              obtain ⟨n323, n324, n325, n326⟩ := u
              intro H locs hw (hP : va_P G vwCl [(a_0, .inr (12, [.int i_3, .ref a_1, .ref a_2, .ref a_3, .ref a_4, .ref a_5, .int i_4, .int i_5, .int i_6, .int i_7, .int i_8, .long j_0, .int i_9, .int i_10, .int i_11, .int i_12, .ref a_6, .ref a_7, .ref a_8, .ref a_9, .ref a_10, .ref a_11, .ref a_12, .ref a_13, .ref a_14, .ref a_15, .ref a_16, .ref a_17, .ref a_18, .int n323, .int n324, .int n325, .int i_16, .int i_17, .int i_18, .ref a_19, .int i_19, .ref a_20])), (a_7, .inl (cy 1, 30, .inl (mm_g [i_20, i_21, i_22, i_23, i_24, i_25, i_26, i_27, i_28, i_29, i_30, i_31, i_32, i_33, i_34, i_35, i_36, i_37, i_38, i_39, i_40, i_41, i_42, i_43, i_44, i_45, i_46, i_47, i_48, i_49]))), (a_8, .inl (cy 1, 90, .inl f_0)), (a_11, .inl (cy 1, 30, .inl f_1)), (a_12, .inl (cy 1, 240, .inl f_2)), (a_13, .inl (cy 1, 450, .inl f_3)), (a_15, .inl (cy 1, 7200, .inl f_4)), (a_16, .inl (cy 1, 3, .inl f_5)), (a_18, .inl (cy 1, 8, .inl n326))] H) (hD : va_D A [(a_0, .inr (12, [.int i_3, .ref a_1, .ref a_2, .ref a_3, .ref a_4, .ref a_5, .int i_4, .int i_5, .int i_6, .int i_7, .int i_8, .long j_0, .int i_9, .int i_10, .int i_11, .int i_12, .ref a_6, .ref a_7, .ref a_8, .ref a_9, .ref a_10, .ref a_11, .ref a_12, .ref a_13, .ref a_14, .ref a_15, .ref a_16, .ref a_17, .ref a_18, .int n323, .int n324, .int n325, .int i_16, .int i_17, .int i_18, .ref a_19, .int i_19, .ref a_20])), (a_7, .inl (cy 1, 30, .inl (mm_g [i_20, i_21, i_22, i_23, i_24, i_25, i_26, i_27, i_28, i_29, i_30, i_31, i_32, i_33, i_34, i_35, i_36, i_37, i_38, i_39, i_40, i_41, i_42, i_43, i_44, i_45, i_46, i_47, i_48, i_49]))), (a_8, .inl (cy 1, 90, .inl f_0)), (a_11, .inl (cy 1, 30, .inl f_1)), (a_12, .inl (cy 1, 240, .inl f_2)), (a_13, .inl (cy 1, 450, .inl f_3)), (a_15, .inl (cy 1, 7200, .inl f_4)), (a_16, .inl (cy 1, 3, .inl f_5)), (a_18, .inl (cy 1, 8, .inl n326))]) hS
              obtain ⟨w328, w329, hw⟩ := hw
              obtain ⟨w330, w331⟩ := hw
              replace w331 : mm_rd f_4 f_5 f_0 f_1 f_2 f_3 i_0 i_1 x16_5_306 i_21 i_22 i_25 v327 := w331
              refine lv_aload_n hx hb dX12_heirsOf_45 rfl (lv_at hl 2 rfl) ?_
              refine lv_iload_n hx hb dX12_heirsOf_46 rfl (lv_at hl 3 rfl) ?_
              refine lv_iload_n hx hb dX12_heirsOf_47 rfl (lv_at hl 4 rfl) ?_
              refine lv_iconst (v := 1) hx hb dX12_heirsOf_48 (by decide) ?_
              refine lv_iadd hx hb dX12_heirsOf_49 ?_
              refine lv_topi (fun v332 ev332 => ?_)
              have rv332 : mm_rg v332 1 1000000002 := mm_add ev332 h1 mm_k1 (by decide) (by decide)
              have tv332 := mm_addEc ev332 h1 mm_k1 (by decide) (k := 1) (by decide)
              refine lv_iload_n hx hb dX12_heirsOf_50 rfl (lv_at hl 5 rfl) ?_
              refine lv_iconst (v := 1) hx hb dX12_heirsOf_51 (by decide) ?_
              refine lv_iload hx hb dX12_heirsOf_52 (lv_at hl 0 rfl) ?_
              refine lv_ishl hx hb dX12_heirsOf_54 ?_
              refine lv_topi (fun v333 ev333 => ?_)
              have rv333 : mm_rg v333 1 32 := mm_shl1 ev333 q315 (by decide)
              refine lv_iconst (v := (-1)) hx hb dX12_heirsOf_55 (by decide) ?_
              refine lv_ixor hx hb dX12_heirsOf_56 ?_
              refine lv_topi (fun v334 ev334 => ?_)
              refine lv_iand hx hb dX12_heirsOf_57 ?_
              refine lv_topi (fun v335 ev335 => ?_)
              have rv335 : mm_rg v335 0 63 := mm_andL ev335 q2 (by decide)
              refine mm_fini (va_runV (As := [.int i_0, .int v332, .int v335]) (rest := [.int v327]) ⟨hx, hb, hml, hown, hts⟩ (M238_X12_heirsOf l G cy H.size a_0 i_0 v332 v335 i_3 a_1 a_2 a_3 a_4 a_5 i_4 i_5 i_6 i_7 i_8 j_0 i_9 i_10 i_11 i_12 a_6 a_7 a_8 a_9 a_10 a_11 a_12 a_13 a_14 a_15 a_16 a_17 a_18 n323 n324 n325 i_16 i_17 i_18 a_19 i_19 a_20 i_20 i_21 i_22 i_23 i_24 i_25 i_26 i_27 i_28 i_29 i_30 i_31 i_32 i_33 i_34 i_35 i_36 i_37 i_38 i_39 i_40 i_41 i_42 i_43 i_44 i_45 i_46 i_47 i_48 i_49 f_0 f_1 f_2 f_3 f_4 f_5 n326 h0 (mm_wk rv332 (by decide)) rv335 w328 h4 h5 h6 h7 (mm_wk q316 (by decide)) h9 h10 h11 h12 h13 h14 h15 h16 h17 h18 h19 h20 h21 h22 h23 h24 h25 h26 h27 h28 h29 h30 h31 h32 h33 h34 h35 h36 h37 h38 h39 w329 h41 h42 h43 h44 h45 h46 h47 h48 h49 (mm_pc_cut h50 w319 ev333 ev334 ev335 q2 q315 (by decide))) (cwV 3 hts (mm_gV mm_w1456 mm_w1457 mm_w1458 mm_w5 mm_w1459) rfl rfl rfl hd_X12_heirsOf ⟨by rw [hRf]; exact Nat.le_of_ble_eq_true rfl, by rw [hRl]; exact Nat.le_of_ble_eq_true rfl⟩) (mm_preV hK hZ hS hA hP hD [0, 1, 2, 3, 4, 5, 6, 7, 8] rfl rfl 0 rfl rfl rfl) rfl rfl hl.1 rfl (lv_room (Nat.le_of_ble_eq_true rfl)) dX12_heirsOf_58 ⟨by rw [hRc]; exact Nat.le_of_ble_eq_true rfl, by rw [hRs]; exact Nat.le_of_ble_eq_true rfl⟩) hP hD hS hA (fun u : Int32 × Int32 × Int32 × (Nat → Int32) => [(a_0, .inr (12, [.int i_3, .ref a_1, .ref a_2, .ref a_3, .ref a_4, .ref a_5, .int i_4, .int i_5, .int i_6, .int i_7, .int i_8, .long j_0, .int i_9, .int i_10, .int i_11, .int i_12, .ref a_6, .ref a_7, .ref a_8, .ref a_9, .ref a_10, .ref a_11, .ref a_12, .ref a_13, .ref a_14, .ref a_15, .ref a_16, .ref a_17, .ref a_18, .int u.1, .int u.2.1, .int u.2.2.1, .int i_16, .int i_17, .int i_18, .ref a_19, .int i_19, .ref a_20])), (a_7, .inl (cy 1, 30, .inl (mm_g [i_20, i_21, i_22, i_23, i_24, i_25, i_26, i_27, i_28, i_29, i_30, i_31, i_32, i_33, i_34, i_35, i_36, i_37, i_38, i_39, i_40, i_41, i_42, i_43, i_44, i_45, i_46, i_47, i_48, i_49]))), (a_8, .inl (cy 1, 90, .inl f_0)), (a_11, .inl (cy 1, 30, .inl f_1)), (a_12, .inl (cy 1, 240, .inl f_2)), (a_13, .inl (cy 1, 450, .inl f_3)), (a_15, .inl (cy 1, 7200, .inl f_4)), (a_16, .inl (cy 1, 3, .inl f_5)), (a_18, .inl (cy 1, 8, .inl u.2.2.2))]) [0, 1, 2, 3, 4, 5, 6, 7, 8] [] (n := 9) (fun _ => rfl) (by decide +kernel) (by decide +kernel) rfl (fun _ => rfl) (wr := []) rfl (fun _ => rfl) (fun _ => @rfl _ ([a_0, a_7, a_8, a_11, a_12, a_13, a_15, a_16, a_18] : List Nat)) ?_
              clear hP hD hS
              clear H locs
              intro v340 u
              obtain ⟨n336, n337, n338, n339⟩ := u
              intro H locs hw (hP : va_P G vwCl [(a_0, .inr (12, [.int i_3, .ref a_1, .ref a_2, .ref a_3, .ref a_4, .ref a_5, .int i_4, .int i_5, .int i_6, .int i_7, .int i_8, .long j_0, .int i_9, .int i_10, .int i_11, .int i_12, .ref a_6, .ref a_7, .ref a_8, .ref a_9, .ref a_10, .ref a_11, .ref a_12, .ref a_13, .ref a_14, .ref a_15, .ref a_16, .ref a_17, .ref a_18, .int n336, .int n337, .int n338, .int i_16, .int i_17, .int i_18, .ref a_19, .int i_19, .ref a_20])), (a_7, .inl (cy 1, 30, .inl (mm_g [i_20, i_21, i_22, i_23, i_24, i_25, i_26, i_27, i_28, i_29, i_30, i_31, i_32, i_33, i_34, i_35, i_36, i_37, i_38, i_39, i_40, i_41, i_42, i_43, i_44, i_45, i_46, i_47, i_48, i_49]))), (a_8, .inl (cy 1, 90, .inl f_0)), (a_11, .inl (cy 1, 30, .inl f_1)), (a_12, .inl (cy 1, 240, .inl f_2)), (a_13, .inl (cy 1, 450, .inl f_3)), (a_15, .inl (cy 1, 7200, .inl f_4)), (a_16, .inl (cy 1, 3, .inl f_5)), (a_18, .inl (cy 1, 8, .inl n339))] H) (hD : va_D A [(a_0, .inr (12, [.int i_3, .ref a_1, .ref a_2, .ref a_3, .ref a_4, .ref a_5, .int i_4, .int i_5, .int i_6, .int i_7, .int i_8, .long j_0, .int i_9, .int i_10, .int i_11, .int i_12, .ref a_6, .ref a_7, .ref a_8, .ref a_9, .ref a_10, .ref a_11, .ref a_12, .ref a_13, .ref a_14, .ref a_15, .ref a_16, .ref a_17, .ref a_18, .int n336, .int n337, .int n338, .int i_16, .int i_17, .int i_18, .ref a_19, .int i_19, .ref a_20])), (a_7, .inl (cy 1, 30, .inl (mm_g [i_20, i_21, i_22, i_23, i_24, i_25, i_26, i_27, i_28, i_29, i_30, i_31, i_32, i_33, i_34, i_35, i_36, i_37, i_38, i_39, i_40, i_41, i_42, i_43, i_44, i_45, i_46, i_47, i_48, i_49]))), (a_8, .inl (cy 1, 90, .inl f_0)), (a_11, .inl (cy 1, 30, .inl f_1)), (a_12, .inl (cy 1, 240, .inl f_2)), (a_13, .inl (cy 1, 450, .inl f_3)), (a_15, .inl (cy 1, 7200, .inl f_4)), (a_16, .inl (cy 1, 3, .inl f_5)), (a_18, .inl (cy 1, 8, .inl n339))]) hS
              obtain ⟨w341, w342, hw⟩ := hw
              have w343 := hw
              refine lv_isub hx hb dX12_heirsOf_61 ?_
              refine lv_topi (fun v344 ev344 => ?_)
              have rv344 : mm_rg v344 (-1009999) 1009999 := mm_sub ev344 w330 w343 (by decide) (by decide)
              have tv344 := mm_subE ev344 w330 w343 (by decide)
              refine lv_istore (lv' := [(6, .int v344), (5, .int x16_5_306), (4, .int x16_4_307), (0, .ref a_0), (1, .int i_0), (2, .int i_1), (3, .int i_2)]) hx hb dX12_heirsOf_62 hl (by decide) rfl ?_
              clear hl
              clear ls
              intro ls hl
              refine lv_iload hx hb dX12_heirsOf_64 (lv_at hl 0 rfl) ?_
              refine lv_iload hx hb dX12_heirsOf_66 (lv_at hl 2 rfl) ?_
              refine lv_icmp_le (tgt := 76) hx hb dX12_heirsOf_68 (by decide) (fun c345 => ?_) (fun c345 => ?_)
              · refine lv_iload hx hb dX12_heirsOf_76 (lv_at hl 2 rfl) ?_
                refine lv_istore (lv' := [(4, .int x16_4_307), (6, .int v344), (5, .int x16_5_306), (0, .ref a_0), (1, .int i_0), (2, .int i_1), (3, .int i_2)]) hx hb dX12_heirsOf_78 hl (by decide) rfl ?_
                clear hl
                clear ls
                intro ls hl
                obtain ⟨v346, ev346⟩ : ∃ y : Int32, y = x16_5_306 + 1 := ⟨_, rfl⟩
                refine lv_iinc (v := v346) (lv' := [(5, .int v346), (4, .int x16_4_307), (6, .int v344), (0, .ref a_0), (1, .int i_0), (2, .int i_1), (3, .int i_2)]) hx hb dX12_heirsOf_80 hl (k := 2) rfl (by rw [ev346]; rfl) (by decide) rfl ?_
                clear hl
                clear ls
                intro ls hl
                have rv346 : mm_rg v346 1 6 := mm_add ev346 q315 mm_k1 (by decide) (by decide)
                have tv346 := mm_addEc ev346 q315 mm_k1 (by decide) (k := 1) (by decide)
                refine lv_goto (tgt := 16) hx hb dX12_heirsOf_83 (by decide) ?_
                exact ih16 v346 x16_4_307 n336 n337 n338 n339 (mm_wk rv346 (by decide)) rx16_4_307 w341 w342 (mm_mu hm16 tv346 (by decide) (rv346).2 (by decide)) H locs hP hD hS ls (lv_sub hl [0, 1, 3, 4, 5, 6] rfl)
              · have q347 := mm_ltL (h := 1009998) (mm_nle c345) rx16_4_307 rv344 (by decide)
                have q348 := mm_ltR (lo := (-999999)) (mm_nle c345) rx16_4_307 rv344 (by decide)
                have q349 : mm_rg v340 (-1000000) 1009998 := mm_unsubY tv344 q348 w330 w343 (by decide)
                refine lv_iload hx hb dX12_heirsOf_71 (lv_at hl 0 rfl) ?_
                refine lv_goto (tgt := 78) hx hb dX12_heirsOf_73 (by decide) ?_
                refine lv_istore (lv' := [(4, .int v344), (6, .int v344), (5, .int x16_5_306), (0, .ref a_0), (1, .int i_0), (2, .int i_1), (3, .int i_2)]) hx hb dX12_heirsOf_78 hl (by decide) rfl ?_
                clear hl
                clear ls
                intro ls hl
                obtain ⟨v350, ev350⟩ : ∃ y : Int32, y = x16_5_306 + 1 := ⟨_, rfl⟩
                refine lv_iinc (v := v350) (lv' := [(5, .int v350), (4, .int v344), (6, .int v344), (0, .ref a_0), (1, .int i_0), (2, .int i_1), (3, .int i_2)]) hx hb dX12_heirsOf_80 hl (k := 2) rfl (by rw [ev350]; rfl) (by decide) rfl ?_
                clear hl
                clear ls
                intro ls hl
                have rv350 : mm_rg v350 1 6 := mm_add ev350 q315 mm_k1 (by decide) (by decide)
                have tv350 := mm_addEc ev350 q315 mm_k1 (by decide) (k := 1) (by decide)
                refine lv_goto (tgt := 16) hx hb dX12_heirsOf_83 (by decide) ?_
                exact ih16 v350 v344 n336 n337 n338 n339 (mm_wk rv350 (by decide)) (mm_wk q348 (by decide)) w341 w342 (mm_mu hm16 tv350 (by decide) (rv350).2 (by decide)) H locs hP hD hS ls (lv_sub hl [0, 1, 3, 4, 5, 6] rfl)
            · exact mm_eqN c322.symm mm_k0 mm_k1 (by decide)
    exact L16_311 _ 0 (-1000000) i_13 i_14 i_15 f_6 (mm_wk mm_k0 (by decide)) (mm_wk mm_km1000000 (by decide)) h3 h40 (Nat.lt_succ_self _) H locs hP hD hS ls (lv_sub hl [0, 1, 2, 3, 4, 5] rfl)
  · have q351 := mm_eqI (lo := 0) (hi := 0) c1 h2 mm_k0 (by decide)
    refine lv_iconst (v := 0) hx hb dX12_heirsOf_4 (by decide) ?_
    refine lv_goto (tgt := 11) hx hb dX12_heirsOf_5 (by decide) ?_
    refine lv_istore (lv' := [(4, .int 0), (0, .ref a_0), (1, .int i_0), (2, .int i_1), (3, .int i_2)]) hx hb dX12_heirsOf_11 hl (by decide) rfl ?_
    clear hl
    clear ls
    intro ls hl
    refine lv_iconst (v := 0) hx hb dX12_heirsOf_13 (by decide) ?_
    refine lv_istore (lv' := [(5, .int 0), (4, .int 0), (0, .ref a_0), (1, .int i_0), (2, .int i_1), (3, .int i_2)]) hx hb dX12_heirsOf_14 hl (by decide) rfl ?_
    clear hl
    clear ls
    intro ls hl
    have L16_423 : ∀ (n : Nat) (x16_5_423 : Int32), mm_rg x16_5_423 0 6 → (6 - x16_5_423.toInt).toNat < n → ∀ (H : Heap) (locs : List Loc), va_P G vwCl [(a_0, .inr (12, [.int i_3, .ref a_1, .ref a_2, .ref a_3, .ref a_4, .ref a_5, .int i_4, .int i_5, .int i_6, .int i_7, .int i_8, .long j_0, .int i_9, .int i_10, .int i_11, .int i_12, .ref a_6, .ref a_7, .ref a_8, .ref a_9, .ref a_10, .ref a_11, .ref a_12, .ref a_13, .ref a_14, .ref a_15, .ref a_16, .ref a_17, .ref a_18, .int i_13, .int i_14, .int i_15, .int i_16, .int i_17, .int i_18, .ref a_19, .int i_19, .ref a_20])), (a_7, .inl (cy 1, 30, .inl (mm_g [i_20, i_21, i_22, i_23, i_24, i_25, i_26, i_27, i_28, i_29, i_30, i_31, i_32, i_33, i_34, i_35, i_36, i_37, i_38, i_39, i_40, i_41, i_42, i_43, i_44, i_45, i_46, i_47, i_48, i_49]))), (a_8, .inl (cy 1, 90, .inl f_0)), (a_11, .inl (cy 1, 30, .inl f_1)), (a_12, .inl (cy 1, 240, .inl f_2)), (a_13, .inl (cy 1, 450, .inl f_3)), (a_15, .inl (cy 1, 7200, .inl f_4)), (a_16, .inl (cy 1, 3, .inl f_5)), (a_18, .inl (cy 1, 8, .inl f_6))] H → va_D A [(a_0, .inr (12, [.int i_3, .ref a_1, .ref a_2, .ref a_3, .ref a_4, .ref a_5, .int i_4, .int i_5, .int i_6, .int i_7, .int i_8, .long j_0, .int i_9, .int i_10, .int i_11, .int i_12, .ref a_6, .ref a_7, .ref a_8, .ref a_9, .ref a_10, .ref a_11, .ref a_12, .ref a_13, .ref a_14, .ref a_15, .ref a_16, .ref a_17, .ref a_18, .int i_13, .int i_14, .int i_15, .int i_16, .int i_17, .int i_18, .ref a_19, .int i_19, .ref a_20])), (a_7, .inl (cy 1, 30, .inl (mm_g [i_20, i_21, i_22, i_23, i_24, i_25, i_26, i_27, i_28, i_29, i_30, i_31, i_32, i_33, i_34, i_35, i_36, i_37, i_38, i_39, i_40, i_41, i_42, i_43, i_44, i_45, i_46, i_47, i_48, i_49]))), (a_8, .inl (cy 1, 90, .inl f_0)), (a_11, .inl (cy 1, 30, .inl f_1)), (a_12, .inl (cy 1, 240, .inl f_2)), (a_13, .inl (cy 1, 450, .inl f_3)), (a_15, .inl (cy 1, 7200, .inl f_4)), (a_16, .inl (cy 1, 3, .inl f_5)), (a_18, .inl (cy 1, 8, .inl f_6))] → va_S A s.heap H locs → ∀ (ls : Array Slot), lv_has ls 7 [(5, .int x16_5_423), (4, .int 0), (0, .ref a_0), (1, .int i_0), (2, .int i_1), (3, .int i_2)] → W p l e R s m args below meth c H locs 0 0 Q (F0 m 16 ls []) := by
      intro n
      induction n with
      | zero => intro x16_5_423 rx16_5_423 hm; exact absurd hm (Nat.not_lt_zero _)
      | succ n ih16 =>
        intro x16_5_423 rx16_5_423 hm16 H locs hP hD hS ls hl
        refine lv_iload hx hb dX12_heirsOf_16 (lv_at hl 0 rfl) ?_
        refine lv_aload_n hx hb dX12_heirsOf_18 rfl (lv_at hl 2 rfl) ?_
        refine mm_finir (va_runV (As := []) (rest := [.int x16_5_423]) ⟨hx, hb, hml, hown, hts⟩ (M95_X12_texts l G cy H.size a_0 i_3 a_1 a_2 a_3 a_4 a_5 i_4 i_5 i_6 i_7 i_8 j_0 i_9 i_10 i_11 i_12 a_6 a_7 a_8 a_9 a_10 a_11 a_12 a_13 a_14 a_15 a_16 a_17 a_18 i_13 i_14 i_15 i_16 i_17 i_18 a_19 i_19 a_20 i_20 i_21 i_22 i_23 i_24 i_25 i_26 i_27 i_28 i_29 i_30 i_31 i_32 i_33 i_34 i_35 i_36 i_37 i_38 i_39 i_40 i_41 i_42 i_43 i_44 i_45 i_46 i_47 i_48 i_49 h4 h5 h6 h7 h8 h9 h10 h11 h12 h13 h14 h15 h16 h17 h18 h19 h20 h21 h22 h23 h24 h25 h26 h27 h28 h29 h30 h31 h32 h33) (cwV 0 hts (mm_gV mm_w617 mm_w618 mm_w619 mm_w5 mm_w620) rfl rfl rfl hd_X12_texts ⟨by rw [hRf]; exact Nat.le_of_ble_eq_true rfl, by rw [hRl]; exact Nat.le_of_ble_eq_true rfl⟩) (mm_preV hK hZ hS hA hP hD [0, 1] rfl rfl 0 rfl rfl rfl) rfl rfl hl.1 rfl (lv_room (Nat.le_of_ble_eq_true rfl)) dX12_heirsOf_19 ⟨by rw [hRc]; exact Nat.le_of_ble_eq_true rfl, by rw [hRs]; exact Nat.le_of_ble_eq_true rfl⟩) hP hD hS hA [0, 1] rfl (fun _ => rfl) ?_
        clear hP hD hS
        clear H locs
        intro v425 _u H locs hw hP hD hS
        subst hw
        refine lv_icmp_ge (tgt := 86) hx hb dX12_heirsOf_22 (by decide) (fun c426 => ?_) (fun c426 => ?_)
        · refine lv_iload hx hb dX12_heirsOf_86 (lv_at hl 1 rfl) ?_
          subst hAe
          rw [hQ]
          exact W.iret (v := 0) hx hb hr (fun t ht hW => ⟨⟨0, (i_13, i_14, i_15, f_6), rfl, ⟨h3, h40, (mm_wk mm_k0 (by decide))⟩, by rw [ht]; exact hP, hK.warm hW, hD⟩, hS.F ht⟩) hS.2.2 dX12_heirsOf_88
        · have q427 := mm_ltL (h := 5) (mm_nle c426) rx16_5_423 h8 (by decide)
          have q428 := mm_ltR (lo := 1) (mm_nle c426) rx16_5_423 h8 (by decide)
          refine lv_iload_n hx hb dX12_heirsOf_25 rfl (lv_at hl 5 rfl) ?_
          refine lv_iload hx hb dX12_heirsOf_26 (lv_at hl 0 rfl) ?_
          refine mm_finir (va_runS (As := [.int i_2, .int x16_5_423]) (rest := []) ⟨hx, hb, hml, hown, hts⟩ (M232_X12_isBit l G cy H.size i_2 x16_5_423 (mm_wk q351 (by decide)) q427) (va_cwS 2 hts (mm_gS mm_w1461 mm_w1462 mm_w5 mm_w1463) rfl rfl rfl hs_X12_isBit ⟨by rw [hRf]; exact Nat.le_of_ble_eq_true rfl, by rw [hRl]; exact Nat.le_of_ble_eq_true rfl⟩) (mm_preS hK hZ hS hA hP hD [] rfl rfl) rfl rfl hl.1 rfl (lv_room (Nat.le_of_ble_eq_true rfl)) dX12_heirsOf_28 ⟨by rw [hRc]; exact Nat.le_of_ble_eq_true rfl, by rw [hRs]; exact Nat.le_of_ble_eq_true rfl⟩) hP hD hS hA [] rfl (fun _ => rfl) ?_
          clear hP hD hS
          clear H locs
          intro v429 _u H locs hw hP hD hS
          rcases hw with ⟨rfl, w430⟩ | ⟨rfl, w431⟩
          · refine lv_if_ne (tgt := 37) hx hb dX12_heirsOf_31 (by decide) (fun c432 => ?_) (fun c432 => ?_)
            · exact absurd rfl (mm_ne c432)
            · refine lv_goto (tgt := 80) hx hb dX12_heirsOf_34 (by decide) ?_
              obtain ⟨v433, ev433⟩ : ∃ y : Int32, y = x16_5_423 + 1 := ⟨_, rfl⟩
              refine lv_iinc (v := v433) (lv' := [(5, .int v433), (4, .int 0), (0, .ref a_0), (1, .int i_0), (2, .int i_1), (3, .int i_2)]) hx hb dX12_heirsOf_80 hl (k := 0) rfl (by rw [ev433]; rfl) (by decide) rfl ?_
              clear hl
              clear ls
              intro ls hl
              have rv433 : mm_rg v433 1 6 := mm_add ev433 q427 mm_k1 (by decide) (by decide)
              have tv433 := mm_addEc ev433 q427 mm_k1 (by decide) (k := 1) (by decide)
              refine lv_goto (tgt := 16) hx hb dX12_heirsOf_83 (by decide) ?_
              exact ih16 v433 (mm_wk rv433 (by decide)) (mm_mu hm16 tv433 (by decide) (rv433).2 (by decide)) H locs hP hD hS ls (lv_sub hl [0, 1, 2, 3, 4, 5] rfl)
          · exact mm_bit_no w431 q351 (by decide)
    exact L16_423 _ 0 (mm_wk mm_k0 (by decide)) (Nat.lt_succ_self _) H locs hP hD hS ls (lv_sub hl [0, 1, 2, 3, 4, 5] rfl)

set_option maxHeartbeats 4000000 in
set_option maxRecDepth 100000 in
theorem M240_X12_heirs (l : Launch) (G : va_G) (cy : Nat → ClassId) (sz : Nat) (a_0 : Nat) (i_0 : Int32) (i_1 : Int32) (i_2 : Int32) (a_1 : Nat) (a_2 : Nat) (a_3 : Nat) (a_4 : Nat) (a_5 : Nat) (i_3 : Int32) (i_4 : Int32) (i_5 : Int32) (i_6 : Int32) (i_7 : Int32) (j_0 : Int64) (i_8 : Int32) (i_9 : Int32) (i_10 : Int32) (i_11 : Int32) (a_6 : Nat) (a_7 : Nat) (a_8 : Nat) (a_9 : Nat) (a_10 : Nat) (a_11 : Nat) (a_12 : Nat) (a_13 : Nat) (a_14 : Nat) (a_15 : Nat) (a_16 : Nat) (a_17 : Nat) (a_18 : Nat) (i_12 : Int32) (i_13 : Int32) (i_14 : Int32) (i_15 : Int32) (i_16 : Int32) (i_17 : Int32) (a_19 : Nat) (i_18 : Int32) (a_20 : Nat) (i_19 : Int32) (i_20 : Int32) (i_21 : Int32) (i_22 : Int32) (i_23 : Int32) (i_24 : Int32) (i_25 : Int32) (i_26 : Int32) (i_27 : Int32) (i_28 : Int32) (i_29 : Int32) (i_30 : Int32) (i_31 : Int32) (i_32 : Int32) (i_33 : Int32) (i_34 : Int32) (i_35 : Int32) (i_36 : Int32) (i_37 : Int32) (i_38 : Int32) (i_39 : Int32) (i_40 : Int32) (i_41 : Int32) (i_42 : Int32) (i_43 : Int32) (i_44 : Int32) (i_45 : Int32) (i_46 : Int32) (i_47 : Int32) (i_48 : Int32) (i_49 : Int32) (i_50 : Int32) (i_51 : Int32) (i_52 : Int32) (i_53 : Int32) (f_0 : Nat → Int32) (f_1 : Nat → Int32) (f_2 : Nat → Int32) (f_3 : Nat → Int32) (f_4 : Nat → Int32) (f_5 : Nat → Int32) (f_6 : Nat → Int32) (f_7 : Nat → Int32) (f_8 : Nat → Int32) (f_9 : Nat → Int32) (h0 : mm_rg i_12 0 8) (h1 : mm_rg i_19 0 601) (h2 : mm_rg i_20 0 601) (h3 : mm_rg i_21 0 601) (h4 : mm_rg i_22 0 601) (h5 : mm_rg i_23 0 601) (h6 : mm_rg i_24 0 10) (h7 : mm_rg i_25 0 99) (h8 : mm_rg i_26 0 9) (h9 : mm_rg i_27 0 3) (h10 : mm_rg i_28 0 6) (h11 : mm_rg i_29 0 30) (h12 : mm_rg i_30 0 10) (h13 : mm_rg i_31 0 99) (h14 : mm_rg i_32 0 9) (h15 : mm_rg i_33 0 3) (h16 : mm_rg i_34 0 6) (h17 : mm_rg i_35 0 30) (h18 : mm_rg i_36 0 10) (h19 : mm_rg i_37 0 99) (h20 : mm_rg i_38 0 9) (h21 : mm_rg i_39 0 3) (h22 : mm_rg i_40 0 6) (h23 : mm_rg i_41 0 30) (h24 : mm_rg i_42 0 10) (h25 : mm_rg i_43 0 99) (h26 : mm_rg i_44 0 9) (h27 : mm_rg i_45 0 3) (h28 : mm_rg i_46 0 6) (h29 : mm_rg i_47 0 30) (h30 : mm_rg i_48 0 10) (h31 : mm_rg i_49 0 99) (h32 : mm_rg i_50 0 9) (h33 : mm_rg i_51 0 3) (h34 : mm_rg i_52 0 6) (h35 : mm_rg i_53 0 30) (h36 : mm_ar f_0 0 99) (h37 : mm_ar f_1 0 7) (h38 : mm_ar f_2 0 9) (h39 : mm_ar f_3 0 8) (h40 : mm_ar f_4 0 9) (h41 : mm_ar f_5 (-1) 99) (h42 : mm_ar f_6 0 9) (h43 : mm_ar f_7 0 210) (h44 : mm_ar f_8 0 210) (h45 : mm_ar f_9 0 9) (h46 : mm_rls f_1 f_2 0 i_26 i_27) (h47 : mm_txs f_3 f_4 0 i_26 i_28) (h48 : mm_acs f_5 0 i_26 i_27 i_29) (h49 : mm_tl i_19 i_27 i_28) (h50 : mm_rls f_1 f_2 1 i_32 i_33) (h51 : mm_txs f_3 f_4 1 i_32 i_34) (h52 : mm_acs f_5 1 i_32 i_33 i_35) (h53 : mm_tl i_20 i_33 i_34) (h54 : mm_rls f_1 f_2 2 i_38 i_39) (h55 : mm_txs f_3 f_4 2 i_38 i_40) (h56 : mm_acs f_5 2 i_38 i_39 i_41) (h57 : mm_tl i_21 i_39 i_40) (h58 : mm_rls f_1 f_2 3 i_44 i_45) (h59 : mm_txs f_3 f_4 3 i_44 i_46) (h60 : mm_acs f_5 3 i_44 i_45 i_47) (h61 : mm_tl i_22 i_45 i_46)  : mm_CI l yX12_heirs (mm_ws yX12_heirs cX12_heirs 3 (some .int)) ({ frames := 14, cells := 0, slots := 0, locals := 300 } : Room) G cy sz [(a_0, .inr (12, [.int i_2, .ref a_1, .ref a_2, .ref a_3, .ref a_4, .ref a_5, .int i_3, .int i_4, .int i_5, .int i_6, .int i_7, .long j_0, .int i_8, .int i_9, .int i_10, .int i_11, .ref a_6, .ref a_7, .ref a_8, .ref a_9, .ref a_10, .ref a_11, .ref a_12, .ref a_13, .ref a_14, .ref a_15, .ref a_16, .ref a_17, .ref a_18, .int i_12, .int i_13, .int i_14, .int i_15, .int i_16, .int i_17, .ref a_19, .int i_18, .ref a_20])), (a_6, .inl (cy 1, 5, .inl (mm_g [i_19, i_20, i_21, i_22, i_23]))), (a_7, .inl (cy 1, 30, .inl (mm_g [i_24, i_25, i_26, i_27, i_28, i_29, i_30, i_31, i_32, i_33, i_34, i_35, i_36, i_37, i_38, i_39, i_40, i_41, i_42, i_43, i_44, i_45, i_46, i_47, i_48, i_49, i_50, i_51, i_52, i_53]))), (a_8, .inl (cy 1, 90, .inl f_0)), (a_9, .inl (cy 1, 15, .inl f_1)), (a_10, .inl (cy 1, 1050, .inl f_2)), (a_11, .inl (cy 1, 30, .inl f_3)), (a_12, .inl (cy 1, 240, .inl f_4)), (a_13, .inl (cy 1, 450, .inl f_5)), (a_15, .inl (cy 1, 7200, .inl f_6)), (a_16, .inl (cy 1, 3, .inl f_7)), (a_17, .inl (cy 1, 3, .inl f_8)), (a_18, .inl (cy 1, 8, .inl f_9))] [.ref a_0, .int i_0, .int i_1] (fun u : Int32 × Int32 × Int32 × (Nat → Int32) × (Nat → Int32) × (Nat → Int32) × (Nat → Int32) => [(a_0, .inr (12, [.int 0, .ref a_1, .ref a_2, .ref a_3, .ref a_4, .ref a_5, .int i_3, .int i_4, .int i_5, .int i_6, .int i_7, .long j_0, .int i_8, .int i_9, .int i_10, .int i_11, .ref a_6, .ref a_7, .ref a_8, .ref a_9, .ref a_10, .ref a_11, .ref a_12, .ref a_13, .ref a_14, .ref a_15, .ref a_16, .ref a_17, .ref a_18, .int u.1, .int u.2.1, .int u.2.2.1, .int i_15, .int i_16, .int i_17, .ref a_19, .int i_18, .ref a_20])), (a_6, .inl (cy 1, 5, .inl (mm_g [i_19, i_20, i_21, i_22, i_23]))), (a_7, .inl (cy 1, 30, .inl (mm_g [i_24, i_25, i_26, i_27, i_28, i_29, i_30, i_31, i_32, i_33, i_34, i_35, i_36, i_37, i_38, i_39, i_40, i_41, i_42, i_43, i_44, i_45, i_46, i_47, i_48, i_49, i_50, i_51, i_52, i_53]))), (a_8, .inl (cy 1, 90, .inl f_0)), (a_9, .inl (cy 1, 15, .inl f_1)), (a_10, .inl (cy 1, 1050, .inl f_2)), (a_11, .inl (cy 1, 30, .inl f_3)), (a_12, .inl (cy 1, 240, .inl f_4)), (a_13, .inl (cy 1, 450, .inl f_5)), (a_15, .inl (cy 1, 7200, .inl u.2.2.2.1)), (a_16, .inl (cy 1, 3, .inl u.2.2.2.2.1)), (a_17, .inl (cy 1, 3, .inl u.2.2.2.2.2.1)), (a_18, .inl (cy 1, 8, .inl u.2.2.2.2.2.2))]) (fun (r : Int32) (u : Int32 × Int32 × Int32 × (Nat → Int32) × (Nat → Int32) × (Nat → Int32) × (Nat → Int32)) => mm_rg u.1 0 8 ∧ mm_ar u.2.2.2.1 0 9 ∧ mm_ar u.2.2.2.2.1 0 210 ∧ mm_ar u.2.2.2.2.2.1 0 210 ∧ mm_ar u.2.2.2.2.2.2 0 9 ∧ mm_rg r (-1000000) 1009999) 0 0 := by
  refine mm_begin (lv := [(0, .ref a_0), (1, .int i_0), (2, .int i_1)]) (by decide) (Nat.le_of_ble_eq_true rfl) rfl ?_
  intro p e s m below meth c A ls R args Q H locs hRe hQ hAe hx hb hr hlocks hml hown hnm hts hsz hA hS hP hK hD hZ hl
  have hRf : R.frames = 14 := by rw [hRe]
  have hRl : R.locals = 300 := by rw [hRe]
  have hRc : R.cells = 0 := by rw [hRe]
  have hRs : R.slots = 0 := by rw [hRe]
  refine lv_aload_n hx hb dX12_heirs_0 rfl (lv_at hl 0 rfl) ?_
  refine lv_iconst (v := 0) hx hb dX12_heirs_1 (by decide) ?_
  refine va_put (D := G) (ci := 12) (v := .int 0) (ty := tyX12 0) (C := RX12) (T := TX12) (N := 38) hx hb hts (mm_i inlX12) tyX12 tyX12_ok nmX12 hown hK.1 hP hD hS 0 rfl rfl 0 (by decide) (mm_h hts mm_w177) (fun _ h9 => h9) rfl (tyX12_ok 0 (by decide)) rfl rfl (Nat.le_of_ble_eq_true rfl) dX12_heirs_2 ?_
  clear hP hD hS
  clear H locs
  intro H locs (hP : va_P G vwCl [(a_0, .inr (12, [.int 0, .ref a_1, .ref a_2, .ref a_3, .ref a_4, .ref a_5, .int i_3, .int i_4, .int i_5, .int i_6, .int i_7, .long j_0, .int i_8, .int i_9, .int i_10, .int i_11, .ref a_6, .ref a_7, .ref a_8, .ref a_9, .ref a_10, .ref a_11, .ref a_12, .ref a_13, .ref a_14, .ref a_15, .ref a_16, .ref a_17, .ref a_18, .int i_12, .int i_13, .int i_14, .int i_15, .int i_16, .int i_17, .ref a_19, .int i_18, .ref a_20])), (a_6, .inl (cy 1, 5, .inl (mm_g [i_19, i_20, i_21, i_22, i_23]))), (a_7, .inl (cy 1, 30, .inl (mm_g [i_24, i_25, i_26, i_27, i_28, i_29, i_30, i_31, i_32, i_33, i_34, i_35, i_36, i_37, i_38, i_39, i_40, i_41, i_42, i_43, i_44, i_45, i_46, i_47, i_48, i_49, i_50, i_51, i_52, i_53]))), (a_8, .inl (cy 1, 90, .inl f_0)), (a_9, .inl (cy 1, 15, .inl f_1)), (a_10, .inl (cy 1, 1050, .inl f_2)), (a_11, .inl (cy 1, 30, .inl f_3)), (a_12, .inl (cy 1, 240, .inl f_4)), (a_13, .inl (cy 1, 450, .inl f_5)), (a_15, .inl (cy 1, 7200, .inl f_6)), (a_16, .inl (cy 1, 3, .inl f_7)), (a_17, .inl (cy 1, 3, .inl f_8)), (a_18, .inl (cy 1, 8, .inl f_9))] H) (hD : va_D A [(a_0, .inr (12, [.int 0, .ref a_1, .ref a_2, .ref a_3, .ref a_4, .ref a_5, .int i_3, .int i_4, .int i_5, .int i_6, .int i_7, .long j_0, .int i_8, .int i_9, .int i_10, .int i_11, .ref a_6, .ref a_7, .ref a_8, .ref a_9, .ref a_10, .ref a_11, .ref a_12, .ref a_13, .ref a_14, .ref a_15, .ref a_16, .ref a_17, .ref a_18, .int i_12, .int i_13, .int i_14, .int i_15, .int i_16, .int i_17, .ref a_19, .int i_18, .ref a_20])), (a_6, .inl (cy 1, 5, .inl (mm_g [i_19, i_20, i_21, i_22, i_23]))), (a_7, .inl (cy 1, 30, .inl (mm_g [i_24, i_25, i_26, i_27, i_28, i_29, i_30, i_31, i_32, i_33, i_34, i_35, i_36, i_37, i_38, i_39, i_40, i_41, i_42, i_43, i_44, i_45, i_46, i_47, i_48, i_49, i_50, i_51, i_52, i_53]))), (a_8, .inl (cy 1, 90, .inl f_0)), (a_9, .inl (cy 1, 15, .inl f_1)), (a_10, .inl (cy 1, 1050, .inl f_2)), (a_11, .inl (cy 1, 30, .inl f_3)), (a_12, .inl (cy 1, 240, .inl f_4)), (a_13, .inl (cy 1, 450, .inl f_5)), (a_15, .inl (cy 1, 7200, .inl f_6)), (a_16, .inl (cy 1, 3, .inl f_7)), (a_17, .inl (cy 1, 3, .inl f_8)), (a_18, .inl (cy 1, 8, .inl f_9))]) hS
  refine lv_aload_n hx hb dX12_heirs_5 rfl (lv_at hl 0 rfl) ?_
  refine lv_iload_n hx hb dX12_heirs_6 rfl (lv_at hl 1 rfl) ?_
  refine lv_iload_n hx hb dX12_heirs_7 rfl (lv_at hl 2 rfl) ?_
  refine mm_finir (va_runV (As := [.int i_0, .int i_1]) (rest := []) ⟨hx, hb, hml, hown, hts⟩ (M104_X12_isThen l G cy H.size a_0 i_0 i_1 0 a_1 a_2 a_3 a_4 a_5 i_3 i_4 i_5 i_6 i_7 j_0 i_8 i_9 i_10 i_11 a_6 a_7 a_8 a_9 a_10 a_11 a_12 a_13 a_14 a_15 a_16 a_17 a_18 i_12 i_13 i_14 i_15 i_16 i_17 a_19 i_18 a_20 i_24 i_25 i_26 i_27 i_28 i_29 i_30 i_31 i_32 i_33 i_34 i_35 i_36 i_37 i_38 i_39 i_40 i_41 i_42 i_43 i_44 i_45 i_46 i_47 i_48 i_49 i_50 i_51 i_52 i_53 h6 h7 h8 h9 h10 h11 h12 h13 h14 h15 h16 h17 h18 h19 h20 h21 h22 h23 h24 h25 h26 h27 h28 h29 h30 h31 h32 h33 h34 h35) (cwV 2 hts (mm_gV mm_w678 mm_w679 mm_w680 mm_w5 mm_w681) rfl rfl rfl hd_X12_isThen ⟨by rw [hRf]; exact Nat.le_of_ble_eq_true rfl, by rw [hRl]; exact Nat.le_of_ble_eq_true rfl⟩) (mm_preV hK hZ hS hA hP hD [0, 2] rfl rfl 0 rfl rfl rfl) rfl rfl hl.1 rfl (lv_room (Nat.le_of_ble_eq_true rfl)) dX12_heirs_8 ⟨by rw [hRc]; exact Nat.le_of_ble_eq_true rfl, by rw [hRs]; exact Nat.le_of_ble_eq_true rfl⟩) hP hD hS hA [0, 2] rfl (fun _ => rfl) ?_
  clear hP hD hS
  clear H locs
  intro v1 _u H locs hw hP hD hS
  rcases hw with rfl | ⟨rfl, w2, w3, w4⟩
  · refine lv_if_ne (tgt := 18) hx hb dX12_heirs_11 (by decide) (fun c5 => ?_) (fun c5 => ?_)
    · exact absurd rfl (mm_ne c5)
    · refine lv_ldcw (v := (-100000)) hx hb hown (mm_h hts mm_w1455) dX12_heirs_14 ?_
      subst hAe
      rw [hQ]
      exact W.iret (v := (-100000)) hx hb hr (fun t ht hW => ⟨⟨(-100000), (i_12, i_13, i_14, f_6, f_7, f_8, f_9), rfl, ⟨h0, h42, h43, h44, h45, (mm_wk mm_km100000 (by decide))⟩, by rw [ht]; exact hP, hK.warm hW, hD⟩, hS.F ht⟩) hS.2.2 dX12_heirs_17
  · have q6 := mm_ltR (lo := 1) w4 w2 h9 (by decide)
    have q7 : mm_rg i_19 1 601 := mm_tl_3 h49 q6 h1 (by decide)
    refine lv_if_ne (tgt := 18) hx hb dX12_heirs_11 (by decide) (fun c8 => ?_) (fun c8 => ?_)
    · refine lv_aload_n hx hb dX12_heirs_18 rfl (lv_at hl 0 rfl) ?_
      refine mm_finv (va_runV (As := []) (rest := []) ⟨hx, hb, hml, hown, hts⟩ (M125_X12_lays l G cy H.size a_0 0 a_1 a_2 a_3 a_4 a_5 i_3 i_4 i_5 i_6 i_7 j_0 i_8 i_9 i_10 i_11 a_6 a_7 a_8 a_9 a_10 a_11 a_12 a_13 a_14 a_15 a_16 a_17 a_18 i_12 i_13 i_14 i_15 i_16 i_17 a_19 i_18 a_20 i_19 i_20 i_21 i_22 i_23 i_24 i_25 i_26 i_27 i_28 i_29 i_30 i_31 i_32 i_33 i_34 i_35 i_36 i_37 i_38 i_39 i_40 i_41 i_42 i_43 i_44 i_45 i_46 i_47 i_48 i_49 i_50 i_51 i_52 i_53 f_1 f_2 f_5 f_6 f_7 f_8 (mm_wk q7 (by decide)) h2 h3 h4 h5 h6 h7 h8 (mm_wk q6 (by decide)) h10 h11 h12 h13 h14 h15 h16 h17 h18 h19 h20 h21 h22 h23 h24 h25 h26 h27 h28 h29 h30 h31 h32 h33 h34 h35 h37 h38 h41 h42 h43 h44 h46 h48 h49 h50 h52 h53 h54 h56 h57 h58 h60 h61) (cwV 0 hts (mm_gV mm_w686 mm_w687 mm_w688 mm_w5 mm_w689) rfl rfl rfl hd_X12_lays ⟨by rw [hRf]; exact Nat.le_of_ble_eq_true rfl, by rw [hRl]; exact Nat.le_of_ble_eq_true rfl⟩) (mm_preV hK hZ hS hA hP hD [0, 1, 2, 4, 5, 8, 9, 10, 11] rfl rfl 0 rfl rfl rfl) rfl rfl hl.1 rfl (lv_room (Nat.le_of_ble_eq_true rfl)) dX12_heirs_19 ⟨by rw [hRc]; exact Nat.le_of_ble_eq_true rfl, by rw [hRs]; exact Nat.le_of_ble_eq_true rfl⟩) hP hD hS hA (fun u : (Nat → Int32) × (Nat → Int32) × (Nat → Int32) => [(a_0, .inr (12, [.int 0, .ref a_1, .ref a_2, .ref a_3, .ref a_4, .ref a_5, .int i_3, .int i_4, .int i_5, .int i_6, .int i_7, .long j_0, .int i_8, .int i_9, .int i_10, .int i_11, .ref a_6, .ref a_7, .ref a_8, .ref a_9, .ref a_10, .ref a_11, .ref a_12, .ref a_13, .ref a_14, .ref a_15, .ref a_16, .ref a_17, .ref a_18, .int i_12, .int i_13, .int i_14, .int i_15, .int i_16, .int i_17, .ref a_19, .int i_18, .ref a_20])), (a_6, .inl (cy 1, 5, .inl (mm_g [i_19, i_20, i_21, i_22, i_23]))), (a_7, .inl (cy 1, 30, .inl (mm_g [i_24, i_25, i_26, i_27, i_28, i_29, i_30, i_31, i_32, i_33, i_34, i_35, i_36, i_37, i_38, i_39, i_40, i_41, i_42, i_43, i_44, i_45, i_46, i_47, i_48, i_49, i_50, i_51, i_52, i_53]))), (a_8, .inl (cy 1, 90, .inl f_0)), (a_9, .inl (cy 1, 15, .inl f_1)), (a_10, .inl (cy 1, 1050, .inl f_2)), (a_11, .inl (cy 1, 30, .inl f_3)), (a_12, .inl (cy 1, 240, .inl f_4)), (a_13, .inl (cy 1, 450, .inl f_5)), (a_15, .inl (cy 1, 7200, .inl u.1)), (a_16, .inl (cy 1, 3, .inl u.2.1)), (a_17, .inl (cy 1, 3, .inl u.2.2)), (a_18, .inl (cy 1, 8, .inl f_9))]) [0, 1, 2, 4, 5, 8, 9, 10, 11] [3, 6, 7, 12] (n := 13) (fun _ => rfl) (by decide +kernel) (by decide +kernel) rfl (fun _ => rfl) (wr := [(a_8, .inl (cy 1, 90, .inl f_0)), (a_11, .inl (cy 1, 30, .inl f_3)), (a_12, .inl (cy 1, 240, .inl f_4)), (a_18, .inl (cy 1, 8, .inl f_9))]) rfl (fun _ => rfl) (fun _ => @rfl _ ([a_0, a_6, a_7, a_9, a_10, a_13, a_15, a_16, a_17] : List Nat)) ?_
      clear hP hD hS
      clear H locs
      intro u
      obtain ⟨n9, n10, n11⟩ := u
      intro H locs hw (hP : va_P G vwCl [(a_0, .inr (12, [.int 0, .ref a_1, .ref a_2, .ref a_3, .ref a_4, .ref a_5, .int i_3, .int i_4, .int i_5, .int i_6, .int i_7, .long j_0, .int i_8, .int i_9, .int i_10, .int i_11, .ref a_6, .ref a_7, .ref a_8, .ref a_9, .ref a_10, .ref a_11, .ref a_12, .ref a_13, .ref a_14, .ref a_15, .ref a_16, .ref a_17, .ref a_18, .int i_12, .int i_13, .int i_14, .int i_15, .int i_16, .int i_17, .ref a_19, .int i_18, .ref a_20])), (a_6, .inl (cy 1, 5, .inl (mm_g [i_19, i_20, i_21, i_22, i_23]))), (a_7, .inl (cy 1, 30, .inl (mm_g [i_24, i_25, i_26, i_27, i_28, i_29, i_30, i_31, i_32, i_33, i_34, i_35, i_36, i_37, i_38, i_39, i_40, i_41, i_42, i_43, i_44, i_45, i_46, i_47, i_48, i_49, i_50, i_51, i_52, i_53]))), (a_8, .inl (cy 1, 90, .inl f_0)), (a_9, .inl (cy 1, 15, .inl f_1)), (a_10, .inl (cy 1, 1050, .inl f_2)), (a_11, .inl (cy 1, 30, .inl f_3)), (a_12, .inl (cy 1, 240, .inl f_4)), (a_13, .inl (cy 1, 450, .inl f_5)), (a_15, .inl (cy 1, 7200, .inl n9)), (a_16, .inl (cy 1, 3, .inl n10)), (a_17, .inl (cy 1, 3, .inl n11)), (a_18, .inl (cy 1, 8, .inl f_9))] H) (hD : va_D A [(a_0, .inr (12, [.int 0, .ref a_1, .ref a_2, .ref a_3, .ref a_4, .ref a_5, .int i_3, .int i_4, .int i_5, .int i_6, .int i_7, .long j_0, .int i_8, .int i_9, .int i_10, .int i_11, .ref a_6, .ref a_7, .ref a_8, .ref a_9, .ref a_10, .ref a_11, .ref a_12, .ref a_13, .ref a_14, .ref a_15, .ref a_16, .ref a_17, .ref a_18, .int i_12, .int i_13, .int i_14, .int i_15, .int i_16, .int i_17, .ref a_19, .int i_18, .ref a_20])), (a_6, .inl (cy 1, 5, .inl (mm_g [i_19, i_20, i_21, i_22, i_23]))), (a_7, .inl (cy 1, 30, .inl (mm_g [i_24, i_25, i_26, i_27, i_28, i_29, i_30, i_31, i_32, i_33, i_34, i_35, i_36, i_37, i_38, i_39, i_40, i_41, i_42, i_43, i_44, i_45, i_46, i_47, i_48, i_49, i_50, i_51, i_52, i_53]))), (a_8, .inl (cy 1, 90, .inl f_0)), (a_9, .inl (cy 1, 15, .inl f_1)), (a_10, .inl (cy 1, 1050, .inl f_2)), (a_11, .inl (cy 1, 30, .inl f_3)), (a_12, .inl (cy 1, 240, .inl f_4)), (a_13, .inl (cy 1, 450, .inl f_5)), (a_15, .inl (cy 1, 7200, .inl n9)), (a_16, .inl (cy 1, 3, .inl n10)), (a_17, .inl (cy 1, 3, .inl n11)), (a_18, .inl (cy 1, 8, .inl f_9))]) hS
      obtain ⟨w12, w13, w14, w15, w16⟩ := hw
      replace w15 : mm_laid n10 n11 i_27 := w15
      replace w16 : mm_tab n9 n10 i_26 i_27 := w16
      refine lv_aload_n hx hb dX12_heirs_22 rfl (lv_at hl 0 rfl) ?_
      refine lv_iload_n hx hb dX12_heirs_23 rfl (lv_at hl 1 rfl) ?_
      refine lv_iload_n hx hb dX12_heirs_24 rfl (lv_at hl 2 rfl) ?_
      refine lv_iconst (v := 1) hx hb dX12_heirs_25 (by decide) ?_
      refine lv_aload_n hx hb dX12_heirs_26 rfl (lv_at hl 0 rfl) ?_
      refine mm_finir (va_runV (As := []) (rest := [.int 1, .int i_1, .int i_0, .ref a_0]) ⟨hx, hb, hml, hown, hts⟩ (M95_X12_texts l G cy H.size a_0 0 a_1 a_2 a_3 a_4 a_5 i_3 i_4 i_5 i_6 i_7 j_0 i_8 i_9 i_10 i_11 a_6 a_7 a_8 a_9 a_10 a_11 a_12 a_13 a_14 a_15 a_16 a_17 a_18 i_12 i_13 i_14 i_15 i_16 i_17 a_19 i_18 a_20 i_24 i_25 i_26 i_27 i_28 i_29 i_30 i_31 i_32 i_33 i_34 i_35 i_36 i_37 i_38 i_39 i_40 i_41 i_42 i_43 i_44 i_45 i_46 i_47 i_48 i_49 i_50 i_51 i_52 i_53 h6 h7 h8 (mm_wk q6 (by decide)) h10 h11 h12 h13 h14 h15 h16 h17 h18 h19 h20 h21 h22 h23 h24 h25 h26 h27 h28 h29 h30 h31 h32 h33 h34 h35) (cwV 0 hts (mm_gV mm_w617 mm_w618 mm_w619 mm_w5 mm_w620) rfl rfl rfl hd_X12_texts ⟨by rw [hRf]; exact Nat.le_of_ble_eq_true rfl, by rw [hRl]; exact Nat.le_of_ble_eq_true rfl⟩) (mm_preV hK hZ hS hA hP hD [0, 2] rfl rfl 0 rfl rfl rfl) rfl rfl hl.1 rfl (lv_room (Nat.le_of_ble_eq_true rfl)) dX12_heirs_27 ⟨by rw [hRc]; exact Nat.le_of_ble_eq_true rfl, by rw [hRs]; exact Nat.le_of_ble_eq_true rfl⟩) hP hD hS hA [0, 2] rfl (fun _ => rfl) ?_
      clear hP hD hS
      clear H locs
      intro v17 _u H locs hw hP hD hS
      subst hw
      refine lv_ishl hx hb dX12_heirs_30 ?_
      refine lv_topi (fun v18 ev18 => ?_)
      have rv18 : mm_rg v18 1 64 := mm_shl1 ev18 h10 (by decide)
      refine lv_iconst (v := 1) hx hb dX12_heirs_31 (by decide) ?_
      refine lv_isub hx hb dX12_heirs_32 ?_
      refine lv_topi (fun v19 ev19 => ?_)
      have rv19 : mm_rg v19 0 63 := mm_sub ev19 rv18 mm_k1 (by decide) (by decide)
      have tv19 := mm_subEc ev19 rv18 mm_k1 (by decide) (k := (-1)) (by decide)
      refine mm_fini (va_runV (As := [.int i_0, .int i_1, .int v19]) (rest := []) ⟨hx, hb, hml, hown, hts⟩ (M239_X12_heirsOf l G cy H.size a_0 i_0 i_1 v19 0 a_1 a_2 a_3 a_4 a_5 i_3 i_4 i_5 i_6 i_7 j_0 i_8 i_9 i_10 i_11 a_6 a_7 a_8 a_9 a_10 a_11 a_12 a_13 a_14 a_15 a_16 a_17 a_18 i_12 i_13 i_14 i_15 i_16 i_17 a_19 i_18 a_20 i_24 i_25 i_26 i_27 i_28 i_29 i_30 i_31 i_32 i_33 i_34 i_35 i_36 i_37 i_38 i_39 i_40 i_41 i_42 i_43 i_44 i_45 i_46 i_47 i_48 i_49 i_50 i_51 i_52 i_53 f_0 f_3 f_4 f_5 n9 n10 f_9 w2 (mm_wk w3 (by decide)) rv19 h0 h6 h7 h8 (mm_wk q6 (by decide)) h10 h11 h12 h13 h14 h15 h16 h17 h18 h19 h20 h21 h22 h23 h24 h25 h26 h27 h28 h29 h30 h31 h32 h33 h34 h35 h36 h39 h40 h41 w12 w13 h45 h47 h48 h51 h52 h55 h56 h59 h60 (mm_f1_l w15 w4 w2 (by decide)) (mm_pc_rg rv19 (by decide) (by decide))) (cwV 3 hts (mm_gV mm_w1456 mm_w1457 mm_w1458 mm_w5 mm_w1459) rfl rfl rfl hd_X12_heirsOf ⟨by rw [hRf]; exact Nat.le_of_ble_eq_true rfl, by rw [hRl]; exact Nat.le_of_ble_eq_true rfl⟩) (mm_preV hK hZ hS hA hP hD [0, 2, 3, 6, 7, 8, 9, 10, 12] rfl rfl 0 rfl rfl rfl) rfl rfl hl.1 rfl (lv_room (Nat.le_of_ble_eq_true rfl)) dX12_heirs_33 ⟨by rw [hRc]; exact Nat.le_of_ble_eq_true rfl, by rw [hRs]; exact Nat.le_of_ble_eq_true rfl⟩) hP hD hS hA (fun u : Int32 × Int32 × Int32 × (Nat → Int32) => [(a_0, .inr (12, [.int 0, .ref a_1, .ref a_2, .ref a_3, .ref a_4, .ref a_5, .int i_3, .int i_4, .int i_5, .int i_6, .int i_7, .long j_0, .int i_8, .int i_9, .int i_10, .int i_11, .ref a_6, .ref a_7, .ref a_8, .ref a_9, .ref a_10, .ref a_11, .ref a_12, .ref a_13, .ref a_14, .ref a_15, .ref a_16, .ref a_17, .ref a_18, .int u.1, .int u.2.1, .int u.2.2.1, .int i_15, .int i_16, .int i_17, .ref a_19, .int i_18, .ref a_20])), (a_6, .inl (cy 1, 5, .inl (mm_g [i_19, i_20, i_21, i_22, i_23]))), (a_7, .inl (cy 1, 30, .inl (mm_g [i_24, i_25, i_26, i_27, i_28, i_29, i_30, i_31, i_32, i_33, i_34, i_35, i_36, i_37, i_38, i_39, i_40, i_41, i_42, i_43, i_44, i_45, i_46, i_47, i_48, i_49, i_50, i_51, i_52, i_53]))), (a_8, .inl (cy 1, 90, .inl f_0)), (a_9, .inl (cy 1, 15, .inl f_1)), (a_10, .inl (cy 1, 1050, .inl f_2)), (a_11, .inl (cy 1, 30, .inl f_3)), (a_12, .inl (cy 1, 240, .inl f_4)), (a_13, .inl (cy 1, 450, .inl f_5)), (a_15, .inl (cy 1, 7200, .inl n9)), (a_16, .inl (cy 1, 3, .inl n10)), (a_17, .inl (cy 1, 3, .inl n11)), (a_18, .inl (cy 1, 8, .inl u.2.2.2))]) [0, 2, 3, 6, 7, 8, 9, 10, 12] [1, 4, 5, 11] (n := 13) (fun _ => rfl) (by decide +kernel) (by decide +kernel) rfl (fun _ => rfl) (wr := [(a_6, .inl (cy 1, 5, .inl (mm_g [i_19, i_20, i_21, i_22, i_23]))), (a_9, .inl (cy 1, 15, .inl f_1)), (a_10, .inl (cy 1, 1050, .inl f_2)), (a_17, .inl (cy 1, 3, .inl n11))]) rfl (fun _ => rfl) (fun _ => @rfl _ ([a_0, a_7, a_8, a_11, a_12, a_13, a_15, a_16, a_18] : List Nat)) ?_
      clear hP hD hS
      clear H locs
      intro v24 u
      obtain ⟨n20, n21, n22, n23⟩ := u
      intro H locs hw (hP : va_P G vwCl [(a_0, .inr (12, [.int 0, .ref a_1, .ref a_2, .ref a_3, .ref a_4, .ref a_5, .int i_3, .int i_4, .int i_5, .int i_6, .int i_7, .long j_0, .int i_8, .int i_9, .int i_10, .int i_11, .ref a_6, .ref a_7, .ref a_8, .ref a_9, .ref a_10, .ref a_11, .ref a_12, .ref a_13, .ref a_14, .ref a_15, .ref a_16, .ref a_17, .ref a_18, .int n20, .int n21, .int n22, .int i_15, .int i_16, .int i_17, .ref a_19, .int i_18, .ref a_20])), (a_6, .inl (cy 1, 5, .inl (mm_g [i_19, i_20, i_21, i_22, i_23]))), (a_7, .inl (cy 1, 30, .inl (mm_g [i_24, i_25, i_26, i_27, i_28, i_29, i_30, i_31, i_32, i_33, i_34, i_35, i_36, i_37, i_38, i_39, i_40, i_41, i_42, i_43, i_44, i_45, i_46, i_47, i_48, i_49, i_50, i_51, i_52, i_53]))), (a_8, .inl (cy 1, 90, .inl f_0)), (a_9, .inl (cy 1, 15, .inl f_1)), (a_10, .inl (cy 1, 1050, .inl f_2)), (a_11, .inl (cy 1, 30, .inl f_3)), (a_12, .inl (cy 1, 240, .inl f_4)), (a_13, .inl (cy 1, 450, .inl f_5)), (a_15, .inl (cy 1, 7200, .inl n9)), (a_16, .inl (cy 1, 3, .inl n10)), (a_17, .inl (cy 1, 3, .inl n11)), (a_18, .inl (cy 1, 8, .inl n23))] H) (hD : va_D A [(a_0, .inr (12, [.int 0, .ref a_1, .ref a_2, .ref a_3, .ref a_4, .ref a_5, .int i_3, .int i_4, .int i_5, .int i_6, .int i_7, .long j_0, .int i_8, .int i_9, .int i_10, .int i_11, .ref a_6, .ref a_7, .ref a_8, .ref a_9, .ref a_10, .ref a_11, .ref a_12, .ref a_13, .ref a_14, .ref a_15, .ref a_16, .ref a_17, .ref a_18, .int n20, .int n21, .int n22, .int i_15, .int i_16, .int i_17, .ref a_19, .int i_18, .ref a_20])), (a_6, .inl (cy 1, 5, .inl (mm_g [i_19, i_20, i_21, i_22, i_23]))), (a_7, .inl (cy 1, 30, .inl (mm_g [i_24, i_25, i_26, i_27, i_28, i_29, i_30, i_31, i_32, i_33, i_34, i_35, i_36, i_37, i_38, i_39, i_40, i_41, i_42, i_43, i_44, i_45, i_46, i_47, i_48, i_49, i_50, i_51, i_52, i_53]))), (a_8, .inl (cy 1, 90, .inl f_0)), (a_9, .inl (cy 1, 15, .inl f_1)), (a_10, .inl (cy 1, 1050, .inl f_2)), (a_11, .inl (cy 1, 30, .inl f_3)), (a_12, .inl (cy 1, 240, .inl f_4)), (a_13, .inl (cy 1, 450, .inl f_5)), (a_15, .inl (cy 1, 7200, .inl n9)), (a_16, .inl (cy 1, 3, .inl n10)), (a_17, .inl (cy 1, 3, .inl n11)), (a_18, .inl (cy 1, 8, .inl n23))]) hS
      obtain ⟨w25, w26, hw⟩ := hw
      have w27 := hw
      subst hAe
      rw [hQ]
      exact W.iret (v := v24) hx hb hr (fun t ht hW => ⟨⟨v24, (n20, n21, n22, n9, n10, n11, n23), rfl, ⟨w25, w12, w13, w14, w26, w27⟩, by rw [ht]; exact hP, hK.warm hW, hD⟩, hS.F ht⟩) hS.2.2 dX12_heirs_36
    · exact mm_eqN c8.symm mm_k0 mm_k1 (by decide)

set_option maxHeartbeats 4000000 in
set_option maxRecDepth 100000 in
theorem M241_X12_takes_ (l : Launch) (G : va_G) (cy : Nat → ClassId) (sz : Nat) (a_0 : Nat) (i_0 : Int32) (i_1 : Int32) (i_2 : Int32) (a_1 : Nat) (a_2 : Nat) (a_3 : Nat) (a_4 : Nat) (a_5 : Nat) (i_3 : Int32) (i_4 : Int32) (i_5 : Int32) (i_6 : Int32) (i_7 : Int32) (j_0 : Int64) (i_8 : Int32) (i_9 : Int32) (i_10 : Int32) (i_11 : Int32) (a_6 : Nat) (a_7 : Nat) (a_8 : Nat) (a_9 : Nat) (a_10 : Nat) (a_11 : Nat) (a_12 : Nat) (a_13 : Nat) (a_14 : Nat) (a_15 : Nat) (a_16 : Nat) (a_17 : Nat) (a_18 : Nat) (i_12 : Int32) (i_13 : Int32) (i_14 : Int32) (i_15 : Int32) (i_16 : Int32) (i_17 : Int32) (a_19 : Nat) (i_18 : Int32) (a_20 : Nat) (i_19 : Int32) (i_20 : Int32) (i_21 : Int32) (i_22 : Int32) (i_23 : Int32) (i_24 : Int32) (i_25 : Int32) (i_26 : Int32) (i_27 : Int32) (i_28 : Int32) (i_29 : Int32) (i_30 : Int32) (i_31 : Int32) (i_32 : Int32) (i_33 : Int32) (i_34 : Int32) (i_35 : Int32) (i_36 : Int32) (i_37 : Int32) (i_38 : Int32) (i_39 : Int32) (i_40 : Int32) (i_41 : Int32) (i_42 : Int32) (i_43 : Int32) (i_44 : Int32) (i_45 : Int32) (i_46 : Int32) (i_47 : Int32) (i_48 : Int32) (i_49 : Int32) (i_50 : Int32) (i_51 : Int32) (i_52 : Int32) (i_53 : Int32) (f_0 : Nat → Int32) (f_1 : Nat → Int32) (f_2 : Nat → Int32) (f_3 : Nat → Int32) (f_4 : Nat → Int32) (f_5 : Nat → Int32) (f_6 : Nat → Int32) (f_7 : Nat → Int32) (f_8 : Nat → Int32) (f_9 : Nat → Int32) (h0 : mm_rg i_12 0 8) (h1 : mm_rg i_19 0 601) (h2 : mm_rg i_20 0 601) (h3 : mm_rg i_21 0 601) (h4 : mm_rg i_22 0 601) (h5 : mm_rg i_23 0 601) (h6 : mm_rg i_24 0 10) (h7 : mm_rg i_25 0 99) (h8 : mm_rg i_26 0 9) (h9 : mm_rg i_27 0 3) (h10 : mm_rg i_28 0 6) (h11 : mm_rg i_29 0 30) (h12 : mm_rg i_30 0 10) (h13 : mm_rg i_31 0 99) (h14 : mm_rg i_32 0 9) (h15 : mm_rg i_33 0 3) (h16 : mm_rg i_34 0 6) (h17 : mm_rg i_35 0 30) (h18 : mm_rg i_36 0 10) (h19 : mm_rg i_37 0 99) (h20 : mm_rg i_38 0 9) (h21 : mm_rg i_39 0 3) (h22 : mm_rg i_40 0 6) (h23 : mm_rg i_41 0 30) (h24 : mm_rg i_42 0 10) (h25 : mm_rg i_43 0 99) (h26 : mm_rg i_44 0 9) (h27 : mm_rg i_45 0 3) (h28 : mm_rg i_46 0 6) (h29 : mm_rg i_47 0 30) (h30 : mm_rg i_48 0 10) (h31 : mm_rg i_49 0 99) (h32 : mm_rg i_50 0 9) (h33 : mm_rg i_51 0 3) (h34 : mm_rg i_52 0 6) (h35 : mm_rg i_53 0 30) (h36 : mm_ar f_0 0 99) (h37 : mm_ar f_1 0 7) (h38 : mm_ar f_2 0 9) (h39 : mm_ar f_3 0 8) (h40 : mm_ar f_4 0 9) (h41 : mm_ar f_5 (-1) 99) (h42 : mm_ar f_6 0 9) (h43 : mm_ar f_7 0 210) (h44 : mm_ar f_8 0 210) (h45 : mm_ar f_9 0 9) (h46 : mm_rls f_1 f_2 0 i_26 i_27) (h47 : mm_txs f_3 f_4 0 i_26 i_28) (h48 : mm_acs f_5 0 i_26 i_27 i_29) (h49 : mm_tl i_19 i_27 i_28) (h50 : mm_rls f_1 f_2 1 i_32 i_33) (h51 : mm_txs f_3 f_4 1 i_32 i_34) (h52 : mm_acs f_5 1 i_32 i_33 i_35) (h53 : mm_tl i_20 i_33 i_34) (h54 : mm_rls f_1 f_2 2 i_38 i_39) (h55 : mm_txs f_3 f_4 2 i_38 i_40) (h56 : mm_acs f_5 2 i_38 i_39 i_41) (h57 : mm_tl i_21 i_39 i_40) (h58 : mm_rls f_1 f_2 3 i_44 i_45) (h59 : mm_txs f_3 f_4 3 i_44 i_46) (h60 : mm_acs f_5 3 i_44 i_45 i_47) (h61 : mm_tl i_22 i_45 i_46)  : mm_CI l yX12_takes_ (mm_ws yX12_takes_ cX12_takes_ 6 (some .int)) ({ frames := 14, cells := 0, slots := 0, locals := 300 } : Room) G cy sz [(a_0, .inr (12, [.int i_2, .ref a_1, .ref a_2, .ref a_3, .ref a_4, .ref a_5, .int i_3, .int i_4, .int i_5, .int i_6, .int i_7, .long j_0, .int i_8, .int i_9, .int i_10, .int i_11, .ref a_6, .ref a_7, .ref a_8, .ref a_9, .ref a_10, .ref a_11, .ref a_12, .ref a_13, .ref a_14, .ref a_15, .ref a_16, .ref a_17, .ref a_18, .int i_12, .int i_13, .int i_14, .int i_15, .int i_16, .int i_17, .ref a_19, .int i_18, .ref a_20])), (a_6, .inl (cy 1, 5, .inl (mm_g [i_19, i_20, i_21, i_22, i_23]))), (a_7, .inl (cy 1, 30, .inl (mm_g [i_24, i_25, i_26, i_27, i_28, i_29, i_30, i_31, i_32, i_33, i_34, i_35, i_36, i_37, i_38, i_39, i_40, i_41, i_42, i_43, i_44, i_45, i_46, i_47, i_48, i_49, i_50, i_51, i_52, i_53]))), (a_8, .inl (cy 1, 90, .inl f_0)), (a_9, .inl (cy 1, 15, .inl f_1)), (a_10, .inl (cy 1, 1050, .inl f_2)), (a_11, .inl (cy 1, 30, .inl f_3)), (a_12, .inl (cy 1, 240, .inl f_4)), (a_13, .inl (cy 1, 450, .inl f_5)), (a_15, .inl (cy 1, 7200, .inl f_6)), (a_16, .inl (cy 1, 3, .inl f_7)), (a_17, .inl (cy 1, 3, .inl f_8)), (a_18, .inl (cy 1, 8, .inl f_9))] [.ref a_0, .int i_0, .int i_1] (fun u : Int32 × Int32 × Int32 × (Nat → Int32) × (Nat → Int32) × (Nat → Int32) × (Nat → Int32) => [(a_0, .inr (12, [.int 0, .ref a_1, .ref a_2, .ref a_3, .ref a_4, .ref a_5, .int i_3, .int i_4, .int i_5, .int i_6, .int i_7, .long j_0, .int i_8, .int i_9, .int i_10, .int i_11, .ref a_6, .ref a_7, .ref a_8, .ref a_9, .ref a_10, .ref a_11, .ref a_12, .ref a_13, .ref a_14, .ref a_15, .ref a_16, .ref a_17, .ref a_18, .int u.1, .int u.2.1, .int u.2.2.1, .int i_15, .int i_16, .int i_17, .ref a_19, .int i_18, .ref a_20])), (a_6, .inl (cy 1, 5, .inl (mm_g [i_19, i_20, i_21, i_22, i_23]))), (a_7, .inl (cy 1, 30, .inl (mm_g [i_24, i_25, i_26, i_27, i_28, i_29, i_30, i_31, i_32, i_33, i_34, i_35, i_36, i_37, i_38, i_39, i_40, i_41, i_42, i_43, i_44, i_45, i_46, i_47, i_48, i_49, i_50, i_51, i_52, i_53]))), (a_8, .inl (cy 1, 90, .inl f_0)), (a_9, .inl (cy 1, 15, .inl f_1)), (a_10, .inl (cy 1, 1050, .inl f_2)), (a_11, .inl (cy 1, 30, .inl f_3)), (a_12, .inl (cy 1, 240, .inl f_4)), (a_13, .inl (cy 1, 450, .inl f_5)), (a_15, .inl (cy 1, 7200, .inl u.2.2.2.1)), (a_16, .inl (cy 1, 3, .inl u.2.2.2.2.1)), (a_17, .inl (cy 1, 3, .inl u.2.2.2.2.2.1)), (a_18, .inl (cy 1, 8, .inl u.2.2.2.2.2.2))]) (fun (r : Int32) (u : Int32 × Int32 × Int32 × (Nat → Int32) × (Nat → Int32) × (Nat → Int32) × (Nat → Int32)) => mm_rg u.1 0 8 ∧ mm_ar u.2.2.2.1 0 9 ∧ mm_ar u.2.2.2.2.1 0 210 ∧ mm_ar u.2.2.2.2.2.1 0 210 ∧ mm_ar u.2.2.2.2.2.2 0 9 ∧ mm_rg r (-2) 5) 0 0 := by
  refine mm_begin (lv := [(0, .ref a_0), (1, .int i_0), (2, .int i_1)]) (by decide) (Nat.le_of_ble_eq_true rfl) rfl ?_
  intro p e s m below meth c A ls R args Q H locs hRe hQ hAe hx hb hr hlocks hml hown hnm hts hsz hA hS hP hK hD hZ hl
  have hRf : R.frames = 14 := by rw [hRe]
  have hRl : R.locals = 300 := by rw [hRe]
  have hRc : R.cells = 0 := by rw [hRe]
  have hRs : R.slots = 0 := by rw [hRe]
  refine lv_aload_n hx hb dX12_takes__0 rfl (lv_at hl 0 rfl) ?_
  refine lv_iconst (v := 0) hx hb dX12_takes__1 (by decide) ?_
  refine va_put (D := G) (ci := 12) (v := .int 0) (ty := tyX12 0) (C := RX12) (T := TX12) (N := 38) hx hb hts (mm_i inlX12) tyX12 tyX12_ok nmX12 hown hK.1 hP hD hS 0 rfl rfl 0 (by decide) (mm_h hts mm_w177) (fun _ h9 => h9) rfl (tyX12_ok 0 (by decide)) rfl rfl (Nat.le_of_ble_eq_true rfl) dX12_takes__2 ?_
  clear hP hD hS
  clear H locs
  intro H locs (hP : va_P G vwCl [(a_0, .inr (12, [.int 0, .ref a_1, .ref a_2, .ref a_3, .ref a_4, .ref a_5, .int i_3, .int i_4, .int i_5, .int i_6, .int i_7, .long j_0, .int i_8, .int i_9, .int i_10, .int i_11, .ref a_6, .ref a_7, .ref a_8, .ref a_9, .ref a_10, .ref a_11, .ref a_12, .ref a_13, .ref a_14, .ref a_15, .ref a_16, .ref a_17, .ref a_18, .int i_12, .int i_13, .int i_14, .int i_15, .int i_16, .int i_17, .ref a_19, .int i_18, .ref a_20])), (a_6, .inl (cy 1, 5, .inl (mm_g [i_19, i_20, i_21, i_22, i_23]))), (a_7, .inl (cy 1, 30, .inl (mm_g [i_24, i_25, i_26, i_27, i_28, i_29, i_30, i_31, i_32, i_33, i_34, i_35, i_36, i_37, i_38, i_39, i_40, i_41, i_42, i_43, i_44, i_45, i_46, i_47, i_48, i_49, i_50, i_51, i_52, i_53]))), (a_8, .inl (cy 1, 90, .inl f_0)), (a_9, .inl (cy 1, 15, .inl f_1)), (a_10, .inl (cy 1, 1050, .inl f_2)), (a_11, .inl (cy 1, 30, .inl f_3)), (a_12, .inl (cy 1, 240, .inl f_4)), (a_13, .inl (cy 1, 450, .inl f_5)), (a_15, .inl (cy 1, 7200, .inl f_6)), (a_16, .inl (cy 1, 3, .inl f_7)), (a_17, .inl (cy 1, 3, .inl f_8)), (a_18, .inl (cy 1, 8, .inl f_9))] H) (hD : va_D A [(a_0, .inr (12, [.int 0, .ref a_1, .ref a_2, .ref a_3, .ref a_4, .ref a_5, .int i_3, .int i_4, .int i_5, .int i_6, .int i_7, .long j_0, .int i_8, .int i_9, .int i_10, .int i_11, .ref a_6, .ref a_7, .ref a_8, .ref a_9, .ref a_10, .ref a_11, .ref a_12, .ref a_13, .ref a_14, .ref a_15, .ref a_16, .ref a_17, .ref a_18, .int i_12, .int i_13, .int i_14, .int i_15, .int i_16, .int i_17, .ref a_19, .int i_18, .ref a_20])), (a_6, .inl (cy 1, 5, .inl (mm_g [i_19, i_20, i_21, i_22, i_23]))), (a_7, .inl (cy 1, 30, .inl (mm_g [i_24, i_25, i_26, i_27, i_28, i_29, i_30, i_31, i_32, i_33, i_34, i_35, i_36, i_37, i_38, i_39, i_40, i_41, i_42, i_43, i_44, i_45, i_46, i_47, i_48, i_49, i_50, i_51, i_52, i_53]))), (a_8, .inl (cy 1, 90, .inl f_0)), (a_9, .inl (cy 1, 15, .inl f_1)), (a_10, .inl (cy 1, 1050, .inl f_2)), (a_11, .inl (cy 1, 30, .inl f_3)), (a_12, .inl (cy 1, 240, .inl f_4)), (a_13, .inl (cy 1, 450, .inl f_5)), (a_15, .inl (cy 1, 7200, .inl f_6)), (a_16, .inl (cy 1, 3, .inl f_7)), (a_17, .inl (cy 1, 3, .inl f_8)), (a_18, .inl (cy 1, 8, .inl f_9))]) hS
  refine lv_aload_n hx hb dX12_takes__5 rfl (lv_at hl 0 rfl) ?_
  refine lv_iload_n hx hb dX12_takes__6 rfl (lv_at hl 1 rfl) ?_
  refine lv_iload_n hx hb dX12_takes__7 rfl (lv_at hl 2 rfl) ?_
  refine mm_finir (va_runV (As := [.int i_0, .int i_1]) (rest := []) ⟨hx, hb, hml, hown, hts⟩ (M104_X12_isThen l G cy H.size a_0 i_0 i_1 0 a_1 a_2 a_3 a_4 a_5 i_3 i_4 i_5 i_6 i_7 j_0 i_8 i_9 i_10 i_11 a_6 a_7 a_8 a_9 a_10 a_11 a_12 a_13 a_14 a_15 a_16 a_17 a_18 i_12 i_13 i_14 i_15 i_16 i_17 a_19 i_18 a_20 i_24 i_25 i_26 i_27 i_28 i_29 i_30 i_31 i_32 i_33 i_34 i_35 i_36 i_37 i_38 i_39 i_40 i_41 i_42 i_43 i_44 i_45 i_46 i_47 i_48 i_49 i_50 i_51 i_52 i_53 h6 h7 h8 h9 h10 h11 h12 h13 h14 h15 h16 h17 h18 h19 h20 h21 h22 h23 h24 h25 h26 h27 h28 h29 h30 h31 h32 h33 h34 h35) (cwV 2 hts (mm_gV mm_w678 mm_w679 mm_w680 mm_w5 mm_w681) rfl rfl rfl hd_X12_isThen ⟨by rw [hRf]; exact Nat.le_of_ble_eq_true rfl, by rw [hRl]; exact Nat.le_of_ble_eq_true rfl⟩) (mm_preV hK hZ hS hA hP hD [0, 2] rfl rfl 0 rfl rfl rfl) rfl rfl hl.1 rfl (lv_room (Nat.le_of_ble_eq_true rfl)) dX12_takes__8 ⟨by rw [hRc]; exact Nat.le_of_ble_eq_true rfl, by rw [hRs]; exact Nat.le_of_ble_eq_true rfl⟩) hP hD hS hA [0, 2] rfl (fun _ => rfl) ?_
  clear hP hD hS
  clear H locs
  intro v1 _u H locs hw hP hD hS
  rcases hw with rfl | ⟨rfl, w2, w3, w4⟩
  · refine lv_if_ne (tgt := 17) hx hb dX12_takes__11 (by decide) (fun c5 => ?_) (fun c5 => ?_)
    · exact absurd rfl (mm_ne c5)
    · refine lv_bipush (v := (-2)) hx hb dX12_takes__14 (by decide) ?_
      subst hAe
      rw [hQ]
      exact W.iret (v := (-2)) hx hb hr (fun t ht hW => ⟨⟨(-2), (i_12, i_13, i_14, f_6, f_7, f_8, f_9), rfl, ⟨h0, h42, h43, h44, h45, (mm_wk mm_km2 (by decide))⟩, by rw [ht]; exact hP, hK.warm hW, hD⟩, hS.F ht⟩) hS.2.2 dX12_takes__16
  · have q6 := mm_ltR (lo := 1) w4 w2 h9 (by decide)
    have q7 : mm_rg i_19 1 601 := mm_tl_3 h49 q6 h1 (by decide)
    refine lv_if_ne (tgt := 17) hx hb dX12_takes__11 (by decide) (fun c8 => ?_) (fun c8 => ?_)
    · refine lv_aload_n hx hb dX12_takes__17 rfl (lv_at hl 0 rfl) ?_
      refine mm_finv (va_runV (As := []) (rest := []) ⟨hx, hb, hml, hown, hts⟩ (M125_X12_lays l G cy H.size a_0 0 a_1 a_2 a_3 a_4 a_5 i_3 i_4 i_5 i_6 i_7 j_0 i_8 i_9 i_10 i_11 a_6 a_7 a_8 a_9 a_10 a_11 a_12 a_13 a_14 a_15 a_16 a_17 a_18 i_12 i_13 i_14 i_15 i_16 i_17 a_19 i_18 a_20 i_19 i_20 i_21 i_22 i_23 i_24 i_25 i_26 i_27 i_28 i_29 i_30 i_31 i_32 i_33 i_34 i_35 i_36 i_37 i_38 i_39 i_40 i_41 i_42 i_43 i_44 i_45 i_46 i_47 i_48 i_49 i_50 i_51 i_52 i_53 f_1 f_2 f_5 f_6 f_7 f_8 (mm_wk q7 (by decide)) h2 h3 h4 h5 h6 h7 h8 (mm_wk q6 (by decide)) h10 h11 h12 h13 h14 h15 h16 h17 h18 h19 h20 h21 h22 h23 h24 h25 h26 h27 h28 h29 h30 h31 h32 h33 h34 h35 h37 h38 h41 h42 h43 h44 h46 h48 h49 h50 h52 h53 h54 h56 h57 h58 h60 h61) (cwV 0 hts (mm_gV mm_w686 mm_w687 mm_w688 mm_w5 mm_w689) rfl rfl rfl hd_X12_lays ⟨by rw [hRf]; exact Nat.le_of_ble_eq_true rfl, by rw [hRl]; exact Nat.le_of_ble_eq_true rfl⟩) (mm_preV hK hZ hS hA hP hD [0, 1, 2, 4, 5, 8, 9, 10, 11] rfl rfl 0 rfl rfl rfl) rfl rfl hl.1 rfl (lv_room (Nat.le_of_ble_eq_true rfl)) dX12_takes__18 ⟨by rw [hRc]; exact Nat.le_of_ble_eq_true rfl, by rw [hRs]; exact Nat.le_of_ble_eq_true rfl⟩) hP hD hS hA (fun u : (Nat → Int32) × (Nat → Int32) × (Nat → Int32) => [(a_0, .inr (12, [.int 0, .ref a_1, .ref a_2, .ref a_3, .ref a_4, .ref a_5, .int i_3, .int i_4, .int i_5, .int i_6, .int i_7, .long j_0, .int i_8, .int i_9, .int i_10, .int i_11, .ref a_6, .ref a_7, .ref a_8, .ref a_9, .ref a_10, .ref a_11, .ref a_12, .ref a_13, .ref a_14, .ref a_15, .ref a_16, .ref a_17, .ref a_18, .int i_12, .int i_13, .int i_14, .int i_15, .int i_16, .int i_17, .ref a_19, .int i_18, .ref a_20])), (a_6, .inl (cy 1, 5, .inl (mm_g [i_19, i_20, i_21, i_22, i_23]))), (a_7, .inl (cy 1, 30, .inl (mm_g [i_24, i_25, i_26, i_27, i_28, i_29, i_30, i_31, i_32, i_33, i_34, i_35, i_36, i_37, i_38, i_39, i_40, i_41, i_42, i_43, i_44, i_45, i_46, i_47, i_48, i_49, i_50, i_51, i_52, i_53]))), (a_8, .inl (cy 1, 90, .inl f_0)), (a_9, .inl (cy 1, 15, .inl f_1)), (a_10, .inl (cy 1, 1050, .inl f_2)), (a_11, .inl (cy 1, 30, .inl f_3)), (a_12, .inl (cy 1, 240, .inl f_4)), (a_13, .inl (cy 1, 450, .inl f_5)), (a_15, .inl (cy 1, 7200, .inl u.1)), (a_16, .inl (cy 1, 3, .inl u.2.1)), (a_17, .inl (cy 1, 3, .inl u.2.2)), (a_18, .inl (cy 1, 8, .inl f_9))]) [0, 1, 2, 4, 5, 8, 9, 10, 11] [3, 6, 7, 12] (n := 13) (fun _ => rfl) (by decide +kernel) (by decide +kernel) rfl (fun _ => rfl) (wr := [(a_8, .inl (cy 1, 90, .inl f_0)), (a_11, .inl (cy 1, 30, .inl f_3)), (a_12, .inl (cy 1, 240, .inl f_4)), (a_18, .inl (cy 1, 8, .inl f_9))]) rfl (fun _ => rfl) (fun _ => @rfl _ ([a_0, a_6, a_7, a_9, a_10, a_13, a_15, a_16, a_17] : List Nat)) ?_
      clear hP hD hS
      clear H locs
      intro u
      obtain ⟨n9, n10, n11⟩ := u
      intro H locs hw (hP : va_P G vwCl [(a_0, .inr (12, [.int 0, .ref a_1, .ref a_2, .ref a_3, .ref a_4, .ref a_5, .int i_3, .int i_4, .int i_5, .int i_6, .int i_7, .long j_0, .int i_8, .int i_9, .int i_10, .int i_11, .ref a_6, .ref a_7, .ref a_8, .ref a_9, .ref a_10, .ref a_11, .ref a_12, .ref a_13, .ref a_14, .ref a_15, .ref a_16, .ref a_17, .ref a_18, .int i_12, .int i_13, .int i_14, .int i_15, .int i_16, .int i_17, .ref a_19, .int i_18, .ref a_20])), (a_6, .inl (cy 1, 5, .inl (mm_g [i_19, i_20, i_21, i_22, i_23]))), (a_7, .inl (cy 1, 30, .inl (mm_g [i_24, i_25, i_26, i_27, i_28, i_29, i_30, i_31, i_32, i_33, i_34, i_35, i_36, i_37, i_38, i_39, i_40, i_41, i_42, i_43, i_44, i_45, i_46, i_47, i_48, i_49, i_50, i_51, i_52, i_53]))), (a_8, .inl (cy 1, 90, .inl f_0)), (a_9, .inl (cy 1, 15, .inl f_1)), (a_10, .inl (cy 1, 1050, .inl f_2)), (a_11, .inl (cy 1, 30, .inl f_3)), (a_12, .inl (cy 1, 240, .inl f_4)), (a_13, .inl (cy 1, 450, .inl f_5)), (a_15, .inl (cy 1, 7200, .inl n9)), (a_16, .inl (cy 1, 3, .inl n10)), (a_17, .inl (cy 1, 3, .inl n11)), (a_18, .inl (cy 1, 8, .inl f_9))] H) (hD : va_D A [(a_0, .inr (12, [.int 0, .ref a_1, .ref a_2, .ref a_3, .ref a_4, .ref a_5, .int i_3, .int i_4, .int i_5, .int i_6, .int i_7, .long j_0, .int i_8, .int i_9, .int i_10, .int i_11, .ref a_6, .ref a_7, .ref a_8, .ref a_9, .ref a_10, .ref a_11, .ref a_12, .ref a_13, .ref a_14, .ref a_15, .ref a_16, .ref a_17, .ref a_18, .int i_12, .int i_13, .int i_14, .int i_15, .int i_16, .int i_17, .ref a_19, .int i_18, .ref a_20])), (a_6, .inl (cy 1, 5, .inl (mm_g [i_19, i_20, i_21, i_22, i_23]))), (a_7, .inl (cy 1, 30, .inl (mm_g [i_24, i_25, i_26, i_27, i_28, i_29, i_30, i_31, i_32, i_33, i_34, i_35, i_36, i_37, i_38, i_39, i_40, i_41, i_42, i_43, i_44, i_45, i_46, i_47, i_48, i_49, i_50, i_51, i_52, i_53]))), (a_8, .inl (cy 1, 90, .inl f_0)), (a_9, .inl (cy 1, 15, .inl f_1)), (a_10, .inl (cy 1, 1050, .inl f_2)), (a_11, .inl (cy 1, 30, .inl f_3)), (a_12, .inl (cy 1, 240, .inl f_4)), (a_13, .inl (cy 1, 450, .inl f_5)), (a_15, .inl (cy 1, 7200, .inl n9)), (a_16, .inl (cy 1, 3, .inl n10)), (a_17, .inl (cy 1, 3, .inl n11)), (a_18, .inl (cy 1, 8, .inl f_9))]) hS
      obtain ⟨w12, w13, w14, w15, w16⟩ := hw
      replace w15 : mm_laid n10 n11 i_27 := w15
      replace w16 : mm_tab n9 n10 i_26 i_27 := w16
      refine lv_iconst (v := 1) hx hb dX12_takes__21 (by decide) ?_
      refine lv_aload_n hx hb dX12_takes__22 rfl (lv_at hl 0 rfl) ?_
      refine mm_finir (va_runV (As := []) (rest := [.int 1]) ⟨hx, hb, hml, hown, hts⟩ (M95_X12_texts l G cy H.size a_0 0 a_1 a_2 a_3 a_4 a_5 i_3 i_4 i_5 i_6 i_7 j_0 i_8 i_9 i_10 i_11 a_6 a_7 a_8 a_9 a_10 a_11 a_12 a_13 a_14 a_15 a_16 a_17 a_18 i_12 i_13 i_14 i_15 i_16 i_17 a_19 i_18 a_20 i_24 i_25 i_26 i_27 i_28 i_29 i_30 i_31 i_32 i_33 i_34 i_35 i_36 i_37 i_38 i_39 i_40 i_41 i_42 i_43 i_44 i_45 i_46 i_47 i_48 i_49 i_50 i_51 i_52 i_53 h6 h7 h8 (mm_wk q6 (by decide)) h10 h11 h12 h13 h14 h15 h16 h17 h18 h19 h20 h21 h22 h23 h24 h25 h26 h27 h28 h29 h30 h31 h32 h33 h34 h35) (cwV 0 hts (mm_gV mm_w617 mm_w618 mm_w619 mm_w5 mm_w620) rfl rfl rfl hd_X12_texts ⟨by rw [hRf]; exact Nat.le_of_ble_eq_true rfl, by rw [hRl]; exact Nat.le_of_ble_eq_true rfl⟩) (mm_preV hK hZ hS hA hP hD [0, 2] rfl rfl 0 rfl rfl rfl) rfl rfl hl.1 rfl (lv_room (Nat.le_of_ble_eq_true rfl)) dX12_takes__23 ⟨by rw [hRc]; exact Nat.le_of_ble_eq_true rfl, by rw [hRs]; exact Nat.le_of_ble_eq_true rfl⟩) hP hD hS hA [0, 2] rfl (fun _ => rfl) ?_
      clear hP hD hS
      clear H locs
      intro v17 _u H locs hw hP hD hS
      subst hw
      refine lv_ishl hx hb dX12_takes__26 ?_
      refine lv_topi (fun v18 ev18 => ?_)
      have rv18 : mm_rg v18 1 64 := mm_shl1 ev18 h10 (by decide)
      refine lv_iconst (v := 1) hx hb dX12_takes__27 (by decide) ?_
      refine lv_isub hx hb dX12_takes__28 ?_
      refine lv_topi (fun v19 ev19 => ?_)
      have rv19 : mm_rg v19 0 63 := mm_sub ev19 rv18 mm_k1 (by decide) (by decide)
      have tv19 := mm_subEc ev19 rv18 mm_k1 (by decide) (k := (-1)) (by decide)
      refine lv_istore_n (lv' := [(3, .int v19), (0, .ref a_0), (1, .int i_0), (2, .int i_1)]) hx hb dX12_takes__29 rfl hl (by decide) rfl ?_
      clear hl
      clear ls
      intro ls hl
      refine lv_aload_n hx hb dX12_takes__30 rfl (lv_at hl 1 rfl) ?_
      refine lv_iload_n hx hb dX12_takes__31 rfl (lv_at hl 2 rfl) ?_
      refine lv_iload_n hx hb dX12_takes__32 rfl (lv_at hl 3 rfl) ?_
      refine lv_iload_n hx hb dX12_takes__33 rfl (lv_at hl 0 rfl) ?_
      refine mm_fini (va_runV (As := [.int i_0, .int i_1, .int v19]) (rest := []) ⟨hx, hb, hml, hown, hts⟩ (M239_X12_heirsOf l G cy H.size a_0 i_0 i_1 v19 0 a_1 a_2 a_3 a_4 a_5 i_3 i_4 i_5 i_6 i_7 j_0 i_8 i_9 i_10 i_11 a_6 a_7 a_8 a_9 a_10 a_11 a_12 a_13 a_14 a_15 a_16 a_17 a_18 i_12 i_13 i_14 i_15 i_16 i_17 a_19 i_18 a_20 i_24 i_25 i_26 i_27 i_28 i_29 i_30 i_31 i_32 i_33 i_34 i_35 i_36 i_37 i_38 i_39 i_40 i_41 i_42 i_43 i_44 i_45 i_46 i_47 i_48 i_49 i_50 i_51 i_52 i_53 f_0 f_3 f_4 f_5 n9 n10 f_9 w2 (mm_wk w3 (by decide)) rv19 h0 h6 h7 h8 (mm_wk q6 (by decide)) h10 h11 h12 h13 h14 h15 h16 h17 h18 h19 h20 h21 h22 h23 h24 h25 h26 h27 h28 h29 h30 h31 h32 h33 h34 h35 h36 h39 h40 h41 w12 w13 h45 h47 h48 h51 h52 h55 h56 h59 h60 (mm_f1_l w15 w4 w2 (by decide)) (mm_pc_rg rv19 (by decide) (by decide))) (cwV 3 hts (mm_gV mm_w1456 mm_w1457 mm_w1458 mm_w5 mm_w1459) rfl rfl rfl hd_X12_heirsOf ⟨by rw [hRf]; exact Nat.le_of_ble_eq_true rfl, by rw [hRl]; exact Nat.le_of_ble_eq_true rfl⟩) (mm_preV hK hZ hS hA hP hD [0, 2, 3, 6, 7, 8, 9, 10, 12] rfl rfl 0 rfl rfl rfl) rfl rfl hl.1 rfl (lv_room (Nat.le_of_ble_eq_true rfl)) dX12_takes__34 ⟨by rw [hRc]; exact Nat.le_of_ble_eq_true rfl, by rw [hRs]; exact Nat.le_of_ble_eq_true rfl⟩) hP hD hS hA (fun u : Int32 × Int32 × Int32 × (Nat → Int32) => [(a_0, .inr (12, [.int 0, .ref a_1, .ref a_2, .ref a_3, .ref a_4, .ref a_5, .int i_3, .int i_4, .int i_5, .int i_6, .int i_7, .long j_0, .int i_8, .int i_9, .int i_10, .int i_11, .ref a_6, .ref a_7, .ref a_8, .ref a_9, .ref a_10, .ref a_11, .ref a_12, .ref a_13, .ref a_14, .ref a_15, .ref a_16, .ref a_17, .ref a_18, .int u.1, .int u.2.1, .int u.2.2.1, .int i_15, .int i_16, .int i_17, .ref a_19, .int i_18, .ref a_20])), (a_6, .inl (cy 1, 5, .inl (mm_g [i_19, i_20, i_21, i_22, i_23]))), (a_7, .inl (cy 1, 30, .inl (mm_g [i_24, i_25, i_26, i_27, i_28, i_29, i_30, i_31, i_32, i_33, i_34, i_35, i_36, i_37, i_38, i_39, i_40, i_41, i_42, i_43, i_44, i_45, i_46, i_47, i_48, i_49, i_50, i_51, i_52, i_53]))), (a_8, .inl (cy 1, 90, .inl f_0)), (a_9, .inl (cy 1, 15, .inl f_1)), (a_10, .inl (cy 1, 1050, .inl f_2)), (a_11, .inl (cy 1, 30, .inl f_3)), (a_12, .inl (cy 1, 240, .inl f_4)), (a_13, .inl (cy 1, 450, .inl f_5)), (a_15, .inl (cy 1, 7200, .inl n9)), (a_16, .inl (cy 1, 3, .inl n10)), (a_17, .inl (cy 1, 3, .inl n11)), (a_18, .inl (cy 1, 8, .inl u.2.2.2))]) [0, 2, 3, 6, 7, 8, 9, 10, 12] [1, 4, 5, 11] (n := 13) (fun _ => rfl) (by decide +kernel) (by decide +kernel) rfl (fun _ => rfl) (wr := [(a_6, .inl (cy 1, 5, .inl (mm_g [i_19, i_20, i_21, i_22, i_23]))), (a_9, .inl (cy 1, 15, .inl f_1)), (a_10, .inl (cy 1, 1050, .inl f_2)), (a_17, .inl (cy 1, 3, .inl n11))]) rfl (fun _ => rfl) (fun _ => @rfl _ ([a_0, a_7, a_8, a_11, a_12, a_13, a_15, a_16, a_18] : List Nat)) ?_
      clear hP hD hS
      clear H locs
      intro v24 u
      obtain ⟨n20, n21, n22, n23⟩ := u
      intro H locs hw (hP : va_P G vwCl [(a_0, .inr (12, [.int 0, .ref a_1, .ref a_2, .ref a_3, .ref a_4, .ref a_5, .int i_3, .int i_4, .int i_5, .int i_6, .int i_7, .long j_0, .int i_8, .int i_9, .int i_10, .int i_11, .ref a_6, .ref a_7, .ref a_8, .ref a_9, .ref a_10, .ref a_11, .ref a_12, .ref a_13, .ref a_14, .ref a_15, .ref a_16, .ref a_17, .ref a_18, .int n20, .int n21, .int n22, .int i_15, .int i_16, .int i_17, .ref a_19, .int i_18, .ref a_20])), (a_6, .inl (cy 1, 5, .inl (mm_g [i_19, i_20, i_21, i_22, i_23]))), (a_7, .inl (cy 1, 30, .inl (mm_g [i_24, i_25, i_26, i_27, i_28, i_29, i_30, i_31, i_32, i_33, i_34, i_35, i_36, i_37, i_38, i_39, i_40, i_41, i_42, i_43, i_44, i_45, i_46, i_47, i_48, i_49, i_50, i_51, i_52, i_53]))), (a_8, .inl (cy 1, 90, .inl f_0)), (a_9, .inl (cy 1, 15, .inl f_1)), (a_10, .inl (cy 1, 1050, .inl f_2)), (a_11, .inl (cy 1, 30, .inl f_3)), (a_12, .inl (cy 1, 240, .inl f_4)), (a_13, .inl (cy 1, 450, .inl f_5)), (a_15, .inl (cy 1, 7200, .inl n9)), (a_16, .inl (cy 1, 3, .inl n10)), (a_17, .inl (cy 1, 3, .inl n11)), (a_18, .inl (cy 1, 8, .inl n23))] H) (hD : va_D A [(a_0, .inr (12, [.int 0, .ref a_1, .ref a_2, .ref a_3, .ref a_4, .ref a_5, .int i_3, .int i_4, .int i_5, .int i_6, .int i_7, .long j_0, .int i_8, .int i_9, .int i_10, .int i_11, .ref a_6, .ref a_7, .ref a_8, .ref a_9, .ref a_10, .ref a_11, .ref a_12, .ref a_13, .ref a_14, .ref a_15, .ref a_16, .ref a_17, .ref a_18, .int n20, .int n21, .int n22, .int i_15, .int i_16, .int i_17, .ref a_19, .int i_18, .ref a_20])), (a_6, .inl (cy 1, 5, .inl (mm_g [i_19, i_20, i_21, i_22, i_23]))), (a_7, .inl (cy 1, 30, .inl (mm_g [i_24, i_25, i_26, i_27, i_28, i_29, i_30, i_31, i_32, i_33, i_34, i_35, i_36, i_37, i_38, i_39, i_40, i_41, i_42, i_43, i_44, i_45, i_46, i_47, i_48, i_49, i_50, i_51, i_52, i_53]))), (a_8, .inl (cy 1, 90, .inl f_0)), (a_9, .inl (cy 1, 15, .inl f_1)), (a_10, .inl (cy 1, 1050, .inl f_2)), (a_11, .inl (cy 1, 30, .inl f_3)), (a_12, .inl (cy 1, 240, .inl f_4)), (a_13, .inl (cy 1, 450, .inl f_5)), (a_15, .inl (cy 1, 7200, .inl n9)), (a_16, .inl (cy 1, 3, .inl n10)), (a_17, .inl (cy 1, 3, .inl n11)), (a_18, .inl (cy 1, 8, .inl n23))]) hS
      obtain ⟨w25, w26, hw⟩ := hw
      have w27 := hw
      refine lv_istore (lv' := [(4, .int v24), (3, .int v19), (0, .ref a_0), (1, .int i_0), (2, .int i_1)]) hx hb dX12_takes__37 hl (by decide) rfl ?_
      clear hl
      clear ls
      intro ls hl
      refine lv_iconst (v := 0) hx hb dX12_takes__39 (by decide) ?_
      refine lv_istore (lv' := [(5, .int 0), (4, .int v24), (3, .int v19), (0, .ref a_0), (1, .int i_0), (2, .int i_1)]) hx hb dX12_takes__40 hl (by decide) rfl ?_
      clear hl
      clear ls
      intro ls hl
      have L42_263 : ∀ (n : Nat) (x42_5_259 : Int32) (y42_0_29_260 : Int32) (y42_0_30_261 : Int32) (y42_0_31_262 : Int32) (z42_12_263 : Nat → Int32), mm_rg x42_5_259 0 6 → mm_rg y42_0_29_260 0 8 → mm_ar z42_12_263 0 9 → (6 - x42_5_259.toInt).toNat < n → ∀ (H : Heap) (locs : List Loc), va_P G vwCl [(a_0, .inr (12, [.int 0, .ref a_1, .ref a_2, .ref a_3, .ref a_4, .ref a_5, .int i_3, .int i_4, .int i_5, .int i_6, .int i_7, .long j_0, .int i_8, .int i_9, .int i_10, .int i_11, .ref a_6, .ref a_7, .ref a_8, .ref a_9, .ref a_10, .ref a_11, .ref a_12, .ref a_13, .ref a_14, .ref a_15, .ref a_16, .ref a_17, .ref a_18, .int y42_0_29_260, .int y42_0_30_261, .int y42_0_31_262, .int i_15, .int i_16, .int i_17, .ref a_19, .int i_18, .ref a_20])), (a_6, .inl (cy 1, 5, .inl (mm_g [i_19, i_20, i_21, i_22, i_23]))), (a_7, .inl (cy 1, 30, .inl (mm_g [i_24, i_25, i_26, i_27, i_28, i_29, i_30, i_31, i_32, i_33, i_34, i_35, i_36, i_37, i_38, i_39, i_40, i_41, i_42, i_43, i_44, i_45, i_46, i_47, i_48, i_49, i_50, i_51, i_52, i_53]))), (a_8, .inl (cy 1, 90, .inl f_0)), (a_9, .inl (cy 1, 15, .inl f_1)), (a_10, .inl (cy 1, 1050, .inl f_2)), (a_11, .inl (cy 1, 30, .inl f_3)), (a_12, .inl (cy 1, 240, .inl f_4)), (a_13, .inl (cy 1, 450, .inl f_5)), (a_15, .inl (cy 1, 7200, .inl n9)), (a_16, .inl (cy 1, 3, .inl n10)), (a_17, .inl (cy 1, 3, .inl n11)), (a_18, .inl (cy 1, 8, .inl z42_12_263))] H → va_D A [(a_0, .inr (12, [.int 0, .ref a_1, .ref a_2, .ref a_3, .ref a_4, .ref a_5, .int i_3, .int i_4, .int i_5, .int i_6, .int i_7, .long j_0, .int i_8, .int i_9, .int i_10, .int i_11, .ref a_6, .ref a_7, .ref a_8, .ref a_9, .ref a_10, .ref a_11, .ref a_12, .ref a_13, .ref a_14, .ref a_15, .ref a_16, .ref a_17, .ref a_18, .int y42_0_29_260, .int y42_0_30_261, .int y42_0_31_262, .int i_15, .int i_16, .int i_17, .ref a_19, .int i_18, .ref a_20])), (a_6, .inl (cy 1, 5, .inl (mm_g [i_19, i_20, i_21, i_22, i_23]))), (a_7, .inl (cy 1, 30, .inl (mm_g [i_24, i_25, i_26, i_27, i_28, i_29, i_30, i_31, i_32, i_33, i_34, i_35, i_36, i_37, i_38, i_39, i_40, i_41, i_42, i_43, i_44, i_45, i_46, i_47, i_48, i_49, i_50, i_51, i_52, i_53]))), (a_8, .inl (cy 1, 90, .inl f_0)), (a_9, .inl (cy 1, 15, .inl f_1)), (a_10, .inl (cy 1, 1050, .inl f_2)), (a_11, .inl (cy 1, 30, .inl f_3)), (a_12, .inl (cy 1, 240, .inl f_4)), (a_13, .inl (cy 1, 450, .inl f_5)), (a_15, .inl (cy 1, 7200, .inl n9)), (a_16, .inl (cy 1, 3, .inl n10)), (a_17, .inl (cy 1, 3, .inl n11)), (a_18, .inl (cy 1, 8, .inl z42_12_263))] → va_S A s.heap H locs → ∀ (ls : Array Slot), lv_has ls 6 [(5, .int x42_5_259), (4, .int v24), (3, .int v19), (0, .ref a_0), (1, .int i_0), (2, .int i_1)] → W p l e R s m args below meth c H locs 0 0 Q (F0 m 42 ls []) := by
        intro n
        induction n with
        | zero => intro x42_5_259 y42_0_29_260 y42_0_30_261 y42_0_31_262 z42_12_263 rx42_5_259 ry42_0_29_260 rz42_12_263 hm; exact absurd hm (Nat.not_lt_zero _)
        | succ n ih42 =>
          intro x42_5_259 y42_0_29_260 y42_0_30_261 y42_0_31_262 z42_12_263 rx42_5_259 ry42_0_29_260 rz42_12_263 hm42 H locs hP hD hS ls hl
          refine lv_iload hx hb dX12_takes__42 (lv_at hl 0 rfl) ?_
          refine lv_aload_n hx hb dX12_takes__44 rfl (lv_at hl 3 rfl) ?_
          refine mm_finir (va_runV (As := []) (rest := [.int x42_5_259]) ⟨hx, hb, hml, hown, hts⟩ (M95_X12_texts l G cy H.size a_0 0 a_1 a_2 a_3 a_4 a_5 i_3 i_4 i_5 i_6 i_7 j_0 i_8 i_9 i_10 i_11 a_6 a_7 a_8 a_9 a_10 a_11 a_12 a_13 a_14 a_15 a_16 a_17 a_18 y42_0_29_260 y42_0_30_261 y42_0_31_262 i_15 i_16 i_17 a_19 i_18 a_20 i_24 i_25 i_26 i_27 i_28 i_29 i_30 i_31 i_32 i_33 i_34 i_35 i_36 i_37 i_38 i_39 i_40 i_41 i_42 i_43 i_44 i_45 i_46 i_47 i_48 i_49 i_50 i_51 i_52 i_53 h6 h7 h8 (mm_wk q6 (by decide)) h10 h11 h12 h13 h14 h15 h16 h17 h18 h19 h20 h21 h22 h23 h24 h25 h26 h27 h28 h29 h30 h31 h32 h33 h34 h35) (cwV 0 hts (mm_gV mm_w617 mm_w618 mm_w619 mm_w5 mm_w620) rfl rfl rfl hd_X12_texts ⟨by rw [hRf]; exact Nat.le_of_ble_eq_true rfl, by rw [hRl]; exact Nat.le_of_ble_eq_true rfl⟩) (mm_preV hK hZ hS hA hP hD [0, 2] rfl rfl 0 rfl rfl rfl) rfl rfl hl.1 rfl (lv_room (Nat.le_of_ble_eq_true rfl)) dX12_takes__45 ⟨by rw [hRc]; exact Nat.le_of_ble_eq_true rfl, by rw [hRs]; exact Nat.le_of_ble_eq_true rfl⟩) hP hD hS hA [0, 2] rfl (fun _ => rfl) ?_
          clear hP hD hS
          clear H locs
          intro v265 _u H locs hw hP hD hS
          subst hw
          refine lv_icmp_ge (tgt := 90) hx hb dX12_takes__48 (by decide) (fun c266 => ?_) (fun c266 => ?_)
          · refine lv_iconst (v := (-1)) hx hb dX12_takes__90 (by decide) ?_
            subst hAe
            rw [hQ]
            exact W.iret (v := (-1)) hx hb hr (fun t ht hW => ⟨⟨(-1), (y42_0_29_260, y42_0_30_261, y42_0_31_262, n9, n10, n11, z42_12_263), rfl, ⟨ry42_0_29_260, w12, w13, w14, rz42_12_263, (mm_wk mm_km1 (by decide))⟩, by rw [ht]; exact hP, hK.warm hW, hD⟩, hS.F ht⟩) hS.2.2 dX12_takes__91
          · have q267 := mm_ltL (h := 5) (mm_nle c266) rx42_5_259 h10 (by decide)
            have q268 := mm_ltR (lo := 1) (mm_nle c266) rx42_5_259 h10 (by decide)
            refine lv_aload_n hx hb dX12_takes__51 rfl (lv_at hl 3 rfl) ?_
            refine lv_iload_n hx hb dX12_takes__52 rfl (lv_at hl 4 rfl) ?_
            refine lv_iload_n hx hb dX12_takes__53 rfl (lv_at hl 5 rfl) ?_
            refine lv_iload hx hb dX12_takes__54 (lv_at hl 0 rfl) ?_
            refine mm_fini (va_runV (As := [.int i_0, .int i_1, .int x42_5_259]) (rest := []) ⟨hx, hb, hml, hown, hts⟩ (M141_X12_reads l G cy H.size a_0 i_0 i_1 x42_5_259 0 a_1 a_2 a_3 a_4 a_5 i_3 i_4 i_5 i_6 i_7 j_0 i_8 i_9 i_10 i_11 a_6 a_7 a_8 a_9 a_10 a_11 a_12 a_13 a_14 a_15 a_16 a_17 a_18 y42_0_29_260 y42_0_30_261 y42_0_31_262 i_15 i_16 i_17 a_19 i_18 a_20 i_24 i_25 i_26 i_27 i_28 i_29 i_30 i_31 i_32 i_33 i_34 i_35 i_36 i_37 i_38 i_39 i_40 i_41 i_42 i_43 i_44 i_45 i_46 i_47 i_48 i_49 i_50 i_51 i_52 i_53 f_0 f_3 f_4 f_5 n9 n10 z42_12_263 w2 (mm_wk w3 (by decide)) q267 ry42_0_29_260 h6 h7 h8 (mm_wk q6 (by decide)) (mm_wk q268 (by decide)) h11 h12 h13 h14 h15 h16 h17 h18 h19 h20 h21 h22 h23 h24 h25 h26 h27 h28 h29 h30 h31 h32 h33 h34 h35 h36 h39 h40 h41 w12 w13 rz42_12_263 h47 h48 h51 h52 h55 h56 h59 h60 (mm_f1_l w15 w4 w2 (by decide))) (cwV 3 hts (mm_gV mm_w852 mm_w853 mm_w854 mm_w5 mm_w855) rfl rfl rfl hd_X12_reads ⟨by rw [hRf]; exact Nat.le_of_ble_eq_true rfl, by rw [hRl]; exact Nat.le_of_ble_eq_true rfl⟩) (mm_preV hK hZ hS hA hP hD [0, 2, 3, 6, 7, 8, 9, 10, 12] rfl rfl 0 rfl rfl rfl) rfl rfl hl.1 rfl (lv_room (Nat.le_of_ble_eq_true rfl)) dX12_takes__56 ⟨by rw [hRc]; exact Nat.le_of_ble_eq_true rfl, by rw [hRs]; exact Nat.le_of_ble_eq_true rfl⟩) hP hD hS hA (fun u : Int32 × Int32 × Int32 × (Nat → Int32) => [(a_0, .inr (12, [.int 0, .ref a_1, .ref a_2, .ref a_3, .ref a_4, .ref a_5, .int i_3, .int i_4, .int i_5, .int i_6, .int i_7, .long j_0, .int i_8, .int i_9, .int i_10, .int i_11, .ref a_6, .ref a_7, .ref a_8, .ref a_9, .ref a_10, .ref a_11, .ref a_12, .ref a_13, .ref a_14, .ref a_15, .ref a_16, .ref a_17, .ref a_18, .int u.1, .int u.2.1, .int u.2.2.1, .int i_15, .int i_16, .int i_17, .ref a_19, .int i_18, .ref a_20])), (a_6, .inl (cy 1, 5, .inl (mm_g [i_19, i_20, i_21, i_22, i_23]))), (a_7, .inl (cy 1, 30, .inl (mm_g [i_24, i_25, i_26, i_27, i_28, i_29, i_30, i_31, i_32, i_33, i_34, i_35, i_36, i_37, i_38, i_39, i_40, i_41, i_42, i_43, i_44, i_45, i_46, i_47, i_48, i_49, i_50, i_51, i_52, i_53]))), (a_8, .inl (cy 1, 90, .inl f_0)), (a_9, .inl (cy 1, 15, .inl f_1)), (a_10, .inl (cy 1, 1050, .inl f_2)), (a_11, .inl (cy 1, 30, .inl f_3)), (a_12, .inl (cy 1, 240, .inl f_4)), (a_13, .inl (cy 1, 450, .inl f_5)), (a_15, .inl (cy 1, 7200, .inl n9)), (a_16, .inl (cy 1, 3, .inl n10)), (a_17, .inl (cy 1, 3, .inl n11)), (a_18, .inl (cy 1, 8, .inl u.2.2.2))]) [0, 2, 3, 6, 7, 8, 9, 10, 12] [1, 4, 5, 11] (n := 13) (fun _ => rfl) (by decide +kernel) (by decide +kernel) rfl (fun _ => rfl) (wr := [(a_6, .inl (cy 1, 5, .inl (mm_g [i_19, i_20, i_21, i_22, i_23]))), (a_9, .inl (cy 1, 15, .inl f_1)), (a_10, .inl (cy 1, 1050, .inl f_2)), (a_17, .inl (cy 1, 3, .inl n11))]) rfl (fun _ => rfl) (fun _ => @rfl _ ([a_0, a_7, a_8, a_11, a_12, a_13, a_15, a_16, a_18] : List Nat)) ?_
            clear hP hD hS
            clear H locs
            intro v273 u
            obtain ⟨n269, n270, n271, n272⟩ := u
            intro H locs hw (hP : va_P G vwCl [(a_0, .inr (12, [.int 0, .ref a_1, .ref a_2, .ref a_3, .ref a_4, .ref a_5, .int i_3, .int i_4, .int i_5, .int i_6, .int i_7, .long j_0, .int i_8, .int i_9, .int i_10, .int i_11, .ref a_6, .ref a_7, .ref a_8, .ref a_9, .ref a_10, .ref a_11, .ref a_12, .ref a_13, .ref a_14, .ref a_15, .ref a_16, .ref a_17, .ref a_18, .int n269, .int n270, .int n271, .int i_15, .int i_16, .int i_17, .ref a_19, .int i_18, .ref a_20])), (a_6, .inl (cy 1, 5, .inl (mm_g [i_19, i_20, i_21, i_22, i_23]))), (a_7, .inl (cy 1, 30, .inl (mm_g [i_24, i_25, i_26, i_27, i_28, i_29, i_30, i_31, i_32, i_33, i_34, i_35, i_36, i_37, i_38, i_39, i_40, i_41, i_42, i_43, i_44, i_45, i_46, i_47, i_48, i_49, i_50, i_51, i_52, i_53]))), (a_8, .inl (cy 1, 90, .inl f_0)), (a_9, .inl (cy 1, 15, .inl f_1)), (a_10, .inl (cy 1, 1050, .inl f_2)), (a_11, .inl (cy 1, 30, .inl f_3)), (a_12, .inl (cy 1, 240, .inl f_4)), (a_13, .inl (cy 1, 450, .inl f_5)), (a_15, .inl (cy 1, 7200, .inl n9)), (a_16, .inl (cy 1, 3, .inl n10)), (a_17, .inl (cy 1, 3, .inl n11)), (a_18, .inl (cy 1, 8, .inl n272))] H) (hD : va_D A [(a_0, .inr (12, [.int 0, .ref a_1, .ref a_2, .ref a_3, .ref a_4, .ref a_5, .int i_3, .int i_4, .int i_5, .int i_6, .int i_7, .long j_0, .int i_8, .int i_9, .int i_10, .int i_11, .ref a_6, .ref a_7, .ref a_8, .ref a_9, .ref a_10, .ref a_11, .ref a_12, .ref a_13, .ref a_14, .ref a_15, .ref a_16, .ref a_17, .ref a_18, .int n269, .int n270, .int n271, .int i_15, .int i_16, .int i_17, .ref a_19, .int i_18, .ref a_20])), (a_6, .inl (cy 1, 5, .inl (mm_g [i_19, i_20, i_21, i_22, i_23]))), (a_7, .inl (cy 1, 30, .inl (mm_g [i_24, i_25, i_26, i_27, i_28, i_29, i_30, i_31, i_32, i_33, i_34, i_35, i_36, i_37, i_38, i_39, i_40, i_41, i_42, i_43, i_44, i_45, i_46, i_47, i_48, i_49, i_50, i_51, i_52, i_53]))), (a_8, .inl (cy 1, 90, .inl f_0)), (a_9, .inl (cy 1, 15, .inl f_1)), (a_10, .inl (cy 1, 1050, .inl f_2)), (a_11, .inl (cy 1, 30, .inl f_3)), (a_12, .inl (cy 1, 240, .inl f_4)), (a_13, .inl (cy 1, 450, .inl f_5)), (a_15, .inl (cy 1, 7200, .inl n9)), (a_16, .inl (cy 1, 3, .inl n10)), (a_17, .inl (cy 1, 3, .inl n11)), (a_18, .inl (cy 1, 8, .inl n272))]) hS
            obtain ⟨w274, w275, hw⟩ := hw
            obtain ⟨w276, w277⟩ := hw
            replace w277 : mm_rd n9 n10 f_0 f_3 f_4 f_5 i_0 i_1 x42_5_259 i_25 i_26 i_29 v273 := w277
            refine lv_aload_n hx hb dX12_takes__59 rfl (lv_at hl 3 rfl) ?_
            refine lv_iload_n hx hb dX12_takes__60 rfl (lv_at hl 4 rfl) ?_
            refine lv_iload_n hx hb dX12_takes__61 rfl (lv_at hl 5 rfl) ?_
            refine lv_iconst (v := 1) hx hb dX12_takes__62 (by decide) ?_
            refine lv_iadd hx hb dX12_takes__63 ?_
            refine lv_topi (fun v278 ev278 => ?_)
            have rv278 : mm_rg v278 1 1000000001 := mm_add ev278 w3 mm_k1 (by decide) (by decide)
            have tv278 := mm_addEc ev278 w3 mm_k1 (by decide) (k := 1) (by decide)
            refine lv_iload_n hx hb dX12_takes__64 rfl (lv_at hl 2 rfl) ?_
            refine lv_iconst (v := 1) hx hb dX12_takes__65 (by decide) ?_
            refine lv_iload hx hb dX12_takes__66 (lv_at hl 0 rfl) ?_
            refine lv_ishl hx hb dX12_takes__68 ?_
            refine lv_topi (fun v279 ev279 => ?_)
            have rv279 : mm_rg v279 1 32 := mm_shl1 ev279 q267 (by decide)
            refine lv_iconst (v := (-1)) hx hb dX12_takes__69 (by decide) ?_
            refine lv_ixor hx hb dX12_takes__70 ?_
            refine lv_topi (fun v280 ev280 => ?_)
            refine lv_iand hx hb dX12_takes__71 ?_
            refine lv_topi (fun v281 ev281 => ?_)
            have rv281 : mm_rg v281 0 63 := mm_andL ev281 rv19 (by decide)
            refine mm_fini (va_runV (As := [.int i_0, .int v278, .int v281]) (rest := [.int v273]) ⟨hx, hb, hml, hown, hts⟩ (M239_X12_heirsOf l G cy H.size a_0 i_0 v278 v281 0 a_1 a_2 a_3 a_4 a_5 i_3 i_4 i_5 i_6 i_7 j_0 i_8 i_9 i_10 i_11 a_6 a_7 a_8 a_9 a_10 a_11 a_12 a_13 a_14 a_15 a_16 a_17 a_18 n269 n270 n271 i_15 i_16 i_17 a_19 i_18 a_20 i_24 i_25 i_26 i_27 i_28 i_29 i_30 i_31 i_32 i_33 i_34 i_35 i_36 i_37 i_38 i_39 i_40 i_41 i_42 i_43 i_44 i_45 i_46 i_47 i_48 i_49 i_50 i_51 i_52 i_53 f_0 f_3 f_4 f_5 n9 n10 n272 w2 (mm_wk rv278 (by decide)) rv281 w274 h6 h7 h8 (mm_wk q6 (by decide)) (mm_wk q268 (by decide)) h11 h12 h13 h14 h15 h16 h17 h18 h19 h20 h21 h22 h23 h24 h25 h26 h27 h28 h29 h30 h31 h32 h33 h34 h35 h36 h39 h40 h41 w12 w13 w275 h47 h48 h51 h52 h55 h56 h59 h60 (mm_f1_l w15 w4 w2 (by decide)) (mm_pc_rg rv281 (by decide) (by decide))) (cwV 3 hts (mm_gV mm_w1456 mm_w1457 mm_w1458 mm_w5 mm_w1459) rfl rfl rfl hd_X12_heirsOf ⟨by rw [hRf]; exact Nat.le_of_ble_eq_true rfl, by rw [hRl]; exact Nat.le_of_ble_eq_true rfl⟩) (mm_preV hK hZ hS hA hP hD [0, 2, 3, 6, 7, 8, 9, 10, 12] rfl rfl 0 rfl rfl rfl) rfl rfl hl.1 rfl (lv_room (Nat.le_of_ble_eq_true rfl)) dX12_takes__72 ⟨by rw [hRc]; exact Nat.le_of_ble_eq_true rfl, by rw [hRs]; exact Nat.le_of_ble_eq_true rfl⟩) hP hD hS hA (fun u : Int32 × Int32 × Int32 × (Nat → Int32) => [(a_0, .inr (12, [.int 0, .ref a_1, .ref a_2, .ref a_3, .ref a_4, .ref a_5, .int i_3, .int i_4, .int i_5, .int i_6, .int i_7, .long j_0, .int i_8, .int i_9, .int i_10, .int i_11, .ref a_6, .ref a_7, .ref a_8, .ref a_9, .ref a_10, .ref a_11, .ref a_12, .ref a_13, .ref a_14, .ref a_15, .ref a_16, .ref a_17, .ref a_18, .int u.1, .int u.2.1, .int u.2.2.1, .int i_15, .int i_16, .int i_17, .ref a_19, .int i_18, .ref a_20])), (a_6, .inl (cy 1, 5, .inl (mm_g [i_19, i_20, i_21, i_22, i_23]))), (a_7, .inl (cy 1, 30, .inl (mm_g [i_24, i_25, i_26, i_27, i_28, i_29, i_30, i_31, i_32, i_33, i_34, i_35, i_36, i_37, i_38, i_39, i_40, i_41, i_42, i_43, i_44, i_45, i_46, i_47, i_48, i_49, i_50, i_51, i_52, i_53]))), (a_8, .inl (cy 1, 90, .inl f_0)), (a_9, .inl (cy 1, 15, .inl f_1)), (a_10, .inl (cy 1, 1050, .inl f_2)), (a_11, .inl (cy 1, 30, .inl f_3)), (a_12, .inl (cy 1, 240, .inl f_4)), (a_13, .inl (cy 1, 450, .inl f_5)), (a_15, .inl (cy 1, 7200, .inl n9)), (a_16, .inl (cy 1, 3, .inl n10)), (a_17, .inl (cy 1, 3, .inl n11)), (a_18, .inl (cy 1, 8, .inl u.2.2.2))]) [0, 2, 3, 6, 7, 8, 9, 10, 12] [1, 4, 5, 11] (n := 13) (fun _ => rfl) (by decide +kernel) (by decide +kernel) rfl (fun _ => rfl) (wr := [(a_6, .inl (cy 1, 5, .inl (mm_g [i_19, i_20, i_21, i_22, i_23]))), (a_9, .inl (cy 1, 15, .inl f_1)), (a_10, .inl (cy 1, 1050, .inl f_2)), (a_17, .inl (cy 1, 3, .inl n11))]) rfl (fun _ => rfl) (fun _ => @rfl _ ([a_0, a_7, a_8, a_11, a_12, a_13, a_15, a_16, a_18] : List Nat)) ?_
            clear hP hD hS
            clear H locs
            intro v286 u
            obtain ⟨n282, n283, n284, n285⟩ := u
            intro H locs hw (hP : va_P G vwCl [(a_0, .inr (12, [.int 0, .ref a_1, .ref a_2, .ref a_3, .ref a_4, .ref a_5, .int i_3, .int i_4, .int i_5, .int i_6, .int i_7, .long j_0, .int i_8, .int i_9, .int i_10, .int i_11, .ref a_6, .ref a_7, .ref a_8, .ref a_9, .ref a_10, .ref a_11, .ref a_12, .ref a_13, .ref a_14, .ref a_15, .ref a_16, .ref a_17, .ref a_18, .int n282, .int n283, .int n284, .int i_15, .int i_16, .int i_17, .ref a_19, .int i_18, .ref a_20])), (a_6, .inl (cy 1, 5, .inl (mm_g [i_19, i_20, i_21, i_22, i_23]))), (a_7, .inl (cy 1, 30, .inl (mm_g [i_24, i_25, i_26, i_27, i_28, i_29, i_30, i_31, i_32, i_33, i_34, i_35, i_36, i_37, i_38, i_39, i_40, i_41, i_42, i_43, i_44, i_45, i_46, i_47, i_48, i_49, i_50, i_51, i_52, i_53]))), (a_8, .inl (cy 1, 90, .inl f_0)), (a_9, .inl (cy 1, 15, .inl f_1)), (a_10, .inl (cy 1, 1050, .inl f_2)), (a_11, .inl (cy 1, 30, .inl f_3)), (a_12, .inl (cy 1, 240, .inl f_4)), (a_13, .inl (cy 1, 450, .inl f_5)), (a_15, .inl (cy 1, 7200, .inl n9)), (a_16, .inl (cy 1, 3, .inl n10)), (a_17, .inl (cy 1, 3, .inl n11)), (a_18, .inl (cy 1, 8, .inl n285))] H) (hD : va_D A [(a_0, .inr (12, [.int 0, .ref a_1, .ref a_2, .ref a_3, .ref a_4, .ref a_5, .int i_3, .int i_4, .int i_5, .int i_6, .int i_7, .long j_0, .int i_8, .int i_9, .int i_10, .int i_11, .ref a_6, .ref a_7, .ref a_8, .ref a_9, .ref a_10, .ref a_11, .ref a_12, .ref a_13, .ref a_14, .ref a_15, .ref a_16, .ref a_17, .ref a_18, .int n282, .int n283, .int n284, .int i_15, .int i_16, .int i_17, .ref a_19, .int i_18, .ref a_20])), (a_6, .inl (cy 1, 5, .inl (mm_g [i_19, i_20, i_21, i_22, i_23]))), (a_7, .inl (cy 1, 30, .inl (mm_g [i_24, i_25, i_26, i_27, i_28, i_29, i_30, i_31, i_32, i_33, i_34, i_35, i_36, i_37, i_38, i_39, i_40, i_41, i_42, i_43, i_44, i_45, i_46, i_47, i_48, i_49, i_50, i_51, i_52, i_53]))), (a_8, .inl (cy 1, 90, .inl f_0)), (a_9, .inl (cy 1, 15, .inl f_1)), (a_10, .inl (cy 1, 1050, .inl f_2)), (a_11, .inl (cy 1, 30, .inl f_3)), (a_12, .inl (cy 1, 240, .inl f_4)), (a_13, .inl (cy 1, 450, .inl f_5)), (a_15, .inl (cy 1, 7200, .inl n9)), (a_16, .inl (cy 1, 3, .inl n10)), (a_17, .inl (cy 1, 3, .inl n11)), (a_18, .inl (cy 1, 8, .inl n285))]) hS
            obtain ⟨w287, w288, hw⟩ := hw
            have w289 := hw
            refine lv_isub hx hb dX12_takes__75 ?_
            refine lv_topi (fun v290 ev290 => ?_)
            have rv290 : mm_rg v290 (-1009999) 1009999 := mm_sub ev290 w276 w289 (by decide) (by decide)
            have tv290 := mm_subE ev290 w276 w289 (by decide)
            refine lv_iload hx hb dX12_takes__76 (lv_at hl 1 rfl) ?_
            refine lv_icmp_ne (tgt := 84) hx hb dX12_takes__78 (by decide) (fun c291 => ?_) (fun c291 => ?_)
            · obtain ⟨v292, ev292⟩ : ∃ y : Int32, y = x42_5_259 + 1 := ⟨_, rfl⟩
              refine lv_iinc (v := v292) (lv' := [(5, .int v292), (4, .int v24), (3, .int v19), (0, .ref a_0), (1, .int i_0), (2, .int i_1)]) hx hb dX12_takes__84 hl (k := 0) rfl (by rw [ev292]; rfl) (by decide) rfl ?_
              clear hl
              clear ls
              intro ls hl
              have rv292 : mm_rg v292 1 6 := mm_add ev292 q267 mm_k1 (by decide) (by decide)
              have tv292 := mm_addEc ev292 q267 mm_k1 (by decide) (k := 1) (by decide)
              refine lv_goto (tgt := 42) hx hb dX12_takes__87 (by decide) ?_
              exact ih42 v292 n282 n283 n284 n285 (mm_wk rv292 (by decide)) w287 w288 (mm_mu hm42 tv292 (by decide) (rv292).2 (by decide)) H locs hP hD hS ls (lv_sub hl [0, 1, 2, 3, 4, 5] rfl)
            · have q293 := mm_eqI (lo := (-1000000)) (hi := 1009999) c291 rv290 w27 (by decide)
              refine lv_iload hx hb dX12_takes__81 (lv_at hl 0 rfl) ?_
              subst hAe
              rw [hQ]
              exact W.iret (v := x42_5_259) hx hb hr (fun t ht hW => ⟨⟨x42_5_259, (n282, n283, n284, n9, n10, n11, n285), rfl, ⟨w287, w12, w13, w14, w288, (mm_wk q267 (by decide))⟩, by rw [ht]; exact hP, hK.warm hW, hD⟩, hS.F ht⟩) hS.2.2 dX12_takes__83
      exact L42_263 _ 0 n20 n21 n22 n23 (mm_wk mm_k0 (by decide)) w25 w26 (Nat.lt_succ_self _) H locs hP hD hS ls (lv_sub hl [0, 1, 2, 3, 4, 5] rfl)
    · exact mm_eqN c8.symm mm_k0 mm_k1 (by decide)

set_option maxHeartbeats 4000000 in
set_option maxRecDepth 100000 in
theorem M242_X12_greedy (l : Launch) (G : va_G) (cy : Nat → ClassId) (sz : Nat) (a_0 : Nat) (i_0 : Int32) (i_1 : Int32) (i_2 : Int32) (a_1 : Nat) (a_2 : Nat) (a_3 : Nat) (a_4 : Nat) (a_5 : Nat) (i_3 : Int32) (i_4 : Int32) (i_5 : Int32) (i_6 : Int32) (i_7 : Int32) (j_0 : Int64) (i_8 : Int32) (i_9 : Int32) (i_10 : Int32) (i_11 : Int32) (a_6 : Nat) (a_7 : Nat) (a_8 : Nat) (a_9 : Nat) (a_10 : Nat) (a_11 : Nat) (a_12 : Nat) (a_13 : Nat) (a_14 : Nat) (a_15 : Nat) (a_16 : Nat) (a_17 : Nat) (a_18 : Nat) (i_12 : Int32) (i_13 : Int32) (i_14 : Int32) (i_15 : Int32) (i_16 : Int32) (i_17 : Int32) (a_19 : Nat) (i_18 : Int32) (a_20 : Nat) (i_19 : Int32) (i_20 : Int32) (i_21 : Int32) (i_22 : Int32) (i_23 : Int32) (i_24 : Int32) (i_25 : Int32) (i_26 : Int32) (i_27 : Int32) (i_28 : Int32) (i_29 : Int32) (i_30 : Int32) (i_31 : Int32) (i_32 : Int32) (i_33 : Int32) (i_34 : Int32) (i_35 : Int32) (i_36 : Int32) (i_37 : Int32) (i_38 : Int32) (i_39 : Int32) (i_40 : Int32) (i_41 : Int32) (i_42 : Int32) (i_43 : Int32) (i_44 : Int32) (i_45 : Int32) (i_46 : Int32) (i_47 : Int32) (i_48 : Int32) (i_49 : Int32) (i_50 : Int32) (i_51 : Int32) (i_52 : Int32) (i_53 : Int32) (f_0 : Nat → Int32) (f_1 : Nat → Int32) (f_2 : Nat → Int32) (f_3 : Nat → Int32) (f_4 : Nat → Int32) (f_5 : Nat → Int32) (f_6 : Nat → Int32) (f_7 : Nat → Int32) (f_8 : Nat → Int32) (f_9 : Nat → Int32) (h0 : mm_rg i_12 0 8) (h1 : mm_rg i_19 0 601) (h2 : mm_rg i_20 0 601) (h3 : mm_rg i_21 0 601) (h4 : mm_rg i_22 0 601) (h5 : mm_rg i_23 0 601) (h6 : mm_rg i_24 0 10) (h7 : mm_rg i_25 0 99) (h8 : mm_rg i_26 0 9) (h9 : mm_rg i_27 0 3) (h10 : mm_rg i_28 0 6) (h11 : mm_rg i_29 0 30) (h12 : mm_rg i_30 0 10) (h13 : mm_rg i_31 0 99) (h14 : mm_rg i_32 0 9) (h15 : mm_rg i_33 0 3) (h16 : mm_rg i_34 0 6) (h17 : mm_rg i_35 0 30) (h18 : mm_rg i_36 0 10) (h19 : mm_rg i_37 0 99) (h20 : mm_rg i_38 0 9) (h21 : mm_rg i_39 0 3) (h22 : mm_rg i_40 0 6) (h23 : mm_rg i_41 0 30) (h24 : mm_rg i_42 0 10) (h25 : mm_rg i_43 0 99) (h26 : mm_rg i_44 0 9) (h27 : mm_rg i_45 0 3) (h28 : mm_rg i_46 0 6) (h29 : mm_rg i_47 0 30) (h30 : mm_rg i_48 0 10) (h31 : mm_rg i_49 0 99) (h32 : mm_rg i_50 0 9) (h33 : mm_rg i_51 0 3) (h34 : mm_rg i_52 0 6) (h35 : mm_rg i_53 0 30) (h36 : mm_ar f_0 0 99) (h37 : mm_ar f_1 0 7) (h38 : mm_ar f_2 0 9) (h39 : mm_ar f_3 0 8) (h40 : mm_ar f_4 0 9) (h41 : mm_ar f_5 (-1) 99) (h42 : mm_ar f_6 0 9) (h43 : mm_ar f_7 0 210) (h44 : mm_ar f_8 0 210) (h45 : mm_ar f_9 0 9) (h46 : mm_rls f_1 f_2 0 i_26 i_27) (h47 : mm_txs f_3 f_4 0 i_26 i_28) (h48 : mm_acs f_5 0 i_26 i_27 i_29) (h49 : mm_tl i_19 i_27 i_28) (h50 : mm_rls f_1 f_2 1 i_32 i_33) (h51 : mm_txs f_3 f_4 1 i_32 i_34) (h52 : mm_acs f_5 1 i_32 i_33 i_35) (h53 : mm_tl i_20 i_33 i_34) (h54 : mm_rls f_1 f_2 2 i_38 i_39) (h55 : mm_txs f_3 f_4 2 i_38 i_40) (h56 : mm_acs f_5 2 i_38 i_39 i_41) (h57 : mm_tl i_21 i_39 i_40) (h58 : mm_rls f_1 f_2 3 i_44 i_45) (h59 : mm_txs f_3 f_4 3 i_44 i_46) (h60 : mm_acs f_5 3 i_44 i_45 i_47) (h61 : mm_tl i_22 i_45 i_46)  : mm_CI l yX12_greedy (mm_ws yX12_greedy cX12_greedy 9 (some .int)) ({ frames := 14, cells := 0, slots := 0, locals := 300 } : Room) G cy sz [(a_0, .inr (12, [.int i_2, .ref a_1, .ref a_2, .ref a_3, .ref a_4, .ref a_5, .int i_3, .int i_4, .int i_5, .int i_6, .int i_7, .long j_0, .int i_8, .int i_9, .int i_10, .int i_11, .ref a_6, .ref a_7, .ref a_8, .ref a_9, .ref a_10, .ref a_11, .ref a_12, .ref a_13, .ref a_14, .ref a_15, .ref a_16, .ref a_17, .ref a_18, .int i_12, .int i_13, .int i_14, .int i_15, .int i_16, .int i_17, .ref a_19, .int i_18, .ref a_20])), (a_6, .inl (cy 1, 5, .inl (mm_g [i_19, i_20, i_21, i_22, i_23]))), (a_7, .inl (cy 1, 30, .inl (mm_g [i_24, i_25, i_26, i_27, i_28, i_29, i_30, i_31, i_32, i_33, i_34, i_35, i_36, i_37, i_38, i_39, i_40, i_41, i_42, i_43, i_44, i_45, i_46, i_47, i_48, i_49, i_50, i_51, i_52, i_53]))), (a_8, .inl (cy 1, 90, .inl f_0)), (a_9, .inl (cy 1, 15, .inl f_1)), (a_10, .inl (cy 1, 1050, .inl f_2)), (a_11, .inl (cy 1, 30, .inl f_3)), (a_12, .inl (cy 1, 240, .inl f_4)), (a_13, .inl (cy 1, 450, .inl f_5)), (a_15, .inl (cy 1, 7200, .inl f_6)), (a_16, .inl (cy 1, 3, .inl f_7)), (a_17, .inl (cy 1, 3, .inl f_8)), (a_18, .inl (cy 1, 8, .inl f_9))] [.ref a_0, .int i_0, .int i_1] (fun u : Int32 × Int32 × Int32 × (Nat → Int32) × (Nat → Int32) × (Nat → Int32) × (Nat → Int32) => [(a_0, .inr (12, [.int 0, .ref a_1, .ref a_2, .ref a_3, .ref a_4, .ref a_5, .int i_3, .int i_4, .int i_5, .int i_6, .int i_7, .long j_0, .int i_8, .int i_9, .int i_10, .int i_11, .ref a_6, .ref a_7, .ref a_8, .ref a_9, .ref a_10, .ref a_11, .ref a_12, .ref a_13, .ref a_14, .ref a_15, .ref a_16, .ref a_17, .ref a_18, .int u.1, .int u.2.1, .int u.2.2.1, .int i_15, .int i_16, .int i_17, .ref a_19, .int i_18, .ref a_20])), (a_6, .inl (cy 1, 5, .inl (mm_g [i_19, i_20, i_21, i_22, i_23]))), (a_7, .inl (cy 1, 30, .inl (mm_g [i_24, i_25, i_26, i_27, i_28, i_29, i_30, i_31, i_32, i_33, i_34, i_35, i_36, i_37, i_38, i_39, i_40, i_41, i_42, i_43, i_44, i_45, i_46, i_47, i_48, i_49, i_50, i_51, i_52, i_53]))), (a_8, .inl (cy 1, 90, .inl f_0)), (a_9, .inl (cy 1, 15, .inl f_1)), (a_10, .inl (cy 1, 1050, .inl f_2)), (a_11, .inl (cy 1, 30, .inl f_3)), (a_12, .inl (cy 1, 240, .inl f_4)), (a_13, .inl (cy 1, 450, .inl f_5)), (a_15, .inl (cy 1, 7200, .inl u.2.2.2.1)), (a_16, .inl (cy 1, 3, .inl u.2.2.2.2.1)), (a_17, .inl (cy 1, 3, .inl u.2.2.2.2.2.1)), (a_18, .inl (cy 1, 8, .inl u.2.2.2.2.2.2))]) (fun (r : Int32) (u : Int32 × Int32 × Int32 × (Nat → Int32) × (Nat → Int32) × (Nat → Int32) × (Nat → Int32)) => mm_rg u.1 0 8 ∧ mm_ar u.2.2.2.1 0 9 ∧ mm_ar u.2.2.2.2.1 0 210 ∧ mm_ar u.2.2.2.2.2.1 0 210 ∧ mm_ar u.2.2.2.2.2.2 0 9 ∧ True) 0 0 := by
  refine mm_begin (lv := [(0, .ref a_0), (1, .int i_0), (2, .int i_1)]) (by decide) (Nat.le_of_ble_eq_true rfl) rfl ?_
  intro p e s m below meth c A ls R args Q H locs hRe hQ hAe hx hb hr hlocks hml hown hnm hts hsz hA hS hP hK hD hZ hl
  have hRf : R.frames = 14 := by rw [hRe]
  have hRl : R.locals = 300 := by rw [hRe]
  have hRc : R.cells = 0 := by rw [hRe]
  have hRs : R.slots = 0 := by rw [hRe]
  refine lv_aload_n hx hb dX12_greedy_0 rfl (lv_at hl 0 rfl) ?_
  refine lv_iconst (v := 0) hx hb dX12_greedy_1 (by decide) ?_
  refine va_put (D := G) (ci := 12) (v := .int 0) (ty := tyX12 0) (C := RX12) (T := TX12) (N := 38) hx hb hts (mm_i inlX12) tyX12 tyX12_ok nmX12 hown hK.1 hP hD hS 0 rfl rfl 0 (by decide) (mm_h hts mm_w177) (fun _ h9 => h9) rfl (tyX12_ok 0 (by decide)) rfl rfl (Nat.le_of_ble_eq_true rfl) dX12_greedy_2 ?_
  clear hP hD hS
  clear H locs
  intro H locs (hP : va_P G vwCl [(a_0, .inr (12, [.int 0, .ref a_1, .ref a_2, .ref a_3, .ref a_4, .ref a_5, .int i_3, .int i_4, .int i_5, .int i_6, .int i_7, .long j_0, .int i_8, .int i_9, .int i_10, .int i_11, .ref a_6, .ref a_7, .ref a_8, .ref a_9, .ref a_10, .ref a_11, .ref a_12, .ref a_13, .ref a_14, .ref a_15, .ref a_16, .ref a_17, .ref a_18, .int i_12, .int i_13, .int i_14, .int i_15, .int i_16, .int i_17, .ref a_19, .int i_18, .ref a_20])), (a_6, .inl (cy 1, 5, .inl (mm_g [i_19, i_20, i_21, i_22, i_23]))), (a_7, .inl (cy 1, 30, .inl (mm_g [i_24, i_25, i_26, i_27, i_28, i_29, i_30, i_31, i_32, i_33, i_34, i_35, i_36, i_37, i_38, i_39, i_40, i_41, i_42, i_43, i_44, i_45, i_46, i_47, i_48, i_49, i_50, i_51, i_52, i_53]))), (a_8, .inl (cy 1, 90, .inl f_0)), (a_9, .inl (cy 1, 15, .inl f_1)), (a_10, .inl (cy 1, 1050, .inl f_2)), (a_11, .inl (cy 1, 30, .inl f_3)), (a_12, .inl (cy 1, 240, .inl f_4)), (a_13, .inl (cy 1, 450, .inl f_5)), (a_15, .inl (cy 1, 7200, .inl f_6)), (a_16, .inl (cy 1, 3, .inl f_7)), (a_17, .inl (cy 1, 3, .inl f_8)), (a_18, .inl (cy 1, 8, .inl f_9))] H) (hD : va_D A [(a_0, .inr (12, [.int 0, .ref a_1, .ref a_2, .ref a_3, .ref a_4, .ref a_5, .int i_3, .int i_4, .int i_5, .int i_6, .int i_7, .long j_0, .int i_8, .int i_9, .int i_10, .int i_11, .ref a_6, .ref a_7, .ref a_8, .ref a_9, .ref a_10, .ref a_11, .ref a_12, .ref a_13, .ref a_14, .ref a_15, .ref a_16, .ref a_17, .ref a_18, .int i_12, .int i_13, .int i_14, .int i_15, .int i_16, .int i_17, .ref a_19, .int i_18, .ref a_20])), (a_6, .inl (cy 1, 5, .inl (mm_g [i_19, i_20, i_21, i_22, i_23]))), (a_7, .inl (cy 1, 30, .inl (mm_g [i_24, i_25, i_26, i_27, i_28, i_29, i_30, i_31, i_32, i_33, i_34, i_35, i_36, i_37, i_38, i_39, i_40, i_41, i_42, i_43, i_44, i_45, i_46, i_47, i_48, i_49, i_50, i_51, i_52, i_53]))), (a_8, .inl (cy 1, 90, .inl f_0)), (a_9, .inl (cy 1, 15, .inl f_1)), (a_10, .inl (cy 1, 1050, .inl f_2)), (a_11, .inl (cy 1, 30, .inl f_3)), (a_12, .inl (cy 1, 240, .inl f_4)), (a_13, .inl (cy 1, 450, .inl f_5)), (a_15, .inl (cy 1, 7200, .inl f_6)), (a_16, .inl (cy 1, 3, .inl f_7)), (a_17, .inl (cy 1, 3, .inl f_8)), (a_18, .inl (cy 1, 8, .inl f_9))]) hS
  refine lv_aload_n hx hb dX12_greedy_5 rfl (lv_at hl 0 rfl) ?_
  refine lv_iload_n hx hb dX12_greedy_6 rfl (lv_at hl 1 rfl) ?_
  refine lv_iload_n hx hb dX12_greedy_7 rfl (lv_at hl 2 rfl) ?_
  refine mm_finir (va_runV (As := [.int i_0, .int i_1]) (rest := []) ⟨hx, hb, hml, hown, hts⟩ (M104_X12_isThen l G cy H.size a_0 i_0 i_1 0 a_1 a_2 a_3 a_4 a_5 i_3 i_4 i_5 i_6 i_7 j_0 i_8 i_9 i_10 i_11 a_6 a_7 a_8 a_9 a_10 a_11 a_12 a_13 a_14 a_15 a_16 a_17 a_18 i_12 i_13 i_14 i_15 i_16 i_17 a_19 i_18 a_20 i_24 i_25 i_26 i_27 i_28 i_29 i_30 i_31 i_32 i_33 i_34 i_35 i_36 i_37 i_38 i_39 i_40 i_41 i_42 i_43 i_44 i_45 i_46 i_47 i_48 i_49 i_50 i_51 i_52 i_53 h6 h7 h8 h9 h10 h11 h12 h13 h14 h15 h16 h17 h18 h19 h20 h21 h22 h23 h24 h25 h26 h27 h28 h29 h30 h31 h32 h33 h34 h35) (cwV 2 hts (mm_gV mm_w678 mm_w679 mm_w680 mm_w5 mm_w681) rfl rfl rfl hd_X12_isThen ⟨by rw [hRf]; exact Nat.le_of_ble_eq_true rfl, by rw [hRl]; exact Nat.le_of_ble_eq_true rfl⟩) (mm_preV hK hZ hS hA hP hD [0, 2] rfl rfl 0 rfl rfl rfl) rfl rfl hl.1 rfl (lv_room (Nat.le_of_ble_eq_true rfl)) dX12_greedy_8 ⟨by rw [hRc]; exact Nat.le_of_ble_eq_true rfl, by rw [hRs]; exact Nat.le_of_ble_eq_true rfl⟩) hP hD hS hA [0, 2] rfl (fun _ => rfl) ?_
  clear hP hD hS
  clear H locs
  intro v1 _u H locs hw hP hD hS
  rcases hw with rfl | ⟨rfl, w2, w3, w4⟩
  · refine lv_if_ne (tgt := 18) hx hb dX12_greedy_11 (by decide) (fun c5 => ?_) (fun c5 => ?_)
    · exact absurd rfl (mm_ne c5)
    · refine lv_ldcw (v := (-100000)) hx hb hown (mm_h hts mm_w1455) dX12_greedy_14 ?_
      subst hAe
      rw [hQ]
      exact W.iret (v := (-100000)) hx hb hr (fun t ht hW => ⟨⟨(-100000), (i_12, i_13, i_14, f_6, f_7, f_8, f_9), rfl, ⟨h0, h42, h43, h44, h45, trivial⟩, by rw [ht]; exact hP, hK.warm hW, hD⟩, hS.F ht⟩) hS.2.2 dX12_greedy_17
  · have q6 := mm_ltR (lo := 1) w4 w2 h9 (by decide)
    have q7 : mm_rg i_19 1 601 := mm_tl_3 h49 q6 h1 (by decide)
    refine lv_if_ne (tgt := 18) hx hb dX12_greedy_11 (by decide) (fun c8 => ?_) (fun c8 => ?_)
    · refine lv_aload_n hx hb dX12_greedy_18 rfl (lv_at hl 0 rfl) ?_
      refine mm_finv (va_runV (As := []) (rest := []) ⟨hx, hb, hml, hown, hts⟩ (M125_X12_lays l G cy H.size a_0 0 a_1 a_2 a_3 a_4 a_5 i_3 i_4 i_5 i_6 i_7 j_0 i_8 i_9 i_10 i_11 a_6 a_7 a_8 a_9 a_10 a_11 a_12 a_13 a_14 a_15 a_16 a_17 a_18 i_12 i_13 i_14 i_15 i_16 i_17 a_19 i_18 a_20 i_19 i_20 i_21 i_22 i_23 i_24 i_25 i_26 i_27 i_28 i_29 i_30 i_31 i_32 i_33 i_34 i_35 i_36 i_37 i_38 i_39 i_40 i_41 i_42 i_43 i_44 i_45 i_46 i_47 i_48 i_49 i_50 i_51 i_52 i_53 f_1 f_2 f_5 f_6 f_7 f_8 (mm_wk q7 (by decide)) h2 h3 h4 h5 h6 h7 h8 (mm_wk q6 (by decide)) h10 h11 h12 h13 h14 h15 h16 h17 h18 h19 h20 h21 h22 h23 h24 h25 h26 h27 h28 h29 h30 h31 h32 h33 h34 h35 h37 h38 h41 h42 h43 h44 h46 h48 h49 h50 h52 h53 h54 h56 h57 h58 h60 h61) (cwV 0 hts (mm_gV mm_w686 mm_w687 mm_w688 mm_w5 mm_w689) rfl rfl rfl hd_X12_lays ⟨by rw [hRf]; exact Nat.le_of_ble_eq_true rfl, by rw [hRl]; exact Nat.le_of_ble_eq_true rfl⟩) (mm_preV hK hZ hS hA hP hD [0, 1, 2, 4, 5, 8, 9, 10, 11] rfl rfl 0 rfl rfl rfl) rfl rfl hl.1 rfl (lv_room (Nat.le_of_ble_eq_true rfl)) dX12_greedy_19 ⟨by rw [hRc]; exact Nat.le_of_ble_eq_true rfl, by rw [hRs]; exact Nat.le_of_ble_eq_true rfl⟩) hP hD hS hA (fun u : (Nat → Int32) × (Nat → Int32) × (Nat → Int32) => [(a_0, .inr (12, [.int 0, .ref a_1, .ref a_2, .ref a_3, .ref a_4, .ref a_5, .int i_3, .int i_4, .int i_5, .int i_6, .int i_7, .long j_0, .int i_8, .int i_9, .int i_10, .int i_11, .ref a_6, .ref a_7, .ref a_8, .ref a_9, .ref a_10, .ref a_11, .ref a_12, .ref a_13, .ref a_14, .ref a_15, .ref a_16, .ref a_17, .ref a_18, .int i_12, .int i_13, .int i_14, .int i_15, .int i_16, .int i_17, .ref a_19, .int i_18, .ref a_20])), (a_6, .inl (cy 1, 5, .inl (mm_g [i_19, i_20, i_21, i_22, i_23]))), (a_7, .inl (cy 1, 30, .inl (mm_g [i_24, i_25, i_26, i_27, i_28, i_29, i_30, i_31, i_32, i_33, i_34, i_35, i_36, i_37, i_38, i_39, i_40, i_41, i_42, i_43, i_44, i_45, i_46, i_47, i_48, i_49, i_50, i_51, i_52, i_53]))), (a_8, .inl (cy 1, 90, .inl f_0)), (a_9, .inl (cy 1, 15, .inl f_1)), (a_10, .inl (cy 1, 1050, .inl f_2)), (a_11, .inl (cy 1, 30, .inl f_3)), (a_12, .inl (cy 1, 240, .inl f_4)), (a_13, .inl (cy 1, 450, .inl f_5)), (a_15, .inl (cy 1, 7200, .inl u.1)), (a_16, .inl (cy 1, 3, .inl u.2.1)), (a_17, .inl (cy 1, 3, .inl u.2.2)), (a_18, .inl (cy 1, 8, .inl f_9))]) [0, 1, 2, 4, 5, 8, 9, 10, 11] [3, 6, 7, 12] (n := 13) (fun _ => rfl) (by decide +kernel) (by decide +kernel) rfl (fun _ => rfl) (wr := [(a_8, .inl (cy 1, 90, .inl f_0)), (a_11, .inl (cy 1, 30, .inl f_3)), (a_12, .inl (cy 1, 240, .inl f_4)), (a_18, .inl (cy 1, 8, .inl f_9))]) rfl (fun _ => rfl) (fun _ => @rfl _ ([a_0, a_6, a_7, a_9, a_10, a_13, a_15, a_16, a_17] : List Nat)) ?_
      clear hP hD hS
      clear H locs
      intro u
      obtain ⟨n9, n10, n11⟩ := u
      intro H locs hw (hP : va_P G vwCl [(a_0, .inr (12, [.int 0, .ref a_1, .ref a_2, .ref a_3, .ref a_4, .ref a_5, .int i_3, .int i_4, .int i_5, .int i_6, .int i_7, .long j_0, .int i_8, .int i_9, .int i_10, .int i_11, .ref a_6, .ref a_7, .ref a_8, .ref a_9, .ref a_10, .ref a_11, .ref a_12, .ref a_13, .ref a_14, .ref a_15, .ref a_16, .ref a_17, .ref a_18, .int i_12, .int i_13, .int i_14, .int i_15, .int i_16, .int i_17, .ref a_19, .int i_18, .ref a_20])), (a_6, .inl (cy 1, 5, .inl (mm_g [i_19, i_20, i_21, i_22, i_23]))), (a_7, .inl (cy 1, 30, .inl (mm_g [i_24, i_25, i_26, i_27, i_28, i_29, i_30, i_31, i_32, i_33, i_34, i_35, i_36, i_37, i_38, i_39, i_40, i_41, i_42, i_43, i_44, i_45, i_46, i_47, i_48, i_49, i_50, i_51, i_52, i_53]))), (a_8, .inl (cy 1, 90, .inl f_0)), (a_9, .inl (cy 1, 15, .inl f_1)), (a_10, .inl (cy 1, 1050, .inl f_2)), (a_11, .inl (cy 1, 30, .inl f_3)), (a_12, .inl (cy 1, 240, .inl f_4)), (a_13, .inl (cy 1, 450, .inl f_5)), (a_15, .inl (cy 1, 7200, .inl n9)), (a_16, .inl (cy 1, 3, .inl n10)), (a_17, .inl (cy 1, 3, .inl n11)), (a_18, .inl (cy 1, 8, .inl f_9))] H) (hD : va_D A [(a_0, .inr (12, [.int 0, .ref a_1, .ref a_2, .ref a_3, .ref a_4, .ref a_5, .int i_3, .int i_4, .int i_5, .int i_6, .int i_7, .long j_0, .int i_8, .int i_9, .int i_10, .int i_11, .ref a_6, .ref a_7, .ref a_8, .ref a_9, .ref a_10, .ref a_11, .ref a_12, .ref a_13, .ref a_14, .ref a_15, .ref a_16, .ref a_17, .ref a_18, .int i_12, .int i_13, .int i_14, .int i_15, .int i_16, .int i_17, .ref a_19, .int i_18, .ref a_20])), (a_6, .inl (cy 1, 5, .inl (mm_g [i_19, i_20, i_21, i_22, i_23]))), (a_7, .inl (cy 1, 30, .inl (mm_g [i_24, i_25, i_26, i_27, i_28, i_29, i_30, i_31, i_32, i_33, i_34, i_35, i_36, i_37, i_38, i_39, i_40, i_41, i_42, i_43, i_44, i_45, i_46, i_47, i_48, i_49, i_50, i_51, i_52, i_53]))), (a_8, .inl (cy 1, 90, .inl f_0)), (a_9, .inl (cy 1, 15, .inl f_1)), (a_10, .inl (cy 1, 1050, .inl f_2)), (a_11, .inl (cy 1, 30, .inl f_3)), (a_12, .inl (cy 1, 240, .inl f_4)), (a_13, .inl (cy 1, 450, .inl f_5)), (a_15, .inl (cy 1, 7200, .inl n9)), (a_16, .inl (cy 1, 3, .inl n10)), (a_17, .inl (cy 1, 3, .inl n11)), (a_18, .inl (cy 1, 8, .inl f_9))]) hS
      obtain ⟨w12, w13, w14, w15, w16⟩ := hw
      replace w15 : mm_laid n10 n11 i_27 := w15
      replace w16 : mm_tab n9 n10 i_26 i_27 := w16
      refine lv_iconst (v := 1) hx hb dX12_greedy_22 (by decide) ?_
      refine lv_aload_n hx hb dX12_greedy_23 rfl (lv_at hl 0 rfl) ?_
      refine mm_finir (va_runV (As := []) (rest := [.int 1]) ⟨hx, hb, hml, hown, hts⟩ (M95_X12_texts l G cy H.size a_0 0 a_1 a_2 a_3 a_4 a_5 i_3 i_4 i_5 i_6 i_7 j_0 i_8 i_9 i_10 i_11 a_6 a_7 a_8 a_9 a_10 a_11 a_12 a_13 a_14 a_15 a_16 a_17 a_18 i_12 i_13 i_14 i_15 i_16 i_17 a_19 i_18 a_20 i_24 i_25 i_26 i_27 i_28 i_29 i_30 i_31 i_32 i_33 i_34 i_35 i_36 i_37 i_38 i_39 i_40 i_41 i_42 i_43 i_44 i_45 i_46 i_47 i_48 i_49 i_50 i_51 i_52 i_53 h6 h7 h8 (mm_wk q6 (by decide)) h10 h11 h12 h13 h14 h15 h16 h17 h18 h19 h20 h21 h22 h23 h24 h25 h26 h27 h28 h29 h30 h31 h32 h33 h34 h35) (cwV 0 hts (mm_gV mm_w617 mm_w618 mm_w619 mm_w5 mm_w620) rfl rfl rfl hd_X12_texts ⟨by rw [hRf]; exact Nat.le_of_ble_eq_true rfl, by rw [hRl]; exact Nat.le_of_ble_eq_true rfl⟩) (mm_preV hK hZ hS hA hP hD [0, 2] rfl rfl 0 rfl rfl rfl) rfl rfl hl.1 rfl (lv_room (Nat.le_of_ble_eq_true rfl)) dX12_greedy_24 ⟨by rw [hRc]; exact Nat.le_of_ble_eq_true rfl, by rw [hRs]; exact Nat.le_of_ble_eq_true rfl⟩) hP hD hS hA [0, 2] rfl (fun _ => rfl) ?_
      clear hP hD hS
      clear H locs
      intro v17 _u H locs hw hP hD hS
      subst hw
      refine lv_ishl hx hb dX12_greedy_27 ?_
      refine lv_topi (fun v18 ev18 => ?_)
      have rv18 : mm_rg v18 1 64 := mm_shl1 ev18 h10 (by decide)
      refine lv_iconst (v := 1) hx hb dX12_greedy_28 (by decide) ?_
      refine lv_isub hx hb dX12_greedy_29 ?_
      refine lv_topi (fun v19 ev19 => ?_)
      have rv19 : mm_rg v19 0 63 := mm_sub ev19 rv18 mm_k1 (by decide) (by decide)
      have tv19 := mm_subEc ev19 rv18 mm_k1 (by decide) (k := (-1)) (by decide)
      refine lv_istore_n (lv' := [(3, .int v19), (0, .ref a_0), (1, .int i_0), (2, .int i_1)]) hx hb dX12_greedy_30 rfl hl (by decide) rfl ?_
      clear hl
      clear ls
      intro ls hl
      refine lv_iconst (v := 0) hx hb dX12_greedy_31 (by decide) ?_
      refine lv_istore (lv' := [(4, .int 0), (3, .int v19), (0, .ref a_0), (1, .int i_0), (2, .int i_1)]) hx hb dX12_greedy_32 hl (by decide) rfl ?_
      clear hl
      clear ls
      intro ls hl
      refine lv_iconst (v := 1) hx hb dX12_greedy_34 (by decide) ?_
      refine lv_istore (lv' := [(5, .int 1), (4, .int 0), (3, .int v19), (0, .ref a_0), (1, .int i_0), (2, .int i_1)]) hx hb dX12_greedy_35 hl (by decide) rfl ?_
      clear hl
      clear ls
      intro ls hl
      refine lv_iconst (v := 0) hx hb dX12_greedy_37 (by decide) ?_
      refine lv_istore (lv' := [(6, .int 0), (5, .int 1), (4, .int 0), (3, .int v19), (0, .ref a_0), (1, .int i_0), (2, .int i_1)]) hx hb dX12_greedy_38 hl (by decide) rfl ?_
      clear hl
      clear ls
      intro ls hl
      have L40_1625 : ∀ (n : Nat) (x40_6_1616 : Int32) (x40_5_1617 : Int32) (x40_4_1618 : Int32) (x40_3_1619 : Int32) (y40_0_29_1620 : Int32) (y40_0_30_1621 : Int32) (y40_0_31_1622 : Int32) (z40_12_1623 : Nat → Int32), mm_rg x40_6_1616 0 6 → mm_rg x40_3_1619 0 63 → mm_rg y40_0_29_1620 0 8 → mm_ar z40_12_1623 0 9 → mm_pck x40_6_1616 x40_3_1619 → mm_stx x40_3_1619 i_28 → (x40_3_1619 : Int32).toInt.toNat < n → ∀ (H : Heap) (locs : List Loc), va_P G vwCl [(a_0, .inr (12, [.int 0, .ref a_1, .ref a_2, .ref a_3, .ref a_4, .ref a_5, .int i_3, .int i_4, .int i_5, .int i_6, .int i_7, .long j_0, .int i_8, .int i_9, .int i_10, .int i_11, .ref a_6, .ref a_7, .ref a_8, .ref a_9, .ref a_10, .ref a_11, .ref a_12, .ref a_13, .ref a_14, .ref a_15, .ref a_16, .ref a_17, .ref a_18, .int y40_0_29_1620, .int y40_0_30_1621, .int y40_0_31_1622, .int i_15, .int i_16, .int i_17, .ref a_19, .int i_18, .ref a_20])), (a_6, .inl (cy 1, 5, .inl (mm_g [i_19, i_20, i_21, i_22, i_23]))), (a_7, .inl (cy 1, 30, .inl (mm_g [i_24, i_25, i_26, i_27, i_28, i_29, i_30, i_31, i_32, i_33, i_34, i_35, i_36, i_37, i_38, i_39, i_40, i_41, i_42, i_43, i_44, i_45, i_46, i_47, i_48, i_49, i_50, i_51, i_52, i_53]))), (a_8, .inl (cy 1, 90, .inl f_0)), (a_9, .inl (cy 1, 15, .inl f_1)), (a_10, .inl (cy 1, 1050, .inl f_2)), (a_11, .inl (cy 1, 30, .inl f_3)), (a_12, .inl (cy 1, 240, .inl f_4)), (a_13, .inl (cy 1, 450, .inl f_5)), (a_15, .inl (cy 1, 7200, .inl n9)), (a_16, .inl (cy 1, 3, .inl n10)), (a_17, .inl (cy 1, 3, .inl n11)), (a_18, .inl (cy 1, 8, .inl z40_12_1623))] H → va_D A [(a_0, .inr (12, [.int 0, .ref a_1, .ref a_2, .ref a_3, .ref a_4, .ref a_5, .int i_3, .int i_4, .int i_5, .int i_6, .int i_7, .long j_0, .int i_8, .int i_9, .int i_10, .int i_11, .ref a_6, .ref a_7, .ref a_8, .ref a_9, .ref a_10, .ref a_11, .ref a_12, .ref a_13, .ref a_14, .ref a_15, .ref a_16, .ref a_17, .ref a_18, .int y40_0_29_1620, .int y40_0_30_1621, .int y40_0_31_1622, .int i_15, .int i_16, .int i_17, .ref a_19, .int i_18, .ref a_20])), (a_6, .inl (cy 1, 5, .inl (mm_g [i_19, i_20, i_21, i_22, i_23]))), (a_7, .inl (cy 1, 30, .inl (mm_g [i_24, i_25, i_26, i_27, i_28, i_29, i_30, i_31, i_32, i_33, i_34, i_35, i_36, i_37, i_38, i_39, i_40, i_41, i_42, i_43, i_44, i_45, i_46, i_47, i_48, i_49, i_50, i_51, i_52, i_53]))), (a_8, .inl (cy 1, 90, .inl f_0)), (a_9, .inl (cy 1, 15, .inl f_1)), (a_10, .inl (cy 1, 1050, .inl f_2)), (a_11, .inl (cy 1, 30, .inl f_3)), (a_12, .inl (cy 1, 240, .inl f_4)), (a_13, .inl (cy 1, 450, .inl f_5)), (a_15, .inl (cy 1, 7200, .inl n9)), (a_16, .inl (cy 1, 3, .inl n10)), (a_17, .inl (cy 1, 3, .inl n11)), (a_18, .inl (cy 1, 8, .inl z40_12_1623))] → va_S A s.heap H locs → ∀ (ls : Array Slot), lv_has ls 9 [(6, .int x40_6_1616), (5, .int x40_5_1617), (4, .int x40_4_1618), (3, .int x40_3_1619), (0, .ref a_0), (1, .int i_0), (2, .int i_1)] → W p l e R s m args below meth c H locs 0 0 Q (F0 m 40 ls []) := by
        intro n
        induction n with
        | zero => intro x40_6_1616 x40_5_1617 x40_4_1618 x40_3_1619 y40_0_29_1620 y40_0_30_1621 y40_0_31_1622 z40_12_1623 rx40_6_1616 rx40_3_1619 ry40_0_29_1620 rz40_12_1623 w1624 w1625 hm; exact absurd hm (Nat.not_lt_zero _)
        | succ n ih40 =>
          intro x40_6_1616 x40_5_1617 x40_4_1618 x40_3_1619 y40_0_29_1620 y40_0_30_1621 y40_0_31_1622 z40_12_1623 rx40_6_1616 rx40_3_1619 ry40_0_29_1620 rz40_12_1623 w1624 w1625 hm40 H locs hP hD hS ls hl
          refine lv_iload_n hx hb dX12_greedy_40 rfl (lv_at hl 3 rfl) ?_
          refine lv_if_eq (tgt := 148) hx hb dX12_greedy_41 (by decide) (fun c1627 => ?_) (fun c1627 => ?_)
          · have q1628 := mm_eqI (lo := 0) (hi := 0) c1627 rx40_3_1619 mm_k0 (by decide)
            refine lv_iload hx hb dX12_greedy_148 (lv_at hl 2 rfl) ?_
            subst hAe
            rw [hQ]
            exact W.iret (v := x40_4_1618) hx hb hr (fun t ht hW => ⟨⟨x40_4_1618, (y40_0_29_1620, y40_0_30_1621, y40_0_31_1622, n9, n10, n11, z40_12_1623), rfl, ⟨ry40_0_29_1620, w12, w13, w14, rz40_12_1623, trivial⟩, by rw [ht]; exact hP, hK.warm hW, hD⟩, hS.F ht⟩) hS.2.2 dX12_greedy_150
          · have q1629 := mm_neL (lo := 1) (mm_ne c1627) rx40_3_1619 mm_k0 (by decide) (by decide)
            have q1630 : mm_rg x40_6_1616 0 5 := mm_pck_k w1624 rx40_6_1616 q1629 (by decide)
            refine lv_iconst (v := (-1)) hx hb dX12_greedy_44 (by decide) ?_
            refine lv_istore (lv' := [(7, .int (-1)), (6, .int x40_6_1616), (5, .int x40_5_1617), (4, .int x40_4_1618), (3, .int x40_3_1619), (0, .ref a_0), (1, .int i_0), (2, .int i_1)]) hx hb dX12_greedy_45 hl (by decide) rfl ?_
            clear hl
            clear ls
            intro ls hl
            refine lv_iconst (v := 0) hx hb dX12_greedy_47 (by decide) ?_
            refine lv_istore (lv' := [(8, .int 0), (7, .int (-1)), (6, .int x40_6_1616), (5, .int x40_5_1617), (4, .int x40_4_1618), (3, .int x40_3_1619), (0, .ref a_0), (1, .int i_0), (2, .int i_1)]) hx hb dX12_greedy_48 hl (by decide) rfl ?_
            clear hl
            clear ls
            intro ls hl
            have L50_1967 : ∀ (n : Nat) (x50_8_1961 : Int32) (x50_7_1962 : Int32) (y50_0_29_1963 : Int32) (y50_0_30_1964 : Int32) (y50_0_31_1965 : Int32) (z50_12_1966 : Nat → Int32), mm_rg x50_8_1961 0 6 → mm_rg x50_7_1962 (-1) 5 → mm_rg y50_0_29_1963 0 8 → mm_ar z50_12_1966 0 9 → mm_gb x40_3_1619 i_28 x50_8_1961 x50_7_1962 → (6 - x50_8_1961.toInt).toNat < n → ∀ (H : Heap) (locs : List Loc), va_P G vwCl [(a_0, .inr (12, [.int 0, .ref a_1, .ref a_2, .ref a_3, .ref a_4, .ref a_5, .int i_3, .int i_4, .int i_5, .int i_6, .int i_7, .long j_0, .int i_8, .int i_9, .int i_10, .int i_11, .ref a_6, .ref a_7, .ref a_8, .ref a_9, .ref a_10, .ref a_11, .ref a_12, .ref a_13, .ref a_14, .ref a_15, .ref a_16, .ref a_17, .ref a_18, .int y50_0_29_1963, .int y50_0_30_1964, .int y50_0_31_1965, .int i_15, .int i_16, .int i_17, .ref a_19, .int i_18, .ref a_20])), (a_6, .inl (cy 1, 5, .inl (mm_g [i_19, i_20, i_21, i_22, i_23]))), (a_7, .inl (cy 1, 30, .inl (mm_g [i_24, i_25, i_26, i_27, i_28, i_29, i_30, i_31, i_32, i_33, i_34, i_35, i_36, i_37, i_38, i_39, i_40, i_41, i_42, i_43, i_44, i_45, i_46, i_47, i_48, i_49, i_50, i_51, i_52, i_53]))), (a_8, .inl (cy 1, 90, .inl f_0)), (a_9, .inl (cy 1, 15, .inl f_1)), (a_10, .inl (cy 1, 1050, .inl f_2)), (a_11, .inl (cy 1, 30, .inl f_3)), (a_12, .inl (cy 1, 240, .inl f_4)), (a_13, .inl (cy 1, 450, .inl f_5)), (a_15, .inl (cy 1, 7200, .inl n9)), (a_16, .inl (cy 1, 3, .inl n10)), (a_17, .inl (cy 1, 3, .inl n11)), (a_18, .inl (cy 1, 8, .inl z50_12_1966))] H → va_D A [(a_0, .inr (12, [.int 0, .ref a_1, .ref a_2, .ref a_3, .ref a_4, .ref a_5, .int i_3, .int i_4, .int i_5, .int i_6, .int i_7, .long j_0, .int i_8, .int i_9, .int i_10, .int i_11, .ref a_6, .ref a_7, .ref a_8, .ref a_9, .ref a_10, .ref a_11, .ref a_12, .ref a_13, .ref a_14, .ref a_15, .ref a_16, .ref a_17, .ref a_18, .int y50_0_29_1963, .int y50_0_30_1964, .int y50_0_31_1965, .int i_15, .int i_16, .int i_17, .ref a_19, .int i_18, .ref a_20])), (a_6, .inl (cy 1, 5, .inl (mm_g [i_19, i_20, i_21, i_22, i_23]))), (a_7, .inl (cy 1, 30, .inl (mm_g [i_24, i_25, i_26, i_27, i_28, i_29, i_30, i_31, i_32, i_33, i_34, i_35, i_36, i_37, i_38, i_39, i_40, i_41, i_42, i_43, i_44, i_45, i_46, i_47, i_48, i_49, i_50, i_51, i_52, i_53]))), (a_8, .inl (cy 1, 90, .inl f_0)), (a_9, .inl (cy 1, 15, .inl f_1)), (a_10, .inl (cy 1, 1050, .inl f_2)), (a_11, .inl (cy 1, 30, .inl f_3)), (a_12, .inl (cy 1, 240, .inl f_4)), (a_13, .inl (cy 1, 450, .inl f_5)), (a_15, .inl (cy 1, 7200, .inl n9)), (a_16, .inl (cy 1, 3, .inl n10)), (a_17, .inl (cy 1, 3, .inl n11)), (a_18, .inl (cy 1, 8, .inl z50_12_1966))] → va_S A s.heap H locs → ∀ (ls : Array Slot), lv_has ls 9 [(8, .int x50_8_1961), (7, .int x50_7_1962), (6, .int x40_6_1616), (5, .int x40_5_1617), (4, .int x40_4_1618), (3, .int x40_3_1619), (0, .ref a_0), (1, .int i_0), (2, .int i_1)] → W p l e R s m args below meth c H locs 0 0 Q (F0 m 50 ls []) := by
              intro n
              induction n with
              | zero => intro x50_8_1961 x50_7_1962 y50_0_29_1963 y50_0_30_1964 y50_0_31_1965 z50_12_1966 rx50_8_1961 rx50_7_1962 ry50_0_29_1963 rz50_12_1966 w1967 hm; exact absurd hm (Nat.not_lt_zero _)
              | succ n ih50 =>
                intro x50_8_1961 x50_7_1962 y50_0_29_1963 y50_0_30_1964 y50_0_31_1965 z50_12_1966 rx50_8_1961 rx50_7_1962 ry50_0_29_1963 rz50_12_1966 w1967 hm50 H locs hP hD hS ls hl
                refine lv_iload hx hb dX12_greedy_50 (lv_at hl 0 rfl) ?_
                refine lv_aload_n hx hb dX12_greedy_52 rfl (lv_at hl 6 rfl) ?_
                refine mm_finir (va_runV (As := []) (rest := [.int x50_8_1961]) ⟨hx, hb, hml, hown, hts⟩ (M95_X12_texts l G cy H.size a_0 0 a_1 a_2 a_3 a_4 a_5 i_3 i_4 i_5 i_6 i_7 j_0 i_8 i_9 i_10 i_11 a_6 a_7 a_8 a_9 a_10 a_11 a_12 a_13 a_14 a_15 a_16 a_17 a_18 y50_0_29_1963 y50_0_30_1964 y50_0_31_1965 i_15 i_16 i_17 a_19 i_18 a_20 i_24 i_25 i_26 i_27 i_28 i_29 i_30 i_31 i_32 i_33 i_34 i_35 i_36 i_37 i_38 i_39 i_40 i_41 i_42 i_43 i_44 i_45 i_46 i_47 i_48 i_49 i_50 i_51 i_52 i_53 h6 h7 h8 (mm_wk q6 (by decide)) h10 h11 h12 h13 h14 h15 h16 h17 h18 h19 h20 h21 h22 h23 h24 h25 h26 h27 h28 h29 h30 h31 h32 h33 h34 h35) (cwV 0 hts (mm_gV mm_w617 mm_w618 mm_w619 mm_w5 mm_w620) rfl rfl rfl hd_X12_texts ⟨by rw [hRf]; exact Nat.le_of_ble_eq_true rfl, by rw [hRl]; exact Nat.le_of_ble_eq_true rfl⟩) (mm_preV hK hZ hS hA hP hD [0, 2] rfl rfl 0 rfl rfl rfl) rfl rfl hl.1 rfl (lv_room (Nat.le_of_ble_eq_true rfl)) dX12_greedy_53 ⟨by rw [hRc]; exact Nat.le_of_ble_eq_true rfl, by rw [hRs]; exact Nat.le_of_ble_eq_true rfl⟩) hP hD hS hA [0, 2] rfl (fun _ => rfl) ?_
                clear hP hD hS
                clear H locs
                intro v1969 _u H locs hw hP hD hS
                subst hw
                refine lv_icmp_ge (tgt := 109) hx hb dX12_greedy_56 (by decide) (fun c1970 => ?_) (fun c1970 => ?_)
                · have q1971 : mm_rg x50_7_1962 0 5 := mm_gb_ex w1967 w1625 (mm_le c1970) q1629 h10 rx50_7_1962 (by decide)
                  refine lv_iload hx hb dX12_greedy_109 (lv_at hl 4 rfl) ?_
                  refine lv_iload hx hb dX12_greedy_111 (lv_at hl 3 rfl) ?_
                  refine lv_aload_n hx hb dX12_greedy_113 rfl (lv_at hl 6 rfl) ?_
                  refine lv_iload_n hx hb dX12_greedy_114 rfl (lv_at hl 7 rfl) ?_
                  refine lv_iload_n hx hb dX12_greedy_115 rfl (lv_at hl 8 rfl) ?_
                  refine lv_iload hx hb dX12_greedy_116 (lv_at hl 2 rfl) ?_
                  refine lv_iadd hx hb dX12_greedy_118 ?_
                  refine lv_topi (fun v1972 ev1972 => ?_)
                  have rv1972 : mm_rg v1972 0 1000000005 := mm_add ev1972 w3 q1630 (by decide) (by decide)
                  have tv1972 := mm_addE ev1972 w3 q1630 (by decide)
                  refine lv_iload hx hb dX12_greedy_119 (lv_at hl 1 rfl) ?_
                  refine mm_fini (va_runV (As := [.int i_0, .int v1972, .int x50_7_1962]) (rest := [.int x40_5_1617, .int x40_4_1618]) ⟨hx, hb, hml, hown, hts⟩ (M141_X12_reads l G cy H.size a_0 i_0 v1972 x50_7_1962 0 a_1 a_2 a_3 a_4 a_5 i_3 i_4 i_5 i_6 i_7 j_0 i_8 i_9 i_10 i_11 a_6 a_7 a_8 a_9 a_10 a_11 a_12 a_13 a_14 a_15 a_16 a_17 a_18 y50_0_29_1963 y50_0_30_1964 y50_0_31_1965 i_15 i_16 i_17 a_19 i_18 a_20 i_24 i_25 i_26 i_27 i_28 i_29 i_30 i_31 i_32 i_33 i_34 i_35 i_36 i_37 i_38 i_39 i_40 i_41 i_42 i_43 i_44 i_45 i_46 i_47 i_48 i_49 i_50 i_51 i_52 i_53 f_0 f_3 f_4 f_5 n9 n10 z50_12_1966 w2 (mm_wk rv1972 (by decide)) q1971 ry50_0_29_1963 h6 h7 h8 (mm_wk q6 (by decide)) h10 h11 h12 h13 h14 h15 h16 h17 h18 h19 h20 h21 h22 h23 h24 h25 h26 h27 h28 h29 h30 h31 h32 h33 h34 h35 h36 h39 h40 h41 w12 w13 rz50_12_1966 h47 h48 h51 h52 h55 h56 h59 h60 (mm_f1_l w15 w4 w2 (by decide))) (cwV 3 hts (mm_gV mm_w852 mm_w853 mm_w854 mm_w5 mm_w855) rfl rfl rfl hd_X12_reads ⟨by rw [hRf]; exact Nat.le_of_ble_eq_true rfl, by rw [hRl]; exact Nat.le_of_ble_eq_true rfl⟩) (mm_preV hK hZ hS hA hP hD [0, 2, 3, 6, 7, 8, 9, 10, 12] rfl rfl 0 rfl rfl rfl) rfl rfl hl.1 rfl (lv_room (Nat.le_of_ble_eq_true rfl)) dX12_greedy_121 ⟨by rw [hRc]; exact Nat.le_of_ble_eq_true rfl, by rw [hRs]; exact Nat.le_of_ble_eq_true rfl⟩) hP hD hS hA (fun u : Int32 × Int32 × Int32 × (Nat → Int32) => [(a_0, .inr (12, [.int 0, .ref a_1, .ref a_2, .ref a_3, .ref a_4, .ref a_5, .int i_3, .int i_4, .int i_5, .int i_6, .int i_7, .long j_0, .int i_8, .int i_9, .int i_10, .int i_11, .ref a_6, .ref a_7, .ref a_8, .ref a_9, .ref a_10, .ref a_11, .ref a_12, .ref a_13, .ref a_14, .ref a_15, .ref a_16, .ref a_17, .ref a_18, .int u.1, .int u.2.1, .int u.2.2.1, .int i_15, .int i_16, .int i_17, .ref a_19, .int i_18, .ref a_20])), (a_6, .inl (cy 1, 5, .inl (mm_g [i_19, i_20, i_21, i_22, i_23]))), (a_7, .inl (cy 1, 30, .inl (mm_g [i_24, i_25, i_26, i_27, i_28, i_29, i_30, i_31, i_32, i_33, i_34, i_35, i_36, i_37, i_38, i_39, i_40, i_41, i_42, i_43, i_44, i_45, i_46, i_47, i_48, i_49, i_50, i_51, i_52, i_53]))), (a_8, .inl (cy 1, 90, .inl f_0)), (a_9, .inl (cy 1, 15, .inl f_1)), (a_10, .inl (cy 1, 1050, .inl f_2)), (a_11, .inl (cy 1, 30, .inl f_3)), (a_12, .inl (cy 1, 240, .inl f_4)), (a_13, .inl (cy 1, 450, .inl f_5)), (a_15, .inl (cy 1, 7200, .inl n9)), (a_16, .inl (cy 1, 3, .inl n10)), (a_17, .inl (cy 1, 3, .inl n11)), (a_18, .inl (cy 1, 8, .inl u.2.2.2))]) [0, 2, 3, 6, 7, 8, 9, 10, 12] [1, 4, 5, 11] (n := 13) (fun _ => rfl) (by decide +kernel) (by decide +kernel) rfl (fun _ => rfl) (wr := [(a_6, .inl (cy 1, 5, .inl (mm_g [i_19, i_20, i_21, i_22, i_23]))), (a_9, .inl (cy 1, 15, .inl f_1)), (a_10, .inl (cy 1, 1050, .inl f_2)), (a_17, .inl (cy 1, 3, .inl n11))]) rfl (fun _ => rfl) (fun _ => @rfl _ ([a_0, a_7, a_8, a_11, a_12, a_13, a_15, a_16, a_18] : List Nat)) ?_
                  clear hP hD hS
                  clear H locs
                  intro v1977 u
                  obtain ⟨n1973, n1974, n1975, n1976⟩ := u
                  intro H locs hw (hP : va_P G vwCl [(a_0, .inr (12, [.int 0, .ref a_1, .ref a_2, .ref a_3, .ref a_4, .ref a_5, .int i_3, .int i_4, .int i_5, .int i_6, .int i_7, .long j_0, .int i_8, .int i_9, .int i_10, .int i_11, .ref a_6, .ref a_7, .ref a_8, .ref a_9, .ref a_10, .ref a_11, .ref a_12, .ref a_13, .ref a_14, .ref a_15, .ref a_16, .ref a_17, .ref a_18, .int n1973, .int n1974, .int n1975, .int i_15, .int i_16, .int i_17, .ref a_19, .int i_18, .ref a_20])), (a_6, .inl (cy 1, 5, .inl (mm_g [i_19, i_20, i_21, i_22, i_23]))), (a_7, .inl (cy 1, 30, .inl (mm_g [i_24, i_25, i_26, i_27, i_28, i_29, i_30, i_31, i_32, i_33, i_34, i_35, i_36, i_37, i_38, i_39, i_40, i_41, i_42, i_43, i_44, i_45, i_46, i_47, i_48, i_49, i_50, i_51, i_52, i_53]))), (a_8, .inl (cy 1, 90, .inl f_0)), (a_9, .inl (cy 1, 15, .inl f_1)), (a_10, .inl (cy 1, 1050, .inl f_2)), (a_11, .inl (cy 1, 30, .inl f_3)), (a_12, .inl (cy 1, 240, .inl f_4)), (a_13, .inl (cy 1, 450, .inl f_5)), (a_15, .inl (cy 1, 7200, .inl n9)), (a_16, .inl (cy 1, 3, .inl n10)), (a_17, .inl (cy 1, 3, .inl n11)), (a_18, .inl (cy 1, 8, .inl n1976))] H) (hD : va_D A [(a_0, .inr (12, [.int 0, .ref a_1, .ref a_2, .ref a_3, .ref a_4, .ref a_5, .int i_3, .int i_4, .int i_5, .int i_6, .int i_7, .long j_0, .int i_8, .int i_9, .int i_10, .int i_11, .ref a_6, .ref a_7, .ref a_8, .ref a_9, .ref a_10, .ref a_11, .ref a_12, .ref a_13, .ref a_14, .ref a_15, .ref a_16, .ref a_17, .ref a_18, .int n1973, .int n1974, .int n1975, .int i_15, .int i_16, .int i_17, .ref a_19, .int i_18, .ref a_20])), (a_6, .inl (cy 1, 5, .inl (mm_g [i_19, i_20, i_21, i_22, i_23]))), (a_7, .inl (cy 1, 30, .inl (mm_g [i_24, i_25, i_26, i_27, i_28, i_29, i_30, i_31, i_32, i_33, i_34, i_35, i_36, i_37, i_38, i_39, i_40, i_41, i_42, i_43, i_44, i_45, i_46, i_47, i_48, i_49, i_50, i_51, i_52, i_53]))), (a_8, .inl (cy 1, 90, .inl f_0)), (a_9, .inl (cy 1, 15, .inl f_1)), (a_10, .inl (cy 1, 1050, .inl f_2)), (a_11, .inl (cy 1, 30, .inl f_3)), (a_12, .inl (cy 1, 240, .inl f_4)), (a_13, .inl (cy 1, 450, .inl f_5)), (a_15, .inl (cy 1, 7200, .inl n9)), (a_16, .inl (cy 1, 3, .inl n10)), (a_17, .inl (cy 1, 3, .inl n11)), (a_18, .inl (cy 1, 8, .inl n1976))]) hS
                  obtain ⟨w1978, w1979, hw⟩ := hw
                  obtain ⟨w1980, w1981⟩ := hw
                  replace w1981 : mm_rd n9 n10 f_0 f_3 f_4 f_5 i_0 v1972 x50_7_1962 i_25 i_26 i_29 v1977 := w1981
                  refine lv_imul hx hb dX12_greedy_124 ?_
                  refine lv_topi (fun v1982 ev1982 => ?_)
                  refine lv_iadd hx hb dX12_greedy_125 ?_
                  refine lv_topi (fun v1983 ev1983 => ?_)
                  refine lv_istore (lv' := [(4, .int v1983), (8, .int x50_8_1961), (7, .int x50_7_1962), (6, .int x40_6_1616), (5, .int x40_5_1617), (3, .int x40_3_1619), (0, .ref a_0), (1, .int i_0), (2, .int i_1)]) hx hb dX12_greedy_126 hl (by decide) rfl ?_
                  clear hl
                  clear ls
                  intro ls hl
                  refine lv_iload hx hb dX12_greedy_128 (lv_at hl 4 rfl) ?_
                  refine lv_ineg hx hb dX12_greedy_130 ?_
                  refine lv_topi (fun v1984 ev1984 => ?_)
                  refine lv_istore (lv' := [(5, .int v1984), (4, .int v1983), (8, .int x50_8_1961), (7, .int x50_7_1962), (6, .int x40_6_1616), (3, .int x40_3_1619), (0, .ref a_0), (1, .int i_0), (2, .int i_1)]) hx hb dX12_greedy_131 hl (by decide) rfl ?_
                  clear hl
                  clear ls
                  intro ls hl
                  refine lv_iload_n hx hb dX12_greedy_133 rfl (lv_at hl 5 rfl) ?_
                  refine lv_iconst (v := 1) hx hb dX12_greedy_134 (by decide) ?_
                  refine lv_iload hx hb dX12_greedy_135 (lv_at hl 3 rfl) ?_
                  refine lv_ishl hx hb dX12_greedy_137 ?_
                  refine lv_topi (fun v1985 ev1985 => ?_)
                  have rv1985 : mm_rg v1985 1 32 := mm_shl1 ev1985 q1971 (by decide)
                  refine lv_iconst (v := (-1)) hx hb dX12_greedy_138 (by decide) ?_
                  refine lv_ixor hx hb dX12_greedy_139 ?_
                  refine lv_topi (fun v1986 ev1986 => ?_)
                  refine lv_iand hx hb dX12_greedy_140 ?_
                  refine lv_topi (fun v1987 ev1987 => ?_)
                  have rv1987 : mm_rg v1987 0 63 := mm_andL ev1987 q1629 (by decide)
                  refine lv_istore_n (lv' := [(3, .int v1987), (5, .int v1984), (4, .int v1983), (8, .int x50_8_1961), (7, .int x50_7_1962), (6, .int x40_6_1616), (0, .ref a_0), (1, .int i_0), (2, .int i_1)]) hx hb dX12_greedy_141 rfl hl (by decide) rfl ?_
                  clear hl
                  clear ls
                  intro ls hl
                  obtain ⟨v1988, ev1988⟩ : ∃ y : Int32, y = x40_6_1616 + 1 := ⟨_, rfl⟩
                  refine lv_iinc (v := v1988) (lv' := [(6, .int v1988), (3, .int v1987), (5, .int v1984), (4, .int v1983), (8, .int x50_8_1961), (7, .int x50_7_1962), (0, .ref a_0), (1, .int i_0), (2, .int i_1)]) hx hb dX12_greedy_142 hl (k := 5) rfl (by rw [ev1988]; rfl) (by decide) rfl ?_
                  clear hl
                  clear ls
                  intro ls hl
                  have rv1988 : mm_rg v1988 1 6 := mm_add ev1988 q1630 mm_k1 (by decide) (by decide)
                  have tv1988 := mm_addEc ev1988 q1630 mm_k1 (by decide) (k := 1) (by decide)
                  refine lv_goto (tgt := 40) hx hb dX12_greedy_145 (by decide) ?_
                  exact ih40 v1988 v1984 v1983 v1987 n1973 n1974 n1975 n1976 (mm_wk rv1988 (by decide)) rv1987 w1978 w1979 (mm_pck_s w1624 tv1988 (mm_gb_bit w1967 q1971 (by decide)) ev1985 ev1986 ev1987 q1629 q1971 (by decide)) (mm_stx_s w1625 ev1987 q1629 (by decide)) (mm_grM hm40 (mm_gb_bit w1967 q1971 (by decide)) ev1985 ev1986 ev1987 q1629 q1971 (by decide)) H locs hP hD hS ls (lv_sub hl [0, 2, 3, 1, 6, 7, 8] rfl)
                · have q1989 := mm_ltL (h := 5) (mm_nle c1970) rx50_8_1961 h10 (by decide)
                  have q1990 := mm_ltR (lo := 1) (mm_nle c1970) rx50_8_1961 h10 (by decide)
                  refine lv_iload_n hx hb dX12_greedy_59 rfl (lv_at hl 5 rfl) ?_
                  refine lv_iload hx hb dX12_greedy_60 (lv_at hl 0 rfl) ?_
                  refine mm_finir (va_runS (As := [.int x40_3_1619, .int x50_8_1961]) (rest := []) ⟨hx, hb, hml, hown, hts⟩ (M232_X12_isBit l G cy H.size x40_3_1619 x50_8_1961 (mm_wk q1629 (by decide)) q1989) (va_cwS 2 hts (mm_gS mm_w1461 mm_w1462 mm_w5 mm_w1463) rfl rfl rfl hs_X12_isBit ⟨by rw [hRf]; exact Nat.le_of_ble_eq_true rfl, by rw [hRl]; exact Nat.le_of_ble_eq_true rfl⟩) (mm_preS hK hZ hS hA hP hD [] rfl rfl) rfl rfl hl.1 rfl (lv_room (Nat.le_of_ble_eq_true rfl)) dX12_greedy_62 ⟨by rw [hRc]; exact Nat.le_of_ble_eq_true rfl, by rw [hRs]; exact Nat.le_of_ble_eq_true rfl⟩) hP hD hS hA [] rfl (fun _ => rfl) ?_
                  clear hP hD hS
                  clear H locs
                  intro v1991 _u H locs hw hP hD hS
                  rcases hw with ⟨rfl, w1992⟩ | ⟨rfl, w1993⟩
                  · refine lv_if_eq (tgt := 103) hx hb dX12_greedy_65 (by decide) (fun c1994 => ?_) (fun c1994 => ?_)
                    · obtain ⟨v1995, ev1995⟩ : ∃ y : Int32, y = x50_8_1961 + 1 := ⟨_, rfl⟩
                      refine lv_iinc (v := v1995) (lv' := [(8, .int v1995), (7, .int x50_7_1962), (6, .int x40_6_1616), (5, .int x40_5_1617), (4, .int x40_4_1618), (3, .int x40_3_1619), (0, .ref a_0), (1, .int i_0), (2, .int i_1)]) hx hb dX12_greedy_103 hl (k := 0) rfl (by rw [ev1995]; rfl) (by decide) rfl ?_
                      clear hl
                      clear ls
                      intro ls hl
                      have rv1995 : mm_rg v1995 1 6 := mm_add ev1995 q1989 mm_k1 (by decide) (by decide)
                      have tv1995 := mm_addEc ev1995 q1989 mm_k1 (by decide) (k := 1) (by decide)
                      refine lv_goto (tgt := 50) hx hb dX12_greedy_106 (by decide) ?_
                      exact ih50 v1995 x50_7_1962 y50_0_29_1963 y50_0_30_1964 y50_0_31_1965 z50_12_1966 (mm_wk rv1995 (by decide)) rx50_7_1962 ry50_0_29_1963 rz50_12_1966 (mm_gb_n w1967 w1992 tv1995 q1989 (by decide)) (mm_mu hm50 tv1995 (by decide) (rv1995).2 (by decide)) H locs hP hD hS ls (lv_sub hl [0, 1, 2, 3, 4, 5, 6, 7, 8] rfl)
                    · exact absurd rfl (mm_ne c1994)
                  · refine lv_if_eq (tgt := 103) hx hb dX12_greedy_65 (by decide) (fun c1996 => ?_) (fun c1996 => ?_)
                    · exact mm_eqN c1996.symm mm_k0 mm_k1 (by decide)
                    · refine lv_iload hx hb dX12_greedy_68 (lv_at hl 1 rfl) ?_
                      refine lv_iconst (v := (-1)) hx hb dX12_greedy_70 (by decide) ?_
                      refine lv_icmp_eq (tgt := 99) hx hb dX12_greedy_71 (by decide) (fun c1997 => ?_) (fun c1997 => ?_)
                      · have q1998 := mm_eqI (lo := (-1)) (hi := (-1)) c1997 rx50_7_1962 mm_km1 (by decide)
                        refine lv_iload hx hb dX12_greedy_99 (lv_at hl 0 rfl) ?_
                        refine lv_istore (lv' := [(7, .int x50_8_1961), (8, .int x50_8_1961), (6, .int x40_6_1616), (5, .int x40_5_1617), (4, .int x40_4_1618), (3, .int x40_3_1619), (0, .ref a_0), (1, .int i_0), (2, .int i_1)]) hx hb dX12_greedy_101 hl (by decide) rfl ?_
                        clear hl
                        clear ls
                        intro ls hl
                        obtain ⟨v1999, ev1999⟩ : ∃ y : Int32, y = x50_8_1961 + 1 := ⟨_, rfl⟩
                        refine lv_iinc (v := v1999) (lv' := [(8, .int v1999), (7, .int x50_8_1961), (6, .int x40_6_1616), (5, .int x40_5_1617), (4, .int x40_4_1618), (3, .int x40_3_1619), (0, .ref a_0), (1, .int i_0), (2, .int i_1)]) hx hb dX12_greedy_103 hl (k := 1) rfl (by rw [ev1999]; rfl) (by decide) rfl ?_
                        clear hl
                        clear ls
                        intro ls hl
                        have rv1999 : mm_rg v1999 1 6 := mm_add ev1999 q1989 mm_k1 (by decide) (by decide)
                        have tv1999 := mm_addEc ev1999 q1989 mm_k1 (by decide) (k := 1) (by decide)
                        refine lv_goto (tgt := 50) hx hb dX12_greedy_106 (by decide) ?_
                        exact ih50 v1999 x50_8_1961 y50_0_29_1963 y50_0_30_1964 y50_0_31_1965 z50_12_1966 (mm_wk rv1999 (by decide)) (mm_wk q1989 (by decide)) ry50_0_29_1963 rz50_12_1966 (mm_gb_y w1993 (mm_nle c1970) q1989 (by decide)) (mm_mu hm50 tv1999 (by decide) (rv1999).2 (by decide)) H locs hP hD hS ls (lv_sub hl [0, 1, 2, 3, 4, 5, 6, 7, 8] rfl)
                      · have q2000 := mm_neL (lo := 0) (mm_ne c1997) rx50_7_1962 mm_km1 (by decide) (by decide)
                        refine lv_aload_n hx hb dX12_greedy_74 rfl (lv_at hl 6 rfl) ?_
                        refine lv_iload_n hx hb dX12_greedy_75 rfl (lv_at hl 7 rfl) ?_
                        refine lv_iload_n hx hb dX12_greedy_76 rfl (lv_at hl 8 rfl) ?_
                        refine lv_iload hx hb dX12_greedy_77 (lv_at hl 2 rfl) ?_
                        refine lv_iadd hx hb dX12_greedy_79 ?_
                        refine lv_topi (fun v2001 ev2001 => ?_)
                        have rv2001 : mm_rg v2001 0 1000000005 := mm_add ev2001 w3 q1630 (by decide) (by decide)
                        have tv2001 := mm_addE ev2001 w3 q1630 (by decide)
                        refine lv_iload hx hb dX12_greedy_80 (lv_at hl 0 rfl) ?_
                        refine mm_fini (va_runV (As := [.int i_0, .int v2001, .int x50_8_1961]) (rest := []) ⟨hx, hb, hml, hown, hts⟩ (M141_X12_reads l G cy H.size a_0 i_0 v2001 x50_8_1961 0 a_1 a_2 a_3 a_4 a_5 i_3 i_4 i_5 i_6 i_7 j_0 i_8 i_9 i_10 i_11 a_6 a_7 a_8 a_9 a_10 a_11 a_12 a_13 a_14 a_15 a_16 a_17 a_18 y50_0_29_1963 y50_0_30_1964 y50_0_31_1965 i_15 i_16 i_17 a_19 i_18 a_20 i_24 i_25 i_26 i_27 i_28 i_29 i_30 i_31 i_32 i_33 i_34 i_35 i_36 i_37 i_38 i_39 i_40 i_41 i_42 i_43 i_44 i_45 i_46 i_47 i_48 i_49 i_50 i_51 i_52 i_53 f_0 f_3 f_4 f_5 n9 n10 z50_12_1966 w2 (mm_wk rv2001 (by decide)) q1989 ry50_0_29_1963 h6 h7 h8 (mm_wk q6 (by decide)) (mm_wk q1990 (by decide)) h11 h12 h13 h14 h15 h16 h17 h18 h19 h20 h21 h22 h23 h24 h25 h26 h27 h28 h29 h30 h31 h32 h33 h34 h35 h36 h39 h40 h41 w12 w13 rz50_12_1966 h47 h48 h51 h52 h55 h56 h59 h60 (mm_f1_l w15 w4 w2 (by decide))) (cwV 3 hts (mm_gV mm_w852 mm_w853 mm_w854 mm_w5 mm_w855) rfl rfl rfl hd_X12_reads ⟨by rw [hRf]; exact Nat.le_of_ble_eq_true rfl, by rw [hRl]; exact Nat.le_of_ble_eq_true rfl⟩) (mm_preV hK hZ hS hA hP hD [0, 2, 3, 6, 7, 8, 9, 10, 12] rfl rfl 0 rfl rfl rfl) rfl rfl hl.1 rfl (lv_room (Nat.le_of_ble_eq_true rfl)) dX12_greedy_82 ⟨by rw [hRc]; exact Nat.le_of_ble_eq_true rfl, by rw [hRs]; exact Nat.le_of_ble_eq_true rfl⟩) hP hD hS hA (fun u : Int32 × Int32 × Int32 × (Nat → Int32) => [(a_0, .inr (12, [.int 0, .ref a_1, .ref a_2, .ref a_3, .ref a_4, .ref a_5, .int i_3, .int i_4, .int i_5, .int i_6, .int i_7, .long j_0, .int i_8, .int i_9, .int i_10, .int i_11, .ref a_6, .ref a_7, .ref a_8, .ref a_9, .ref a_10, .ref a_11, .ref a_12, .ref a_13, .ref a_14, .ref a_15, .ref a_16, .ref a_17, .ref a_18, .int u.1, .int u.2.1, .int u.2.2.1, .int i_15, .int i_16, .int i_17, .ref a_19, .int i_18, .ref a_20])), (a_6, .inl (cy 1, 5, .inl (mm_g [i_19, i_20, i_21, i_22, i_23]))), (a_7, .inl (cy 1, 30, .inl (mm_g [i_24, i_25, i_26, i_27, i_28, i_29, i_30, i_31, i_32, i_33, i_34, i_35, i_36, i_37, i_38, i_39, i_40, i_41, i_42, i_43, i_44, i_45, i_46, i_47, i_48, i_49, i_50, i_51, i_52, i_53]))), (a_8, .inl (cy 1, 90, .inl f_0)), (a_9, .inl (cy 1, 15, .inl f_1)), (a_10, .inl (cy 1, 1050, .inl f_2)), (a_11, .inl (cy 1, 30, .inl f_3)), (a_12, .inl (cy 1, 240, .inl f_4)), (a_13, .inl (cy 1, 450, .inl f_5)), (a_15, .inl (cy 1, 7200, .inl n9)), (a_16, .inl (cy 1, 3, .inl n10)), (a_17, .inl (cy 1, 3, .inl n11)), (a_18, .inl (cy 1, 8, .inl u.2.2.2))]) [0, 2, 3, 6, 7, 8, 9, 10, 12] [1, 4, 5, 11] (n := 13) (fun _ => rfl) (by decide +kernel) (by decide +kernel) rfl (fun _ => rfl) (wr := [(a_6, .inl (cy 1, 5, .inl (mm_g [i_19, i_20, i_21, i_22, i_23]))), (a_9, .inl (cy 1, 15, .inl f_1)), (a_10, .inl (cy 1, 1050, .inl f_2)), (a_17, .inl (cy 1, 3, .inl n11))]) rfl (fun _ => rfl) (fun _ => @rfl _ ([a_0, a_7, a_8, a_11, a_12, a_13, a_15, a_16, a_18] : List Nat)) ?_
                        clear hP hD hS
                        clear H locs
                        intro v2006 u
                        obtain ⟨n2002, n2003, n2004, n2005⟩ := u
                        intro H locs hw (hP : va_P G vwCl [(a_0, .inr (12, [.int 0, .ref a_1, .ref a_2, .ref a_3, .ref a_4, .ref a_5, .int i_3, .int i_4, .int i_5, .int i_6, .int i_7, .long j_0, .int i_8, .int i_9, .int i_10, .int i_11, .ref a_6, .ref a_7, .ref a_8, .ref a_9, .ref a_10, .ref a_11, .ref a_12, .ref a_13, .ref a_14, .ref a_15, .ref a_16, .ref a_17, .ref a_18, .int n2002, .int n2003, .int n2004, .int i_15, .int i_16, .int i_17, .ref a_19, .int i_18, .ref a_20])), (a_6, .inl (cy 1, 5, .inl (mm_g [i_19, i_20, i_21, i_22, i_23]))), (a_7, .inl (cy 1, 30, .inl (mm_g [i_24, i_25, i_26, i_27, i_28, i_29, i_30, i_31, i_32, i_33, i_34, i_35, i_36, i_37, i_38, i_39, i_40, i_41, i_42, i_43, i_44, i_45, i_46, i_47, i_48, i_49, i_50, i_51, i_52, i_53]))), (a_8, .inl (cy 1, 90, .inl f_0)), (a_9, .inl (cy 1, 15, .inl f_1)), (a_10, .inl (cy 1, 1050, .inl f_2)), (a_11, .inl (cy 1, 30, .inl f_3)), (a_12, .inl (cy 1, 240, .inl f_4)), (a_13, .inl (cy 1, 450, .inl f_5)), (a_15, .inl (cy 1, 7200, .inl n9)), (a_16, .inl (cy 1, 3, .inl n10)), (a_17, .inl (cy 1, 3, .inl n11)), (a_18, .inl (cy 1, 8, .inl n2005))] H) (hD : va_D A [(a_0, .inr (12, [.int 0, .ref a_1, .ref a_2, .ref a_3, .ref a_4, .ref a_5, .int i_3, .int i_4, .int i_5, .int i_6, .int i_7, .long j_0, .int i_8, .int i_9, .int i_10, .int i_11, .ref a_6, .ref a_7, .ref a_8, .ref a_9, .ref a_10, .ref a_11, .ref a_12, .ref a_13, .ref a_14, .ref a_15, .ref a_16, .ref a_17, .ref a_18, .int n2002, .int n2003, .int n2004, .int i_15, .int i_16, .int i_17, .ref a_19, .int i_18, .ref a_20])), (a_6, .inl (cy 1, 5, .inl (mm_g [i_19, i_20, i_21, i_22, i_23]))), (a_7, .inl (cy 1, 30, .inl (mm_g [i_24, i_25, i_26, i_27, i_28, i_29, i_30, i_31, i_32, i_33, i_34, i_35, i_36, i_37, i_38, i_39, i_40, i_41, i_42, i_43, i_44, i_45, i_46, i_47, i_48, i_49, i_50, i_51, i_52, i_53]))), (a_8, .inl (cy 1, 90, .inl f_0)), (a_9, .inl (cy 1, 15, .inl f_1)), (a_10, .inl (cy 1, 1050, .inl f_2)), (a_11, .inl (cy 1, 30, .inl f_3)), (a_12, .inl (cy 1, 240, .inl f_4)), (a_13, .inl (cy 1, 450, .inl f_5)), (a_15, .inl (cy 1, 7200, .inl n9)), (a_16, .inl (cy 1, 3, .inl n10)), (a_17, .inl (cy 1, 3, .inl n11)), (a_18, .inl (cy 1, 8, .inl n2005))]) hS
                        obtain ⟨w2007, w2008, hw⟩ := hw
                        obtain ⟨w2009, w2010⟩ := hw
                        replace w2010 : mm_rd n9 n10 f_0 f_3 f_4 f_5 i_0 v2001 x50_8_1961 i_25 i_26 i_29 v2006 := w2010
                        refine lv_aload_n hx hb dX12_greedy_85 rfl (lv_at hl 6 rfl) ?_
                        refine lv_iload_n hx hb dX12_greedy_86 rfl (lv_at hl 7 rfl) ?_
                        refine lv_iload_n hx hb dX12_greedy_87 rfl (lv_at hl 8 rfl) ?_
                        refine lv_iload hx hb dX12_greedy_88 (lv_at hl 2 rfl) ?_
                        refine lv_iadd hx hb dX12_greedy_90 ?_
                        refine lv_topi (fun v2011 ev2011 => ?_)
                        have rv2011 : mm_rg v2011 0 1000000005 := mm_add ev2011 w3 q1630 (by decide) (by decide)
                        have tv2011 := mm_addE ev2011 w3 q1630 (by decide)
                        refine lv_iload hx hb dX12_greedy_91 (lv_at hl 1 rfl) ?_
                        refine mm_fini (va_runV (As := [.int i_0, .int v2011, .int x50_7_1962]) (rest := [.int v2006]) ⟨hx, hb, hml, hown, hts⟩ (M141_X12_reads l G cy H.size a_0 i_0 v2011 x50_7_1962 0 a_1 a_2 a_3 a_4 a_5 i_3 i_4 i_5 i_6 i_7 j_0 i_8 i_9 i_10 i_11 a_6 a_7 a_8 a_9 a_10 a_11 a_12 a_13 a_14 a_15 a_16 a_17 a_18 n2002 n2003 n2004 i_15 i_16 i_17 a_19 i_18 a_20 i_24 i_25 i_26 i_27 i_28 i_29 i_30 i_31 i_32 i_33 i_34 i_35 i_36 i_37 i_38 i_39 i_40 i_41 i_42 i_43 i_44 i_45 i_46 i_47 i_48 i_49 i_50 i_51 i_52 i_53 f_0 f_3 f_4 f_5 n9 n10 n2005 w2 (mm_wk rv2011 (by decide)) q2000 w2007 h6 h7 h8 (mm_wk q6 (by decide)) (mm_wk q1990 (by decide)) h11 h12 h13 h14 h15 h16 h17 h18 h19 h20 h21 h22 h23 h24 h25 h26 h27 h28 h29 h30 h31 h32 h33 h34 h35 h36 h39 h40 h41 w12 w13 w2008 h47 h48 h51 h52 h55 h56 h59 h60 (mm_f1_l w15 w4 w2 (by decide))) (cwV 3 hts (mm_gV mm_w852 mm_w853 mm_w854 mm_w5 mm_w855) rfl rfl rfl hd_X12_reads ⟨by rw [hRf]; exact Nat.le_of_ble_eq_true rfl, by rw [hRl]; exact Nat.le_of_ble_eq_true rfl⟩) (mm_preV hK hZ hS hA hP hD [0, 2, 3, 6, 7, 8, 9, 10, 12] rfl rfl 0 rfl rfl rfl) rfl rfl hl.1 rfl (lv_room (Nat.le_of_ble_eq_true rfl)) dX12_greedy_93 ⟨by rw [hRc]; exact Nat.le_of_ble_eq_true rfl, by rw [hRs]; exact Nat.le_of_ble_eq_true rfl⟩) hP hD hS hA (fun u : Int32 × Int32 × Int32 × (Nat → Int32) => [(a_0, .inr (12, [.int 0, .ref a_1, .ref a_2, .ref a_3, .ref a_4, .ref a_5, .int i_3, .int i_4, .int i_5, .int i_6, .int i_7, .long j_0, .int i_8, .int i_9, .int i_10, .int i_11, .ref a_6, .ref a_7, .ref a_8, .ref a_9, .ref a_10, .ref a_11, .ref a_12, .ref a_13, .ref a_14, .ref a_15, .ref a_16, .ref a_17, .ref a_18, .int u.1, .int u.2.1, .int u.2.2.1, .int i_15, .int i_16, .int i_17, .ref a_19, .int i_18, .ref a_20])), (a_6, .inl (cy 1, 5, .inl (mm_g [i_19, i_20, i_21, i_22, i_23]))), (a_7, .inl (cy 1, 30, .inl (mm_g [i_24, i_25, i_26, i_27, i_28, i_29, i_30, i_31, i_32, i_33, i_34, i_35, i_36, i_37, i_38, i_39, i_40, i_41, i_42, i_43, i_44, i_45, i_46, i_47, i_48, i_49, i_50, i_51, i_52, i_53]))), (a_8, .inl (cy 1, 90, .inl f_0)), (a_9, .inl (cy 1, 15, .inl f_1)), (a_10, .inl (cy 1, 1050, .inl f_2)), (a_11, .inl (cy 1, 30, .inl f_3)), (a_12, .inl (cy 1, 240, .inl f_4)), (a_13, .inl (cy 1, 450, .inl f_5)), (a_15, .inl (cy 1, 7200, .inl n9)), (a_16, .inl (cy 1, 3, .inl n10)), (a_17, .inl (cy 1, 3, .inl n11)), (a_18, .inl (cy 1, 8, .inl u.2.2.2))]) [0, 2, 3, 6, 7, 8, 9, 10, 12] [1, 4, 5, 11] (n := 13) (fun _ => rfl) (by decide +kernel) (by decide +kernel) rfl (fun _ => rfl) (wr := [(a_6, .inl (cy 1, 5, .inl (mm_g [i_19, i_20, i_21, i_22, i_23]))), (a_9, .inl (cy 1, 15, .inl f_1)), (a_10, .inl (cy 1, 1050, .inl f_2)), (a_17, .inl (cy 1, 3, .inl n11))]) rfl (fun _ => rfl) (fun _ => @rfl _ ([a_0, a_7, a_8, a_11, a_12, a_13, a_15, a_16, a_18] : List Nat)) ?_
                        clear hP hD hS
                        clear H locs
                        intro v2016 u
                        obtain ⟨n2012, n2013, n2014, n2015⟩ := u
                        intro H locs hw (hP : va_P G vwCl [(a_0, .inr (12, [.int 0, .ref a_1, .ref a_2, .ref a_3, .ref a_4, .ref a_5, .int i_3, .int i_4, .int i_5, .int i_6, .int i_7, .long j_0, .int i_8, .int i_9, .int i_10, .int i_11, .ref a_6, .ref a_7, .ref a_8, .ref a_9, .ref a_10, .ref a_11, .ref a_12, .ref a_13, .ref a_14, .ref a_15, .ref a_16, .ref a_17, .ref a_18, .int n2012, .int n2013, .int n2014, .int i_15, .int i_16, .int i_17, .ref a_19, .int i_18, .ref a_20])), (a_6, .inl (cy 1, 5, .inl (mm_g [i_19, i_20, i_21, i_22, i_23]))), (a_7, .inl (cy 1, 30, .inl (mm_g [i_24, i_25, i_26, i_27, i_28, i_29, i_30, i_31, i_32, i_33, i_34, i_35, i_36, i_37, i_38, i_39, i_40, i_41, i_42, i_43, i_44, i_45, i_46, i_47, i_48, i_49, i_50, i_51, i_52, i_53]))), (a_8, .inl (cy 1, 90, .inl f_0)), (a_9, .inl (cy 1, 15, .inl f_1)), (a_10, .inl (cy 1, 1050, .inl f_2)), (a_11, .inl (cy 1, 30, .inl f_3)), (a_12, .inl (cy 1, 240, .inl f_4)), (a_13, .inl (cy 1, 450, .inl f_5)), (a_15, .inl (cy 1, 7200, .inl n9)), (a_16, .inl (cy 1, 3, .inl n10)), (a_17, .inl (cy 1, 3, .inl n11)), (a_18, .inl (cy 1, 8, .inl n2015))] H) (hD : va_D A [(a_0, .inr (12, [.int 0, .ref a_1, .ref a_2, .ref a_3, .ref a_4, .ref a_5, .int i_3, .int i_4, .int i_5, .int i_6, .int i_7, .long j_0, .int i_8, .int i_9, .int i_10, .int i_11, .ref a_6, .ref a_7, .ref a_8, .ref a_9, .ref a_10, .ref a_11, .ref a_12, .ref a_13, .ref a_14, .ref a_15, .ref a_16, .ref a_17, .ref a_18, .int n2012, .int n2013, .int n2014, .int i_15, .int i_16, .int i_17, .ref a_19, .int i_18, .ref a_20])), (a_6, .inl (cy 1, 5, .inl (mm_g [i_19, i_20, i_21, i_22, i_23]))), (a_7, .inl (cy 1, 30, .inl (mm_g [i_24, i_25, i_26, i_27, i_28, i_29, i_30, i_31, i_32, i_33, i_34, i_35, i_36, i_37, i_38, i_39, i_40, i_41, i_42, i_43, i_44, i_45, i_46, i_47, i_48, i_49, i_50, i_51, i_52, i_53]))), (a_8, .inl (cy 1, 90, .inl f_0)), (a_9, .inl (cy 1, 15, .inl f_1)), (a_10, .inl (cy 1, 1050, .inl f_2)), (a_11, .inl (cy 1, 30, .inl f_3)), (a_12, .inl (cy 1, 240, .inl f_4)), (a_13, .inl (cy 1, 450, .inl f_5)), (a_15, .inl (cy 1, 7200, .inl n9)), (a_16, .inl (cy 1, 3, .inl n10)), (a_17, .inl (cy 1, 3, .inl n11)), (a_18, .inl (cy 1, 8, .inl n2015))]) hS
                        obtain ⟨w2017, w2018, hw⟩ := hw
                        obtain ⟨w2019, w2020⟩ := hw
                        replace w2020 : mm_rd n9 n10 f_0 f_3 f_4 f_5 i_0 v2011 x50_7_1962 i_25 i_26 i_29 v2016 := w2020
                        refine lv_icmp_le (tgt := 103) hx hb dX12_greedy_96 (by decide) (fun c2021 => ?_) (fun c2021 => ?_)
                        · obtain ⟨v2022, ev2022⟩ : ∃ y : Int32, y = x50_8_1961 + 1 := ⟨_, rfl⟩
                          refine lv_iinc (v := v2022) (lv' := [(8, .int v2022), (7, .int x50_7_1962), (6, .int x40_6_1616), (5, .int x40_5_1617), (4, .int x40_4_1618), (3, .int x40_3_1619), (0, .ref a_0), (1, .int i_0), (2, .int i_1)]) hx hb dX12_greedy_103 hl (k := 0) rfl (by rw [ev2022]; rfl) (by decide) rfl ?_
                          clear hl
                          clear ls
                          intro ls hl
                          have rv2022 : mm_rg v2022 1 6 := mm_add ev2022 q1989 mm_k1 (by decide) (by decide)
                          have tv2022 := mm_addEc ev2022 q1989 mm_k1 (by decide) (k := 1) (by decide)
                          refine lv_goto (tgt := 50) hx hb dX12_greedy_106 (by decide) ?_
                          exact ih50 v2022 x50_7_1962 n2012 n2013 n2014 n2015 (mm_wk rv2022 (by decide)) (mm_wk q2000 (by decide)) w2017 w2018 (mm_gb_k w1967 q2000 (by decide)) (mm_mu hm50 tv2022 (by decide) (rv2022).2 (by decide)) H locs hP hD hS ls (lv_sub hl [0, 1, 2, 3, 4, 5, 6, 7, 8] rfl)
                        · have q2023 := mm_ltL (h := 9998) (mm_nle c2021) w2019 w2009 (by decide)
                          have q2024 := mm_ltR (lo := 1) (mm_nle c2021) w2019 w2009 (by decide)
                          refine lv_iload hx hb dX12_greedy_99 (lv_at hl 0 rfl) ?_
                          refine lv_istore (lv' := [(7, .int x50_8_1961), (8, .int x50_8_1961), (6, .int x40_6_1616), (5, .int x40_5_1617), (4, .int x40_4_1618), (3, .int x40_3_1619), (0, .ref a_0), (1, .int i_0), (2, .int i_1)]) hx hb dX12_greedy_101 hl (by decide) rfl ?_
                          clear hl
                          clear ls
                          intro ls hl
                          obtain ⟨v2025, ev2025⟩ : ∃ y : Int32, y = x50_8_1961 + 1 := ⟨_, rfl⟩
                          refine lv_iinc (v := v2025) (lv' := [(8, .int v2025), (7, .int x50_8_1961), (6, .int x40_6_1616), (5, .int x40_5_1617), (4, .int x40_4_1618), (3, .int x40_3_1619), (0, .ref a_0), (1, .int i_0), (2, .int i_1)]) hx hb dX12_greedy_103 hl (k := 1) rfl (by rw [ev2025]; rfl) (by decide) rfl ?_
                          clear hl
                          clear ls
                          intro ls hl
                          have rv2025 : mm_rg v2025 1 6 := mm_add ev2025 q1989 mm_k1 (by decide) (by decide)
                          have tv2025 := mm_addEc ev2025 q1989 mm_k1 (by decide) (k := 1) (by decide)
                          refine lv_goto (tgt := 50) hx hb dX12_greedy_106 (by decide) ?_
                          exact ih50 v2025 x50_8_1961 n2012 n2013 n2014 n2015 (mm_wk rv2025 (by decide)) (mm_wk q1989 (by decide)) w2017 w2018 (mm_gb_y w1993 (mm_nle c1970) q1989 (by decide)) (mm_mu hm50 tv2025 (by decide) (rv2025).2 (by decide)) H locs hP hD hS ls (lv_sub hl [0, 1, 2, 3, 4, 5, 6, 7, 8] rfl)
            exact L50_1967 _ 0 (-1) y40_0_29_1620 y40_0_30_1621 y40_0_31_1622 z40_12_1623 (mm_wk mm_k0 (by decide)) (mm_wk mm_km1 (by decide)) ry40_0_29_1620 rz40_12_1623 (mm_gb_0 _ _) (Nat.lt_succ_self _) H locs hP hD hS ls (lv_sub hl [0, 1, 2, 3, 4, 5, 6, 7, 8] rfl)
      exact L40_1625 _ 0 1 0 v19 i_12 i_13 i_14 f_9 (mm_wk mm_k0 (by decide)) rv19 h0 h45 (mm_pck_0 rv19 (by decide)) (mm_stx_0 ev18 tv19 h10 (by decide)) (Nat.lt_succ_self _) H locs hP hD hS ls (lv_sub hl [0, 1, 2, 3, 4, 5, 6] rfl)
    · exact mm_eqN c8.symm mm_k0 mm_k1 (by decide)

set_option maxHeartbeats 4000000 in
set_option maxRecDepth 100000 in
theorem M243_X12_isSent (l : Launch) (G : va_G) (cy : Nat → ClassId) (sz : Nat) (a_0 : Nat) (i_0 : Int32) (i_1 : Int32) (i_2 : Int32) (i_3 : Int32) (i_4 : Int32) (a_1 : Nat) (a_2 : Nat) (a_3 : Nat) (a_4 : Nat) (a_5 : Nat) (i_5 : Int32) (i_6 : Int32) (i_7 : Int32) (i_8 : Int32) (i_9 : Int32) (j_0 : Int64) (i_10 : Int32) (i_11 : Int32) (i_12 : Int32) (i_13 : Int32) (a_6 : Nat) (a_7 : Nat) (a_8 : Nat) (a_9 : Nat) (a_10 : Nat) (a_11 : Nat) (a_12 : Nat) (a_13 : Nat) (a_14 : Nat) (a_15 : Nat) (a_16 : Nat) (a_17 : Nat) (a_18 : Nat) (i_14 : Int32) (i_15 : Int32) (i_16 : Int32) (i_17 : Int32) (i_18 : Int32) (i_19 : Int32) (a_19 : Nat) (i_20 : Int32) (a_20 : Nat) (i_21 : Int32) (i_22 : Int32) (i_23 : Int32) (i_24 : Int32) (i_25 : Int32) (i_26 : Int32) (i_27 : Int32) (i_28 : Int32) (i_29 : Int32) (i_30 : Int32) (i_31 : Int32) (i_32 : Int32) (i_33 : Int32) (i_34 : Int32) (i_35 : Int32) (i_36 : Int32) (i_37 : Int32) (i_38 : Int32) (i_39 : Int32) (i_40 : Int32) (i_41 : Int32) (i_42 : Int32) (i_43 : Int32) (i_44 : Int32) (i_45 : Int32) (i_46 : Int32) (i_47 : Int32) (i_48 : Int32) (i_49 : Int32) (i_50 : Int32) (h0 : mm_rg i_21 0 10) (h1 : mm_rg i_22 0 99) (h2 : mm_rg i_23 0 9) (h3 : mm_rg i_24 0 3) (h4 : mm_rg i_25 0 6) (h5 : mm_rg i_26 0 30) (h6 : mm_rg i_27 0 10) (h7 : mm_rg i_28 0 99) (h8 : mm_rg i_29 0 9) (h9 : mm_rg i_30 0 3) (h10 : mm_rg i_31 0 6) (h11 : mm_rg i_32 0 30) (h12 : mm_rg i_33 0 10) (h13 : mm_rg i_34 0 99) (h14 : mm_rg i_35 0 9) (h15 : mm_rg i_36 0 3) (h16 : mm_rg i_37 0 6) (h17 : mm_rg i_38 0 30) (h18 : mm_rg i_39 0 10) (h19 : mm_rg i_40 0 99) (h20 : mm_rg i_41 0 9) (h21 : mm_rg i_42 0 3) (h22 : mm_rg i_43 0 6) (h23 : mm_rg i_44 0 30) (h24 : mm_rg i_45 0 10) (h25 : mm_rg i_46 0 99) (h26 : mm_rg i_47 0 9) (h27 : mm_rg i_48 0 3) (h28 : mm_rg i_49 0 6) (h29 : mm_rg i_50 0 30)  : mm_CI l yX12_isSent (mm_ws yX12_isSent cX12_isSent 5 (some .boolean)) ({ frames := 3, cells := 0, slots := 0, locals := 68 } : Room) G cy sz [(a_0, .inr (12, [.int i_4, .ref a_1, .ref a_2, .ref a_3, .ref a_4, .ref a_5, .int i_5, .int i_6, .int i_7, .int i_8, .int i_9, .long j_0, .int i_10, .int i_11, .int i_12, .int i_13, .ref a_6, .ref a_7, .ref a_8, .ref a_9, .ref a_10, .ref a_11, .ref a_12, .ref a_13, .ref a_14, .ref a_15, .ref a_16, .ref a_17, .ref a_18, .int i_14, .int i_15, .int i_16, .int i_17, .int i_18, .int i_19, .ref a_19, .int i_20, .ref a_20])), (a_7, .inl (cy 1, 30, .inl (mm_g [i_21, i_22, i_23, i_24, i_25, i_26, i_27, i_28, i_29, i_30, i_31, i_32, i_33, i_34, i_35, i_36, i_37, i_38, i_39, i_40, i_41, i_42, i_43, i_44, i_45, i_46, i_47, i_48, i_49, i_50])))] [.ref a_0, .int i_0, .int i_1, .int i_2, .int i_3] (fun u : Unit => [(a_0, .inr (12, [.int i_4, .ref a_1, .ref a_2, .ref a_3, .ref a_4, .ref a_5, .int i_5, .int i_6, .int i_7, .int i_8, .int i_9, .long j_0, .int i_10, .int i_11, .int i_12, .int i_13, .ref a_6, .ref a_7, .ref a_8, .ref a_9, .ref a_10, .ref a_11, .ref a_12, .ref a_13, .ref a_14, .ref a_15, .ref a_16, .ref a_17, .ref a_18, .int i_14, .int i_15, .int i_16, .int i_17, .int i_18, .int i_19, .ref a_19, .int i_20, .ref a_20])), (a_7, .inl (cy 1, 30, .inl (mm_g [i_21, i_22, i_23, i_24, i_25, i_26, i_27, i_28, i_29, i_30, i_31, i_32, i_33, i_34, i_35, i_36, i_37, i_38, i_39, i_40, i_41, i_42, i_43, i_44, i_45, i_46, i_47, i_48, i_49, i_50])))]) (fun (r : Int32) (u : Unit) => ((0 = r) ∨ (1 = r ∧ mm_rg i_0 0 2 ∧ mm_rg i_1 0 1000000000 ∧ mm_rg i_2 0 5 ∧ mm_rg i_3 0 7 ∧ (i_0 : Int32).toInt < (i_24 : Int32).toInt))) 0 0 := by
  refine mm_begin (lv := [(0, .ref a_0), (1, .int i_0), (2, .int i_1), (3, .int i_2), (4, .int i_3)]) (by decide) (Nat.le_of_ble_eq_true rfl) rfl ?_
  intro p e s m below meth c A ls R args Q H locs hRe hQ hAe hx hb hr hlocks hml hown hnm hts hsz hA hS hP hK hD hZ hl
  have hRf : R.frames = 3 := by rw [hRe]
  have hRl : R.locals = 68 := by rw [hRe]
  have hRc : R.cells = 0 := by rw [hRe]
  have hRs : R.slots = 0 := by rw [hRe]
  refine lv_aload_n hx hb dX12_isSent_0 rfl (lv_at hl 0 rfl) ?_
  refine lv_iload_n hx hb dX12_isSent_1 rfl (lv_at hl 1 rfl) ?_
  refine lv_iload_n hx hb dX12_isSent_2 rfl (lv_at hl 2 rfl) ?_
  refine mm_finir (va_runV (As := [.int i_0, .int i_1]) (rest := []) ⟨hx, hb, hml, hown, hts⟩ (M104_X12_isThen l G cy H.size a_0 i_0 i_1 i_4 a_1 a_2 a_3 a_4 a_5 i_5 i_6 i_7 i_8 i_9 j_0 i_10 i_11 i_12 i_13 a_6 a_7 a_8 a_9 a_10 a_11 a_12 a_13 a_14 a_15 a_16 a_17 a_18 i_14 i_15 i_16 i_17 i_18 i_19 a_19 i_20 a_20 i_21 i_22 i_23 i_24 i_25 i_26 i_27 i_28 i_29 i_30 i_31 i_32 i_33 i_34 i_35 i_36 i_37 i_38 i_39 i_40 i_41 i_42 i_43 i_44 i_45 i_46 i_47 i_48 i_49 i_50 h0 h1 h2 h3 h4 h5 h6 h7 h8 h9 h10 h11 h12 h13 h14 h15 h16 h17 h18 h19 h20 h21 h22 h23 h24 h25 h26 h27 h28 h29) (cwV 2 hts (mm_gV mm_w678 mm_w679 mm_w680 mm_w5 mm_w681) rfl rfl rfl hd_X12_isThen ⟨by rw [hRf]; exact Nat.le_of_ble_eq_true rfl, by rw [hRl]; exact Nat.le_of_ble_eq_true rfl⟩) (mm_preV hK hZ hS hA hP hD [0, 1] rfl rfl 0 rfl rfl rfl) rfl rfl hl.1 rfl (lv_room (Nat.le_of_ble_eq_true rfl)) dX12_isSent_3 ⟨by rw [hRc]; exact Nat.le_of_ble_eq_true rfl, by rw [hRs]; exact Nat.le_of_ble_eq_true rfl⟩) hP hD hS hA [0, 1] rfl (fun _ => rfl) ?_
  clear hP hD hS
  clear H locs
  intro v1 _u H locs hw hP hD hS
  rcases hw with rfl | ⟨rfl, w2, w3, w4⟩
  · refine lv_if_eq (tgt := 35) hx hb dX12_isSent_6 (by decide) (fun c5 => ?_) (fun c5 => ?_)
    · refine lv_iconst (v := 0) hx hb dX12_isSent_35 (by decide) ?_
      subst hAe
      rw [hQ]
      exact W.zret (v := 0) hx hb hr rfl (fun t ht hW => ⟨⟨0, (), rfl, (Or.inl rfl), by rw [ht]; exact hP, hK.warm hW, hD⟩, hS.F ht⟩) hS.2.2 dX12_isSent_36
    · exact absurd rfl (mm_ne c5)
  · have q6 := mm_ltR (lo := 1) w4 w2 h3 (by decide)
    refine lv_if_eq (tgt := 35) hx hb dX12_isSent_6 (by decide) (fun c7 => ?_) (fun c7 => ?_)
    · exact mm_eqN c7.symm mm_k0 mm_k1 (by decide)
    · refine lv_aload_n hx hb dX12_isSent_9 rfl (lv_at hl 0 rfl) ?_
      refine lv_iload_n hx hb dX12_isSent_10 rfl (lv_at hl 3 rfl) ?_
      obtain ⟨v8, ev8⟩ : ∃ y : Int64, y = i_2.toInt64 := ⟨_, rfl⟩
      refine lv_i2l hx hb dX12_isSent_11 ev8.symm ?_
      have rv8 : mm_rl v8 (-2147483648) 2147483647 := mm_i2l ev8 (mm_top i_2)
      refine mm_finir (va_runV (As := [.long v8]) (rest := []) ⟨hx, hb, hml, hown, hts⟩ (M96_X12_isText l G cy H.size a_0 v8 i_4 a_1 a_2 a_3 a_4 a_5 i_5 i_6 i_7 i_8 i_9 j_0 i_10 i_11 i_12 i_13 a_6 a_7 a_8 a_9 a_10 a_11 a_12 a_13 a_14 a_15 a_16 a_17 a_18 i_14 i_15 i_16 i_17 i_18 i_19 a_19 i_20 a_20 i_21 i_22 i_23 i_24 i_25 i_26 i_27 i_28 i_29 i_30 i_31 i_32 i_33 i_34 i_35 i_36 i_37 i_38 i_39 i_40 i_41 i_42 i_43 i_44 i_45 i_46 i_47 i_48 i_49 i_50 h0 h1 h2 (mm_wk q6 (by decide)) h4 h5 h6 h7 h8 h9 h10 h11 h12 h13 h14 h15 h16 h17 h18 h19 h20 h21 h22 h23 h24 h25 h26 h27 h28 h29) (cwV 1 hts (mm_gV mm_w613 mm_w614 mm_w615 mm_w5 mm_w616) rfl rfl rfl hd_X12_isText ⟨by rw [hRf]; exact Nat.le_of_ble_eq_true rfl, by rw [hRl]; exact Nat.le_of_ble_eq_true rfl⟩) (mm_preV hK hZ hS hA hP hD [0, 1] rfl rfl 0 rfl rfl rfl) rfl rfl hl.1 rfl (lv_room (Nat.le_of_ble_eq_true rfl)) dX12_isSent_12 ⟨by rw [hRc]; exact Nat.le_of_ble_eq_true rfl, by rw [hRs]; exact Nat.le_of_ble_eq_true rfl⟩) hP hD hS hA [0, 1] rfl (fun _ => rfl) ?_
      clear hP hD hS
      clear H locs
      intro v9 _u H locs hw hP hD hS
      rcases hw with rfl | ⟨rfl, w10, w11⟩
      · refine lv_if_eq (tgt := 35) hx hb dX12_isSent_15 (by decide) (fun c12 => ?_) (fun c12 => ?_)
        · refine lv_iconst (v := 0) hx hb dX12_isSent_35 (by decide) ?_
          subst hAe
          rw [hQ]
          exact W.zret (v := 0) hx hb hr rfl (fun t ht hW => ⟨⟨0, (), rfl, (Or.inl rfl), by rw [ht]; exact hP, hK.warm hW, hD⟩, hS.F ht⟩) hS.2.2 dX12_isSent_36
        · exact absurd rfl (mm_ne c12)
      · have q13 := mm_meet (lo := 0) (hi := 5) (mm_l2x ev8 w10) (mm_top i_2) (by decide)
        have w14 := mm_tx_lt w11 (mm_i2lE ev8)
        have q15 := mm_ltR (lo := 1) w14 q13 h4 (by decide)
        refine lv_if_eq (tgt := 35) hx hb dX12_isSent_15 (by decide) (fun c16 => ?_) (fun c16 => ?_)
        · exact mm_eqN c16.symm mm_k0 mm_k1 (by decide)
        · refine lv_iload hx hb dX12_isSent_18 (lv_at hl 4 rfl) ?_
          obtain ⟨v17, ev17⟩ : ∃ y : Int64, y = i_3.toInt64 := ⟨_, rfl⟩
          refine lv_i2l hx hb dX12_isSent_20 ev17.symm ?_
          have rv17 : mm_rl v17 (-2147483648) 2147483647 := mm_i2l ev17 (mm_top i_3)
          refine lv_lconst (v := 0) hx hb dX12_isSent_21 (by decide) ?_
          refine lv_ldc2 (v := 7) hx hb hown (mm_h hts mm_w1399) dX12_isSent_22 ?_
          refine mm_finir (va_runS (As := [.long v17, .long 0, .long 7]) (rest := []) ⟨hx, hb, hml, hown, hts⟩ (M7_X12_in l G cy H.size v17 7 ) (va_cwS 3 hts (mm_gS mm_w191 mm_w192 mm_w5 mm_w193) rfl rfl rfl hs_X12_in ⟨by rw [hRf]; exact Nat.le_of_ble_eq_true rfl, by rw [hRl]; exact Nat.le_of_ble_eq_true rfl⟩) (mm_preS hK hZ hS hA hP hD [] rfl rfl) rfl rfl hl.1 rfl (lv_room (Nat.le_of_ble_eq_true rfl)) dX12_isSent_25 ⟨by rw [hRc]; exact Nat.le_of_ble_eq_true rfl, by rw [hRs]; exact Nat.le_of_ble_eq_true rfl⟩) hP hD hS hA [] rfl (fun _ => rfl) ?_
          clear hP hD hS
          clear H locs
          intro v18 _u H locs hw hP hD hS
          rcases hw with ⟨rfl, w19⟩ | ⟨rfl, w20, w21, w22, w23⟩
          · refine lv_if_eq (tgt := 35) hx hb dX12_isSent_28 (by decide) (fun c24 => ?_) (fun c24 => ?_)
            · refine lv_iconst (v := 0) hx hb dX12_isSent_35 (by decide) ?_
              subst hAe
              rw [hQ]
              exact W.zret (v := 0) hx hb hr rfl (fun t ht hW => ⟨⟨0, (), rfl, (Or.inl rfl), by rw [ht]; exact hP, hK.warm hW, hD⟩, hS.F ht⟩) hS.2.2 dX12_isSent_36
            · exact absurd rfl (mm_ne c24)
          · have q25 := mm_meetl (lo := 0) (hi := 2147483647) w20 rv17 (by decide)
            have q26 := mm_meet (lo := 0) (hi := 2147483647) (mm_l2x ev17 q25) (mm_top i_3) (by decide)
            have q27 := mm_leLl w22 q25 mm_kl7
            have q28 := mm_meet (lo := 0) (hi := 7) (mm_l2x ev17 q27) q26 (by decide)
            refine lv_if_eq (tgt := 35) hx hb dX12_isSent_28 (by decide) (fun c29 => ?_) (fun c29 => ?_)
            · exact mm_eqN c29.symm mm_k0 mm_k1 (by decide)
            · refine lv_iconst (v := 1) hx hb dX12_isSent_31 (by decide) ?_
              refine lv_goto (tgt := 36) hx hb dX12_isSent_32 (by decide) ?_
              subst hAe
              rw [hQ]
              exact W.zret (v := 1) hx hb hr rfl (fun t ht hW => ⟨⟨1, (), rfl, (Or.inr ⟨rfl, w2, w3, q13, q28, w4⟩), by rw [ht]; exact hP, hK.warm hW, hD⟩, hS.F ht⟩) hS.2.2 dX12_isSent_36

set_option maxHeartbeats 4000000 in
set_option maxRecDepth 100000 in
theorem M244_X12_sizeOf (l : Launch) (G : va_G) (cy : Nat → ClassId) (sz : Nat) (i_0 : Int32) (h0 : mm_rg i_0 0 127)  : mm_CI l yX12_sizeOf (mm_ws yX12_sizeOf cX12_sizeOf 3 (some .int)) ({ frames := 0, cells := 0, slots := 0, locals := 0 } : Room) G cy sz [] [.int i_0] (fun u : Unit => []) (fun (r : Int32) (u : Unit) => mm_rg r 0 7 ∧ mm_pcn i_0 r) 0 0 := by
  refine mm_begin (lv := [(0, .int i_0)]) (by decide) (Nat.le_of_ble_eq_true rfl) rfl ?_
  intro p e s m below meth c A ls R args Q H locs hRe hQ hAe hx hb hr hlocks hml hown hnm hts hsz hA hS hP hK hD hZ hl
  have hRf : R.frames = 0 := by rw [hRe]
  have hRl : R.locals = 0 := by rw [hRe]
  have hRc : R.cells = 0 := by rw [hRe]
  have hRs : R.slots = 0 := by rw [hRe]
  refine lv_iconst (v := 0) hx hb dX12_sizeOf_0 (by decide) ?_
  refine lv_istore_n (lv' := [(1, .int 0), (0, .int i_0)]) hx hb dX12_sizeOf_1 rfl hl (by decide) rfl ?_
  clear hl
  clear ls
  intro ls hl
  refine lv_iload_n hx hb dX12_sizeOf_2 rfl (lv_at hl 1 rfl) ?_
  refine lv_istore_n (lv' := [(2, .int i_0), (1, .int 0), (0, .int i_0)]) hx hb dX12_sizeOf_3 rfl hl (by decide) rfl ?_
  clear hl
  clear ls
  intro ls hl
  have L4_14 : ∀ (n : Nat) (x4_2_12 : Int32) (x4_1_13 : Int32), mm_rg x4_2_12 0 127 → mm_rg x4_1_13 0 7 → mm_pcs i_0 x4_1_13 x4_2_12 → (x4_2_12 : Int32).toInt.toNat < n → ∀ (H : Heap) (locs : List Loc), va_P G vwCl [] H → va_D A [] → va_S A s.heap H locs → ∀ (ls : Array Slot), lv_has ls 3 [(2, .int x4_2_12), (1, .int x4_1_13), (0, .int i_0)] → W p l e R s m args below meth c H locs 0 0 Q (F0 m 4 ls []) := by
    intro n
    induction n with
    | zero => intro x4_2_12 x4_1_13 rx4_2_12 rx4_1_13 w14 hm; exact absurd hm (Nat.not_lt_zero _)
    | succ n ih4 =>
      intro x4_2_12 x4_1_13 rx4_2_12 rx4_1_13 w14 hm4 H locs hP hD hS ls hl
      refine lv_iload_n hx hb dX12_sizeOf_4 rfl (lv_at hl 0 rfl) ?_
      refine lv_if_eq (tgt := 20) hx hb dX12_sizeOf_5 (by decide) (fun c16 => ?_) (fun c16 => ?_)
      · have q17 := mm_eqI (lo := 0) (hi := 0) c16 rx4_2_12 mm_k0 (by decide)
        refine lv_iload_n hx hb dX12_sizeOf_20 rfl (lv_at hl 1 rfl) ?_
        have w18 : mm_pcn i_0 x4_1_13 := (mm_pcn_of w14 q17 (by decide))
        subst hAe
        rw [hQ]
        exact W.iret (v := x4_1_13) hx hb hr (fun t ht hW => ⟨⟨x4_1_13, (), rfl, ⟨rx4_1_13, w18⟩, by rw [ht]; exact hP, hK.warm hW, hD⟩, hS.F ht⟩) hS.2.2 dX12_sizeOf_21
      · have q19 := mm_neL (lo := 1) (mm_ne c16) rx4_2_12 mm_k0 (by decide) (by decide)
        obtain ⟨v20, ev20⟩ : ∃ y : Int32, y = x4_1_13 + 1 := ⟨_, rfl⟩
        refine lv_iinc (v := v20) (lv' := [(1, .int v20), (2, .int x4_2_12), (0, .int i_0)]) hx hb dX12_sizeOf_8 hl (k := 1) rfl (by rw [ev20]; rfl) (by decide) rfl ?_
        clear hl
        clear ls
        intro ls hl
        have rv20 : mm_rg v20 1 8 := mm_add ev20 rx4_1_13 mm_k1 (by decide) (by decide)
        have tv20 := mm_addEc ev20 rx4_1_13 mm_k1 (by decide) (k := 1) (by decide)
        refine lv_iload_n hx hb dX12_sizeOf_11 rfl (lv_at hl 1 rfl) ?_
        refine lv_iload_n hx hb dX12_sizeOf_12 rfl (lv_at hl 1 rfl) ?_
        refine lv_iconst (v := 1) hx hb dX12_sizeOf_13 (by decide) ?_
        refine lv_isub hx hb dX12_sizeOf_14 ?_
        refine lv_topi (fun v21 ev21 => ?_)
        have rv21 : mm_rg v21 0 126 := mm_sub ev21 q19 mm_k1 (by decide) (by decide)
        have tv21 := mm_subEc ev21 q19 mm_k1 (by decide) (k := (-1)) (by decide)
        refine lv_iand hx hb dX12_sizeOf_15 ?_
        refine lv_topi (fun v22 ev22 => ?_)
        have rv22 : mm_rg v22 0 126 := mm_andR ev22 rv21 (by decide)
        refine lv_istore_n (lv' := [(2, .int v22), (1, .int v20), (0, .int i_0)]) hx hb dX12_sizeOf_16 rfl hl (by decide) rfl ?_
        clear hl
        clear ls
        intro ls hl
        refine lv_goto (tgt := 4) hx hb dX12_sizeOf_17 (by decide) ?_
        have w23 : mm_pcs i_0 v20 v22 := (mm_pcs_s w14 tv20 ev22 ev21 q19 (by decide))
        have q24 : mm_rg v20 1 7 := mm_pcs_rg w23 rv20 (by decide)
        have q25 : mm_rg v22 0 127 := mm_pcs_an ev22 q19 (by decide)
        exact ih4 v22 v20 q25 (mm_wk q24 (by decide)) w23 (mm_szM hm4 ev22 ev21 q19 (by decide)) H locs hP hD hS ls (lv_sub hl [0, 1, 2] rfl)
  exact L4_14 _ i_0 0 h0 (mm_wk mm_k0 (by decide)) (mm_pcs_0 _) (Nat.lt_succ_self _) H locs hP hD hS ls (lv_sub hl [0, 1, 2] rfl)

set_option maxHeartbeats 4000000 in
set_option maxRecDepth 100000 in
theorem M245_X12_power (l : Launch) (G : va_G) (cy : Nat → ClassId) (sz : Nat) (j_0 : Int64) (i_0 : Int32) (h0 : mm_rl j_0 0 10) (h1 : mm_rg i_0 0 0)  : mm_CL l yX12_power (mm_ws yX12_power cX12_power 3 (some .long)) ({ frames := 0, cells := 0, slots := 0, locals := 0 } : Room) G cy sz [] [.long j_0, .int i_0] (fun u : Unit => []) (fun (r : Int64) (u : Unit) => mm_rl r 1 1 ∧ mm_pw i_0 r) 0 0 := by
  refine mm_begin (lv := [(0, .long j_0), (2, .int i_0)]) (by decide) (Nat.le_of_ble_eq_true rfl) rfl ?_
  intro p e s m below meth c A ls R args Q H locs hRe hQ hAe hx hb hr hlocks hml hown hnm hts hsz hA hS hP hK hD hZ hl
  have hRf : R.frames = 0 := by rw [hRe]
  have hRl : R.locals = 0 := by rw [hRe]
  have hRc : R.cells = 0 := by rw [hRe]
  have hRs : R.slots = 0 := by rw [hRe]
  refine lv_iload_n hx hb dX12_power_0 rfl (lv_at hl 1 rfl) ?_
  refine lv_if_ne (tgt := 8) hx hb dX12_power_1 (by decide) (fun c1 => ?_) (fun c1 => ?_)
  · have q2 := mm_neL (lo := 1) (mm_ne c1) h1 mm_k0 (by decide) (by decide)
    exact mm_no q2 (by decide)
  · refine lv_lconst (v := 1) hx hb dX12_power_4 (by decide) ?_
    refine lv_goto (tgt := 17) hx hb dX12_power_5 (by decide) ?_
    have w3 : mm_pw i_0 1 := (mm_pw_0 _)
    subst hAe
    rw [hQ]
    exact W.lret (v := 1) hx hb hr (fun t ht hW => ⟨⟨1, (), rfl, ⟨mm_kl1, w3⟩, by rw [ht]; exact hP, hK.warm hW, hD⟩, hS.F ht⟩) hS.2.2 dX12_power_17

set_option maxHeartbeats 4000000 in
set_option maxRecDepth 100000 in
theorem M246_X12_power (l : Launch) (G : va_G) (cy : Nat → ClassId) (sz : Nat) (j_0 : Int64) (i_0 : Int32) (h0 : mm_rl j_0 0 10) (h1 : mm_rg i_0 0 1)  : mm_CL l yX12_power (mm_ws yX12_power cX12_power 3 (some .long)) ({ frames := 1, cells := 0, slots := 0, locals := 22 } : Room) G cy sz [] [.long j_0, .int i_0] (fun u : Unit => []) (fun (r : Int64) (u : Unit) => mm_rl r 0 10 ∧ mm_pw i_0 r) 0 0 := by
  refine mm_begin (lv := [(0, .long j_0), (2, .int i_0)]) (by decide) (Nat.le_of_ble_eq_true rfl) rfl ?_
  intro p e s m below meth c A ls R args Q H locs hRe hQ hAe hx hb hr hlocks hml hown hnm hts hsz hA hS hP hK hD hZ hl
  have hRf : R.frames = 1 := by rw [hRe]
  have hRl : R.locals = 22 := by rw [hRe]
  have hRc : R.cells = 0 := by rw [hRe]
  have hRs : R.slots = 0 := by rw [hRe]
  refine lv_iload_n hx hb dX12_power_0 rfl (lv_at hl 1 rfl) ?_
  refine lv_if_ne (tgt := 8) hx hb dX12_power_1 (by decide) (fun c1 => ?_) (fun c1 => ?_)
  · have q2 := mm_neL (lo := 1) (mm_ne c1) h1 mm_k0 (by decide) (by decide)
    refine lv_lload_n hx hb dX12_power_8 rfl (lv_at hl 0 rfl) ?_
    refine lv_lload_n hx hb dX12_power_9 rfl (lv_at hl 0 rfl) ?_
    refine lv_iload_n hx hb dX12_power_10 rfl (lv_at hl 1 rfl) ?_
    refine lv_iconst (v := 1) hx hb dX12_power_11 (by decide) ?_
    refine lv_isub hx hb dX12_power_12 ?_
    refine lv_topi (fun v3 ev3 => ?_)
    have rv3 : mm_rg v3 0 0 := mm_sub ev3 q2 mm_k1 (by decide) (by decide)
    have tv3 := mm_subEc ev3 q2 mm_k1 (by decide) (k := (-1)) (by decide)
    refine mm_finlr (va_runS (As := [.long j_0, .int v3]) (rest := [.long j_0]) ⟨hx, hb, hml, hown, hts⟩ (M245_X12_power l G cy H.size j_0 v3 h0 rv3) (va_cwS 2 hts (mm_gS mm_w1523 mm_w1524 mm_w5 mm_w1525) rfl rfl rfl hs_X12_power ⟨by rw [hRf]; exact Nat.le_of_ble_eq_true rfl, by rw [hRl]; exact Nat.le_of_ble_eq_true rfl⟩) (mm_preS hK hZ hS hA hP hD [] rfl rfl) rfl rfl hl.1 rfl (lv_room (Nat.le_of_ble_eq_true rfl)) dX12_power_13 ⟨by rw [hRc]; exact Nat.le_of_ble_eq_true rfl, by rw [hRs]; exact Nat.le_of_ble_eq_true rfl⟩) hP hD hS hA [] rfl (fun _ => rfl) ?_
    clear hP hD hS
    clear H locs
    intro v4 _u H locs hw hP hD hS
    obtain ⟨w5, w6⟩ := hw
    refine lv_lmul hx hb dX12_power_16 ?_
    refine lv_topl (fun v7 ev7 => ?_)
    have rv7 : mm_rl v7 0 10 := mm_mull ev7 h0 w5 (by decide) (by decide)
    have w8 : mm_pw i_0 v7 := (mm_pw_s w6 tv3 ev7 h0 w5 rv3 (by decide))
    subst hAe
    rw [hQ]
    exact W.lret (v := v7) hx hb hr (fun t ht hW => ⟨⟨v7, (), rfl, ⟨rv7, w8⟩, by rw [ht]; exact hP, hK.warm hW, hD⟩, hS.F ht⟩) hS.2.2 dX12_power_17
  · have q9 := mm_eqI (lo := 0) (hi := 0) c1 h1 mm_k0 (by decide)
    refine lv_lconst (v := 1) hx hb dX12_power_4 (by decide) ?_
    refine lv_goto (tgt := 17) hx hb dX12_power_5 (by decide) ?_
    have w10 : mm_pw i_0 1 := (mm_pw_0 _)
    subst hAe
    rw [hQ]
    exact W.lret (v := 1) hx hb hr (fun t ht hW => ⟨⟨1, (), rfl, ⟨(mm_wkl mm_kl1 (by decide)), w10⟩, by rw [ht]; exact hP, hK.warm hW, hD⟩, hS.F ht⟩) hS.2.2 dX12_power_17

set_option maxHeartbeats 4000000 in
set_option maxRecDepth 100000 in
theorem M247_X12_power (l : Launch) (G : va_G) (cy : Nat → ClassId) (sz : Nat) (j_0 : Int64) (i_0 : Int32) (h0 : mm_rl j_0 0 10) (h1 : mm_rg i_0 0 2)  : mm_CL l yX12_power (mm_ws yX12_power cX12_power 3 (some .long)) ({ frames := 2, cells := 0, slots := 0, locals := 44 } : Room) G cy sz [] [.long j_0, .int i_0] (fun u : Unit => []) (fun (r : Int64) (u : Unit) => mm_rl r 0 100 ∧ mm_pw i_0 r) 0 0 := by
  refine mm_begin (lv := [(0, .long j_0), (2, .int i_0)]) (by decide) (Nat.le_of_ble_eq_true rfl) rfl ?_
  intro p e s m below meth c A ls R args Q H locs hRe hQ hAe hx hb hr hlocks hml hown hnm hts hsz hA hS hP hK hD hZ hl
  have hRf : R.frames = 2 := by rw [hRe]
  have hRl : R.locals = 44 := by rw [hRe]
  have hRc : R.cells = 0 := by rw [hRe]
  have hRs : R.slots = 0 := by rw [hRe]
  refine lv_iload_n hx hb dX12_power_0 rfl (lv_at hl 1 rfl) ?_
  refine lv_if_ne (tgt := 8) hx hb dX12_power_1 (by decide) (fun c1 => ?_) (fun c1 => ?_)
  · have q2 := mm_neL (lo := 1) (mm_ne c1) h1 mm_k0 (by decide) (by decide)
    refine lv_lload_n hx hb dX12_power_8 rfl (lv_at hl 0 rfl) ?_
    refine lv_lload_n hx hb dX12_power_9 rfl (lv_at hl 0 rfl) ?_
    refine lv_iload_n hx hb dX12_power_10 rfl (lv_at hl 1 rfl) ?_
    refine lv_iconst (v := 1) hx hb dX12_power_11 (by decide) ?_
    refine lv_isub hx hb dX12_power_12 ?_
    refine lv_topi (fun v3 ev3 => ?_)
    have rv3 : mm_rg v3 0 1 := mm_sub ev3 q2 mm_k1 (by decide) (by decide)
    have tv3 := mm_subEc ev3 q2 mm_k1 (by decide) (k := (-1)) (by decide)
    refine mm_finlr (va_runS (As := [.long j_0, .int v3]) (rest := [.long j_0]) ⟨hx, hb, hml, hown, hts⟩ (M246_X12_power l G cy H.size j_0 v3 h0 rv3) (va_cwS 2 hts (mm_gS mm_w1523 mm_w1524 mm_w5 mm_w1525) rfl rfl rfl hs_X12_power ⟨by rw [hRf]; exact Nat.le_of_ble_eq_true rfl, by rw [hRl]; exact Nat.le_of_ble_eq_true rfl⟩) (mm_preS hK hZ hS hA hP hD [] rfl rfl) rfl rfl hl.1 rfl (lv_room (Nat.le_of_ble_eq_true rfl)) dX12_power_13 ⟨by rw [hRc]; exact Nat.le_of_ble_eq_true rfl, by rw [hRs]; exact Nat.le_of_ble_eq_true rfl⟩) hP hD hS hA [] rfl (fun _ => rfl) ?_
    clear hP hD hS
    clear H locs
    intro v4 _u H locs hw hP hD hS
    obtain ⟨w5, w6⟩ := hw
    refine lv_lmul hx hb dX12_power_16 ?_
    refine lv_topl (fun v7 ev7 => ?_)
    have rv7 : mm_rl v7 0 100 := mm_mull ev7 h0 w5 (by decide) (by decide)
    have w8 : mm_pw i_0 v7 := (mm_pw_s w6 tv3 ev7 h0 w5 rv3 (by decide))
    subst hAe
    rw [hQ]
    exact W.lret (v := v7) hx hb hr (fun t ht hW => ⟨⟨v7, (), rfl, ⟨rv7, w8⟩, by rw [ht]; exact hP, hK.warm hW, hD⟩, hS.F ht⟩) hS.2.2 dX12_power_17
  · have q9 := mm_eqI (lo := 0) (hi := 0) c1 h1 mm_k0 (by decide)
    refine lv_lconst (v := 1) hx hb dX12_power_4 (by decide) ?_
    refine lv_goto (tgt := 17) hx hb dX12_power_5 (by decide) ?_
    have w10 : mm_pw i_0 1 := (mm_pw_0 _)
    subst hAe
    rw [hQ]
    exact W.lret (v := 1) hx hb hr (fun t ht hW => ⟨⟨1, (), rfl, ⟨(mm_wkl mm_kl1 (by decide)), w10⟩, by rw [ht]; exact hP, hK.warm hW, hD⟩, hS.F ht⟩) hS.2.2 dX12_power_17

set_option maxHeartbeats 4000000 in
set_option maxRecDepth 100000 in
theorem M248_X12_power (l : Launch) (G : va_G) (cy : Nat → ClassId) (sz : Nat) (j_0 : Int64) (i_0 : Int32) (h0 : mm_rl j_0 0 10) (h1 : mm_rg i_0 0 3)  : mm_CL l yX12_power (mm_ws yX12_power cX12_power 3 (some .long)) ({ frames := 3, cells := 0, slots := 0, locals := 66 } : Room) G cy sz [] [.long j_0, .int i_0] (fun u : Unit => []) (fun (r : Int64) (u : Unit) => mm_rl r 0 1000 ∧ mm_pw i_0 r) 0 0 := by
  refine mm_begin (lv := [(0, .long j_0), (2, .int i_0)]) (by decide) (Nat.le_of_ble_eq_true rfl) rfl ?_
  intro p e s m below meth c A ls R args Q H locs hRe hQ hAe hx hb hr hlocks hml hown hnm hts hsz hA hS hP hK hD hZ hl
  have hRf : R.frames = 3 := by rw [hRe]
  have hRl : R.locals = 66 := by rw [hRe]
  have hRc : R.cells = 0 := by rw [hRe]
  have hRs : R.slots = 0 := by rw [hRe]
  refine lv_iload_n hx hb dX12_power_0 rfl (lv_at hl 1 rfl) ?_
  refine lv_if_ne (tgt := 8) hx hb dX12_power_1 (by decide) (fun c1 => ?_) (fun c1 => ?_)
  · have q2 := mm_neL (lo := 1) (mm_ne c1) h1 mm_k0 (by decide) (by decide)
    refine lv_lload_n hx hb dX12_power_8 rfl (lv_at hl 0 rfl) ?_
    refine lv_lload_n hx hb dX12_power_9 rfl (lv_at hl 0 rfl) ?_
    refine lv_iload_n hx hb dX12_power_10 rfl (lv_at hl 1 rfl) ?_
    refine lv_iconst (v := 1) hx hb dX12_power_11 (by decide) ?_
    refine lv_isub hx hb dX12_power_12 ?_
    refine lv_topi (fun v3 ev3 => ?_)
    have rv3 : mm_rg v3 0 2 := mm_sub ev3 q2 mm_k1 (by decide) (by decide)
    have tv3 := mm_subEc ev3 q2 mm_k1 (by decide) (k := (-1)) (by decide)
    refine mm_finlr (va_runS (As := [.long j_0, .int v3]) (rest := [.long j_0]) ⟨hx, hb, hml, hown, hts⟩ (M247_X12_power l G cy H.size j_0 v3 h0 rv3) (va_cwS 2 hts (mm_gS mm_w1523 mm_w1524 mm_w5 mm_w1525) rfl rfl rfl hs_X12_power ⟨by rw [hRf]; exact Nat.le_of_ble_eq_true rfl, by rw [hRl]; exact Nat.le_of_ble_eq_true rfl⟩) (mm_preS hK hZ hS hA hP hD [] rfl rfl) rfl rfl hl.1 rfl (lv_room (Nat.le_of_ble_eq_true rfl)) dX12_power_13 ⟨by rw [hRc]; exact Nat.le_of_ble_eq_true rfl, by rw [hRs]; exact Nat.le_of_ble_eq_true rfl⟩) hP hD hS hA [] rfl (fun _ => rfl) ?_
    clear hP hD hS
    clear H locs
    intro v4 _u H locs hw hP hD hS
    obtain ⟨w5, w6⟩ := hw
    refine lv_lmul hx hb dX12_power_16 ?_
    refine lv_topl (fun v7 ev7 => ?_)
    have rv7 : mm_rl v7 0 1000 := mm_mull ev7 h0 w5 (by decide) (by decide)
    have w8 : mm_pw i_0 v7 := (mm_pw_s w6 tv3 ev7 h0 w5 rv3 (by decide))
    subst hAe
    rw [hQ]
    exact W.lret (v := v7) hx hb hr (fun t ht hW => ⟨⟨v7, (), rfl, ⟨rv7, w8⟩, by rw [ht]; exact hP, hK.warm hW, hD⟩, hS.F ht⟩) hS.2.2 dX12_power_17
  · have q9 := mm_eqI (lo := 0) (hi := 0) c1 h1 mm_k0 (by decide)
    refine lv_lconst (v := 1) hx hb dX12_power_4 (by decide) ?_
    refine lv_goto (tgt := 17) hx hb dX12_power_5 (by decide) ?_
    have w10 : mm_pw i_0 1 := (mm_pw_0 _)
    subst hAe
    rw [hQ]
    exact W.lret (v := 1) hx hb hr (fun t ht hW => ⟨⟨1, (), rfl, ⟨(mm_wkl mm_kl1 (by decide)), w10⟩, by rw [ht]; exact hP, hK.warm hW, hD⟩, hS.F ht⟩) hS.2.2 dX12_power_17

set_option maxHeartbeats 4000000 in
set_option maxRecDepth 100000 in
theorem M249_X12_power (l : Launch) (G : va_G) (cy : Nat → ClassId) (sz : Nat) (j_0 : Int64) (i_0 : Int32) (h0 : mm_rl j_0 0 10) (h1 : mm_rg i_0 0 4)  : mm_CL l yX12_power (mm_ws yX12_power cX12_power 3 (some .long)) ({ frames := 4, cells := 0, slots := 0, locals := 88 } : Room) G cy sz [] [.long j_0, .int i_0] (fun u : Unit => []) (fun (r : Int64) (u : Unit) => mm_rl r 0 10000 ∧ mm_pw i_0 r) 0 0 := by
  refine mm_begin (lv := [(0, .long j_0), (2, .int i_0)]) (by decide) (Nat.le_of_ble_eq_true rfl) rfl ?_
  intro p e s m below meth c A ls R args Q H locs hRe hQ hAe hx hb hr hlocks hml hown hnm hts hsz hA hS hP hK hD hZ hl
  have hRf : R.frames = 4 := by rw [hRe]
  have hRl : R.locals = 88 := by rw [hRe]
  have hRc : R.cells = 0 := by rw [hRe]
  have hRs : R.slots = 0 := by rw [hRe]
  refine lv_iload_n hx hb dX12_power_0 rfl (lv_at hl 1 rfl) ?_
  refine lv_if_ne (tgt := 8) hx hb dX12_power_1 (by decide) (fun c1 => ?_) (fun c1 => ?_)
  · have q2 := mm_neL (lo := 1) (mm_ne c1) h1 mm_k0 (by decide) (by decide)
    refine lv_lload_n hx hb dX12_power_8 rfl (lv_at hl 0 rfl) ?_
    refine lv_lload_n hx hb dX12_power_9 rfl (lv_at hl 0 rfl) ?_
    refine lv_iload_n hx hb dX12_power_10 rfl (lv_at hl 1 rfl) ?_
    refine lv_iconst (v := 1) hx hb dX12_power_11 (by decide) ?_
    refine lv_isub hx hb dX12_power_12 ?_
    refine lv_topi (fun v3 ev3 => ?_)
    have rv3 : mm_rg v3 0 3 := mm_sub ev3 q2 mm_k1 (by decide) (by decide)
    have tv3 := mm_subEc ev3 q2 mm_k1 (by decide) (k := (-1)) (by decide)
    refine mm_finlr (va_runS (As := [.long j_0, .int v3]) (rest := [.long j_0]) ⟨hx, hb, hml, hown, hts⟩ (M248_X12_power l G cy H.size j_0 v3 h0 rv3) (va_cwS 2 hts (mm_gS mm_w1523 mm_w1524 mm_w5 mm_w1525) rfl rfl rfl hs_X12_power ⟨by rw [hRf]; exact Nat.le_of_ble_eq_true rfl, by rw [hRl]; exact Nat.le_of_ble_eq_true rfl⟩) (mm_preS hK hZ hS hA hP hD [] rfl rfl) rfl rfl hl.1 rfl (lv_room (Nat.le_of_ble_eq_true rfl)) dX12_power_13 ⟨by rw [hRc]; exact Nat.le_of_ble_eq_true rfl, by rw [hRs]; exact Nat.le_of_ble_eq_true rfl⟩) hP hD hS hA [] rfl (fun _ => rfl) ?_
    clear hP hD hS
    clear H locs
    intro v4 _u H locs hw hP hD hS
    obtain ⟨w5, w6⟩ := hw
    refine lv_lmul hx hb dX12_power_16 ?_
    refine lv_topl (fun v7 ev7 => ?_)
    have rv7 : mm_rl v7 0 10000 := mm_mull ev7 h0 w5 (by decide) (by decide)
    have w8 : mm_pw i_0 v7 := (mm_pw_s w6 tv3 ev7 h0 w5 rv3 (by decide))
    subst hAe
    rw [hQ]
    exact W.lret (v := v7) hx hb hr (fun t ht hW => ⟨⟨v7, (), rfl, ⟨rv7, w8⟩, by rw [ht]; exact hP, hK.warm hW, hD⟩, hS.F ht⟩) hS.2.2 dX12_power_17
  · have q9 := mm_eqI (lo := 0) (hi := 0) c1 h1 mm_k0 (by decide)
    refine lv_lconst (v := 1) hx hb dX12_power_4 (by decide) ?_
    refine lv_goto (tgt := 17) hx hb dX12_power_5 (by decide) ?_
    have w10 : mm_pw i_0 1 := (mm_pw_0 _)
    subst hAe
    rw [hQ]
    exact W.lret (v := 1) hx hb hr (fun t ht hW => ⟨⟨1, (), rfl, ⟨(mm_wkl mm_kl1 (by decide)), w10⟩, by rw [ht]; exact hP, hK.warm hW, hD⟩, hS.F ht⟩) hS.2.2 dX12_power_17

set_option maxHeartbeats 4000000 in
set_option maxRecDepth 100000 in
theorem M250_X12_power (l : Launch) (G : va_G) (cy : Nat → ClassId) (sz : Nat) (j_0 : Int64) (i_0 : Int32) (h0 : mm_rl j_0 0 10) (h1 : mm_rg i_0 0 5)  : mm_CL l yX12_power (mm_ws yX12_power cX12_power 3 (some .long)) ({ frames := 5, cells := 0, slots := 0, locals := 110 } : Room) G cy sz [] [.long j_0, .int i_0] (fun u : Unit => []) (fun (r : Int64) (u : Unit) => mm_rl r 0 100000 ∧ mm_pw i_0 r) 0 0 := by
  refine mm_begin (lv := [(0, .long j_0), (2, .int i_0)]) (by decide) (Nat.le_of_ble_eq_true rfl) rfl ?_
  intro p e s m below meth c A ls R args Q H locs hRe hQ hAe hx hb hr hlocks hml hown hnm hts hsz hA hS hP hK hD hZ hl
  have hRf : R.frames = 5 := by rw [hRe]
  have hRl : R.locals = 110 := by rw [hRe]
  have hRc : R.cells = 0 := by rw [hRe]
  have hRs : R.slots = 0 := by rw [hRe]
  refine lv_iload_n hx hb dX12_power_0 rfl (lv_at hl 1 rfl) ?_
  refine lv_if_ne (tgt := 8) hx hb dX12_power_1 (by decide) (fun c1 => ?_) (fun c1 => ?_)
  · have q2 := mm_neL (lo := 1) (mm_ne c1) h1 mm_k0 (by decide) (by decide)
    refine lv_lload_n hx hb dX12_power_8 rfl (lv_at hl 0 rfl) ?_
    refine lv_lload_n hx hb dX12_power_9 rfl (lv_at hl 0 rfl) ?_
    refine lv_iload_n hx hb dX12_power_10 rfl (lv_at hl 1 rfl) ?_
    refine lv_iconst (v := 1) hx hb dX12_power_11 (by decide) ?_
    refine lv_isub hx hb dX12_power_12 ?_
    refine lv_topi (fun v3 ev3 => ?_)
    have rv3 : mm_rg v3 0 4 := mm_sub ev3 q2 mm_k1 (by decide) (by decide)
    have tv3 := mm_subEc ev3 q2 mm_k1 (by decide) (k := (-1)) (by decide)
    refine mm_finlr (va_runS (As := [.long j_0, .int v3]) (rest := [.long j_0]) ⟨hx, hb, hml, hown, hts⟩ (M249_X12_power l G cy H.size j_0 v3 h0 rv3) (va_cwS 2 hts (mm_gS mm_w1523 mm_w1524 mm_w5 mm_w1525) rfl rfl rfl hs_X12_power ⟨by rw [hRf]; exact Nat.le_of_ble_eq_true rfl, by rw [hRl]; exact Nat.le_of_ble_eq_true rfl⟩) (mm_preS hK hZ hS hA hP hD [] rfl rfl) rfl rfl hl.1 rfl (lv_room (Nat.le_of_ble_eq_true rfl)) dX12_power_13 ⟨by rw [hRc]; exact Nat.le_of_ble_eq_true rfl, by rw [hRs]; exact Nat.le_of_ble_eq_true rfl⟩) hP hD hS hA [] rfl (fun _ => rfl) ?_
    clear hP hD hS
    clear H locs
    intro v4 _u H locs hw hP hD hS
    obtain ⟨w5, w6⟩ := hw
    refine lv_lmul hx hb dX12_power_16 ?_
    refine lv_topl (fun v7 ev7 => ?_)
    have rv7 : mm_rl v7 0 100000 := mm_mull ev7 h0 w5 (by decide) (by decide)
    have w8 : mm_pw i_0 v7 := (mm_pw_s w6 tv3 ev7 h0 w5 rv3 (by decide))
    subst hAe
    rw [hQ]
    exact W.lret (v := v7) hx hb hr (fun t ht hW => ⟨⟨v7, (), rfl, ⟨rv7, w8⟩, by rw [ht]; exact hP, hK.warm hW, hD⟩, hS.F ht⟩) hS.2.2 dX12_power_17
  · have q9 := mm_eqI (lo := 0) (hi := 0) c1 h1 mm_k0 (by decide)
    refine lv_lconst (v := 1) hx hb dX12_power_4 (by decide) ?_
    refine lv_goto (tgt := 17) hx hb dX12_power_5 (by decide) ?_
    have w10 : mm_pw i_0 1 := (mm_pw_0 _)
    subst hAe
    rw [hQ]
    exact W.lret (v := 1) hx hb hr (fun t ht hW => ⟨⟨1, (), rfl, ⟨(mm_wkl mm_kl1 (by decide)), w10⟩, by rw [ht]; exact hP, hK.warm hW, hD⟩, hS.F ht⟩) hS.2.2 dX12_power_17

set_option maxHeartbeats 4000000 in
set_option maxRecDepth 100000 in
theorem M251_X12_power (l : Launch) (G : va_G) (cy : Nat → ClassId) (sz : Nat) (j_0 : Int64) (i_0 : Int32) (h0 : mm_rl j_0 0 10) (h1 : mm_rg i_0 0 6)  : mm_CL l yX12_power (mm_ws yX12_power cX12_power 3 (some .long)) ({ frames := 6, cells := 0, slots := 0, locals := 132 } : Room) G cy sz [] [.long j_0, .int i_0] (fun u : Unit => []) (fun (r : Int64) (u : Unit) => mm_rl r 0 1000000 ∧ mm_pw i_0 r) 0 0 := by
  refine mm_begin (lv := [(0, .long j_0), (2, .int i_0)]) (by decide) (Nat.le_of_ble_eq_true rfl) rfl ?_
  intro p e s m below meth c A ls R args Q H locs hRe hQ hAe hx hb hr hlocks hml hown hnm hts hsz hA hS hP hK hD hZ hl
  have hRf : R.frames = 6 := by rw [hRe]
  have hRl : R.locals = 132 := by rw [hRe]
  have hRc : R.cells = 0 := by rw [hRe]
  have hRs : R.slots = 0 := by rw [hRe]
  refine lv_iload_n hx hb dX12_power_0 rfl (lv_at hl 1 rfl) ?_
  refine lv_if_ne (tgt := 8) hx hb dX12_power_1 (by decide) (fun c1 => ?_) (fun c1 => ?_)
  · have q2 := mm_neL (lo := 1) (mm_ne c1) h1 mm_k0 (by decide) (by decide)
    refine lv_lload_n hx hb dX12_power_8 rfl (lv_at hl 0 rfl) ?_
    refine lv_lload_n hx hb dX12_power_9 rfl (lv_at hl 0 rfl) ?_
    refine lv_iload_n hx hb dX12_power_10 rfl (lv_at hl 1 rfl) ?_
    refine lv_iconst (v := 1) hx hb dX12_power_11 (by decide) ?_
    refine lv_isub hx hb dX12_power_12 ?_
    refine lv_topi (fun v3 ev3 => ?_)
    have rv3 : mm_rg v3 0 5 := mm_sub ev3 q2 mm_k1 (by decide) (by decide)
    have tv3 := mm_subEc ev3 q2 mm_k1 (by decide) (k := (-1)) (by decide)
    refine mm_finlr (va_runS (As := [.long j_0, .int v3]) (rest := [.long j_0]) ⟨hx, hb, hml, hown, hts⟩ (M250_X12_power l G cy H.size j_0 v3 h0 rv3) (va_cwS 2 hts (mm_gS mm_w1523 mm_w1524 mm_w5 mm_w1525) rfl rfl rfl hs_X12_power ⟨by rw [hRf]; exact Nat.le_of_ble_eq_true rfl, by rw [hRl]; exact Nat.le_of_ble_eq_true rfl⟩) (mm_preS hK hZ hS hA hP hD [] rfl rfl) rfl rfl hl.1 rfl (lv_room (Nat.le_of_ble_eq_true rfl)) dX12_power_13 ⟨by rw [hRc]; exact Nat.le_of_ble_eq_true rfl, by rw [hRs]; exact Nat.le_of_ble_eq_true rfl⟩) hP hD hS hA [] rfl (fun _ => rfl) ?_
    clear hP hD hS
    clear H locs
    intro v4 _u H locs hw hP hD hS
    obtain ⟨w5, w6⟩ := hw
    refine lv_lmul hx hb dX12_power_16 ?_
    refine lv_topl (fun v7 ev7 => ?_)
    have rv7 : mm_rl v7 0 1000000 := mm_mull ev7 h0 w5 (by decide) (by decide)
    have w8 : mm_pw i_0 v7 := (mm_pw_s w6 tv3 ev7 h0 w5 rv3 (by decide))
    subst hAe
    rw [hQ]
    exact W.lret (v := v7) hx hb hr (fun t ht hW => ⟨⟨v7, (), rfl, ⟨rv7, w8⟩, by rw [ht]; exact hP, hK.warm hW, hD⟩, hS.F ht⟩) hS.2.2 dX12_power_17
  · have q9 := mm_eqI (lo := 0) (hi := 0) c1 h1 mm_k0 (by decide)
    refine lv_lconst (v := 1) hx hb dX12_power_4 (by decide) ?_
    refine lv_goto (tgt := 17) hx hb dX12_power_5 (by decide) ?_
    have w10 : mm_pw i_0 1 := (mm_pw_0 _)
    subst hAe
    rw [hQ]
    exact W.lret (v := 1) hx hb hr (fun t ht hW => ⟨⟨1, (), rfl, ⟨(mm_wkl mm_kl1 (by decide)), w10⟩, by rw [ht]; exact hP, hK.warm hW, hD⟩, hS.F ht⟩) hS.2.2 dX12_power_17

set_option maxHeartbeats 4000000 in
set_option maxRecDepth 100000 in
theorem M252_X12_power (l : Launch) (G : va_G) (cy : Nat → ClassId) (sz : Nat) (j_0 : Int64) (i_0 : Int32) (h0 : mm_rl j_0 0 10) (h1 : mm_rg i_0 0 7)  : mm_CL l yX12_power (mm_ws yX12_power cX12_power 3 (some .long)) ({ frames := 7, cells := 0, slots := 0, locals := 154 } : Room) G cy sz [] [.long j_0, .int i_0] (fun u : Unit => []) (fun (r : Int64) (u : Unit) => mm_rl r 0 10000000 ∧ mm_pw i_0 r) 0 0 := by
  refine mm_begin (lv := [(0, .long j_0), (2, .int i_0)]) (by decide) (Nat.le_of_ble_eq_true rfl) rfl ?_
  intro p e s m below meth c A ls R args Q H locs hRe hQ hAe hx hb hr hlocks hml hown hnm hts hsz hA hS hP hK hD hZ hl
  have hRf : R.frames = 7 := by rw [hRe]
  have hRl : R.locals = 154 := by rw [hRe]
  have hRc : R.cells = 0 := by rw [hRe]
  have hRs : R.slots = 0 := by rw [hRe]
  refine lv_iload_n hx hb dX12_power_0 rfl (lv_at hl 1 rfl) ?_
  refine lv_if_ne (tgt := 8) hx hb dX12_power_1 (by decide) (fun c1 => ?_) (fun c1 => ?_)
  · have q2 := mm_neL (lo := 1) (mm_ne c1) h1 mm_k0 (by decide) (by decide)
    refine lv_lload_n hx hb dX12_power_8 rfl (lv_at hl 0 rfl) ?_
    refine lv_lload_n hx hb dX12_power_9 rfl (lv_at hl 0 rfl) ?_
    refine lv_iload_n hx hb dX12_power_10 rfl (lv_at hl 1 rfl) ?_
    refine lv_iconst (v := 1) hx hb dX12_power_11 (by decide) ?_
    refine lv_isub hx hb dX12_power_12 ?_
    refine lv_topi (fun v3 ev3 => ?_)
    have rv3 : mm_rg v3 0 6 := mm_sub ev3 q2 mm_k1 (by decide) (by decide)
    have tv3 := mm_subEc ev3 q2 mm_k1 (by decide) (k := (-1)) (by decide)
    refine mm_finlr (va_runS (As := [.long j_0, .int v3]) (rest := [.long j_0]) ⟨hx, hb, hml, hown, hts⟩ (M251_X12_power l G cy H.size j_0 v3 h0 rv3) (va_cwS 2 hts (mm_gS mm_w1523 mm_w1524 mm_w5 mm_w1525) rfl rfl rfl hs_X12_power ⟨by rw [hRf]; exact Nat.le_of_ble_eq_true rfl, by rw [hRl]; exact Nat.le_of_ble_eq_true rfl⟩) (mm_preS hK hZ hS hA hP hD [] rfl rfl) rfl rfl hl.1 rfl (lv_room (Nat.le_of_ble_eq_true rfl)) dX12_power_13 ⟨by rw [hRc]; exact Nat.le_of_ble_eq_true rfl, by rw [hRs]; exact Nat.le_of_ble_eq_true rfl⟩) hP hD hS hA [] rfl (fun _ => rfl) ?_
    clear hP hD hS
    clear H locs
    intro v4 _u H locs hw hP hD hS
    obtain ⟨w5, w6⟩ := hw
    refine lv_lmul hx hb dX12_power_16 ?_
    refine lv_topl (fun v7 ev7 => ?_)
    have rv7 : mm_rl v7 0 10000000 := mm_mull ev7 h0 w5 (by decide) (by decide)
    have w8 : mm_pw i_0 v7 := (mm_pw_s w6 tv3 ev7 h0 w5 rv3 (by decide))
    subst hAe
    rw [hQ]
    exact W.lret (v := v7) hx hb hr (fun t ht hW => ⟨⟨v7, (), rfl, ⟨rv7, w8⟩, by rw [ht]; exact hP, hK.warm hW, hD⟩, hS.F ht⟩) hS.2.2 dX12_power_17
  · have q9 := mm_eqI (lo := 0) (hi := 0) c1 h1 mm_k0 (by decide)
    refine lv_lconst (v := 1) hx hb dX12_power_4 (by decide) ?_
    refine lv_goto (tgt := 17) hx hb dX12_power_5 (by decide) ?_
    have w10 : mm_pw i_0 1 := (mm_pw_0 _)
    subst hAe
    rw [hQ]
    exact W.lret (v := 1) hx hb hr (fun t ht hW => ⟨⟨1, (), rfl, ⟨(mm_wkl mm_kl1 (by decide)), w10⟩, by rw [ht]; exact hP, hK.warm hW, hD⟩, hS.F ht⟩) hS.2.2 dX12_power_17

set_option maxHeartbeats 4000000 in
set_option maxRecDepth 100000 in
theorem M253_X12_weightOf (l : Launch) (G : va_G) (cy : Nat → ClassId) (sz : Nat) (a_0 : Nat) (i_0 : Int32) (i_1 : Int32) (i_2 : Int32) (i_3 : Int32) (i_4 : Int32) (a_1 : Nat) (a_2 : Nat) (a_3 : Nat) (a_4 : Nat) (a_5 : Nat) (i_5 : Int32) (i_6 : Int32) (i_7 : Int32) (i_8 : Int32) (i_9 : Int32) (j_0 : Int64) (i_10 : Int32) (i_11 : Int32) (i_12 : Int32) (i_13 : Int32) (a_6 : Nat) (a_7 : Nat) (a_8 : Nat) (a_9 : Nat) (a_10 : Nat) (a_11 : Nat) (a_12 : Nat) (a_13 : Nat) (a_14 : Nat) (a_15 : Nat) (a_16 : Nat) (a_17 : Nat) (a_18 : Nat) (i_14 : Int32) (i_15 : Int32) (i_16 : Int32) (i_17 : Int32) (i_18 : Int32) (i_19 : Int32) (a_19 : Nat) (i_20 : Int32) (a_20 : Nat) (i_21 : Int32) (i_22 : Int32) (i_23 : Int32) (i_24 : Int32) (i_25 : Int32) (i_26 : Int32) (i_27 : Int32) (i_28 : Int32) (i_29 : Int32) (i_30 : Int32) (i_31 : Int32) (i_32 : Int32) (i_33 : Int32) (i_34 : Int32) (i_35 : Int32) (i_36 : Int32) (i_37 : Int32) (i_38 : Int32) (i_39 : Int32) (i_40 : Int32) (i_41 : Int32) (i_42 : Int32) (i_43 : Int32) (i_44 : Int32) (i_45 : Int32) (i_46 : Int32) (i_47 : Int32) (i_48 : Int32) (i_49 : Int32) (i_50 : Int32) (i_51 : Int32) (i_52 : Int32) (i_53 : Int32) (i_54 : Int32) (i_55 : Int32) (f_0 : Nat → Int32) (f_1 : Nat → Int32) (f_2 : Nat → Int32) (f_3 : Nat → Int32) (f_4 : Nat → Int32) (f_5 : Nat → Int32) (f_6 : Nat → Int32) (f_7 : Nat → Int32) (f_8 : Nat → Int32) (f_9 : Nat → Int32) (h0 : mm_rg i_0 0 2) (h1 : mm_rg i_1 0 1000000000) (h2 : mm_rg i_2 0 5) (h3 : mm_rg i_3 0 7) (h4 : mm_rg i_14 0 8) (h5 : mm_rg i_21 0 601) (h6 : mm_rg i_22 0 601) (h7 : mm_rg i_23 0 601) (h8 : mm_rg i_24 0 601) (h9 : mm_rg i_25 0 601) (h10 : mm_rg i_26 0 10) (h11 : mm_rg i_27 0 99) (h12 : mm_rg i_28 0 9) (h13 : mm_rg i_29 0 3) (h14 : mm_rg i_30 0 6) (h15 : mm_rg i_31 0 30) (h16 : mm_rg i_32 0 10) (h17 : mm_rg i_33 0 99) (h18 : mm_rg i_34 0 9) (h19 : mm_rg i_35 0 3) (h20 : mm_rg i_36 0 6) (h21 : mm_rg i_37 0 30) (h22 : mm_rg i_38 0 10) (h23 : mm_rg i_39 0 99) (h24 : mm_rg i_40 0 9) (h25 : mm_rg i_41 0 3) (h26 : mm_rg i_42 0 6) (h27 : mm_rg i_43 0 30) (h28 : mm_rg i_44 0 10) (h29 : mm_rg i_45 0 99) (h30 : mm_rg i_46 0 9) (h31 : mm_rg i_47 0 3) (h32 : mm_rg i_48 0 6) (h33 : mm_rg i_49 0 30) (h34 : mm_rg i_50 0 10) (h35 : mm_rg i_51 0 99) (h36 : mm_rg i_52 0 9) (h37 : mm_rg i_53 0 3) (h38 : mm_rg i_54 0 6) (h39 : mm_rg i_55 0 30) (h40 : mm_ar f_0 0 99) (h41 : mm_ar f_1 0 7) (h42 : mm_ar f_2 0 9) (h43 : mm_ar f_3 0 8) (h44 : mm_ar f_4 0 9) (h45 : mm_ar f_5 (-1) 99) (h46 : mm_ar f_6 0 9) (h47 : mm_ar f_7 0 210) (h48 : mm_ar f_8 0 210) (h49 : mm_ar f_9 0 9) (h50 : mm_rls f_1 f_2 0 i_28 i_29) (h51 : mm_txs f_3 f_4 0 i_28 i_30) (h52 : mm_acs f_5 0 i_28 i_29 i_31) (h53 : mm_tl i_21 i_29 i_30) (h54 : mm_rls f_1 f_2 1 i_34 i_35) (h55 : mm_txs f_3 f_4 1 i_34 i_36) (h56 : mm_acs f_5 1 i_34 i_35 i_37) (h57 : mm_tl i_22 i_35 i_36) (h58 : mm_rls f_1 f_2 2 i_40 i_41) (h59 : mm_txs f_3 f_4 2 i_40 i_42) (h60 : mm_acs f_5 2 i_40 i_41 i_43) (h61 : mm_tl i_23 i_41 i_42) (h62 : mm_rls f_1 f_2 3 i_46 i_47) (h63 : mm_txs f_3 f_4 3 i_46 i_48) (h64 : mm_acs f_5 3 i_46 i_47 i_49) (h65 : mm_tl i_24 i_47 i_48) (h66 : (i_0 : Int32).toInt < (i_29 : Int32).toInt)  : mm_CL l yX12_weightOf (mm_ws yX12_weightOf cX12_weightOf 13 (some .long)) ({ frames := 14, cells := 0, slots := 0, locals := 300 } : Room) G cy sz [(a_0, .inr (12, [.int i_4, .ref a_1, .ref a_2, .ref a_3, .ref a_4, .ref a_5, .int i_5, .int i_6, .int i_7, .int i_8, .int i_9, .long j_0, .int i_10, .int i_11, .int i_12, .int i_13, .ref a_6, .ref a_7, .ref a_8, .ref a_9, .ref a_10, .ref a_11, .ref a_12, .ref a_13, .ref a_14, .ref a_15, .ref a_16, .ref a_17, .ref a_18, .int i_14, .int i_15, .int i_16, .int i_17, .int i_18, .int i_19, .ref a_19, .int i_20, .ref a_20])), (a_6, .inl (cy 1, 5, .inl (mm_g [i_21, i_22, i_23, i_24, i_25]))), (a_7, .inl (cy 1, 30, .inl (mm_g [i_26, i_27, i_28, i_29, i_30, i_31, i_32, i_33, i_34, i_35, i_36, i_37, i_38, i_39, i_40, i_41, i_42, i_43, i_44, i_45, i_46, i_47, i_48, i_49, i_50, i_51, i_52, i_53, i_54, i_55]))), (a_8, .inl (cy 1, 90, .inl f_0)), (a_9, .inl (cy 1, 15, .inl f_1)), (a_10, .inl (cy 1, 1050, .inl f_2)), (a_11, .inl (cy 1, 30, .inl f_3)), (a_12, .inl (cy 1, 240, .inl f_4)), (a_13, .inl (cy 1, 450, .inl f_5)), (a_15, .inl (cy 1, 7200, .inl f_6)), (a_16, .inl (cy 1, 3, .inl f_7)), (a_17, .inl (cy 1, 3, .inl f_8)), (a_18, .inl (cy 1, 8, .inl f_9))] [.ref a_0, .int i_0, .int i_1, .int i_2, .int i_3, .int 0] (fun u : Int32 × Int32 × Int32 × (Nat → Int32) × (Nat → Int32) × (Nat → Int32) × (Nat → Int32) => [(a_0, .inr (12, [.int i_4, .ref a_1, .ref a_2, .ref a_3, .ref a_4, .ref a_5, .int i_5, .int i_6, .int i_7, .int i_8, .int i_9, .long j_0, .int i_10, .int i_11, .int i_12, .int i_13, .ref a_6, .ref a_7, .ref a_8, .ref a_9, .ref a_10, .ref a_11, .ref a_12, .ref a_13, .ref a_14, .ref a_15, .ref a_16, .ref a_17, .ref a_18, .int u.1, .int u.2.1, .int u.2.2.1, .int i_17, .int i_18, .int i_19, .ref a_19, .int i_20, .ref a_20])), (a_6, .inl (cy 1, 5, .inl (mm_g [i_21, i_22, i_23, i_24, i_25]))), (a_7, .inl (cy 1, 30, .inl (mm_g [i_26, i_27, i_28, i_29, i_30, i_31, i_32, i_33, i_34, i_35, i_36, i_37, i_38, i_39, i_40, i_41, i_42, i_43, i_44, i_45, i_46, i_47, i_48, i_49, i_50, i_51, i_52, i_53, i_54, i_55]))), (a_8, .inl (cy 1, 90, .inl f_0)), (a_9, .inl (cy 1, 15, .inl f_1)), (a_10, .inl (cy 1, 1050, .inl f_2)), (a_11, .inl (cy 1, 30, .inl f_3)), (a_12, .inl (cy 1, 240, .inl f_4)), (a_13, .inl (cy 1, 450, .inl f_5)), (a_15, .inl (cy 1, 7200, .inl u.2.2.2.1)), (a_16, .inl (cy 1, 3, .inl u.2.2.2.2.1)), (a_17, .inl (cy 1, 3, .inl u.2.2.2.2.2.1)), (a_18, .inl (cy 1, 8, .inl u.2.2.2.2.2.2))]) (fun (r : Int64) (u : Int32 × Int32 × Int32 × (Nat → Int32) × (Nat → Int32) × (Nat → Int32) × (Nat → Int32)) => mm_rg u.1 0 8 ∧ mm_ar u.2.2.2.1 0 9 ∧ mm_ar u.2.2.2.2.1 0 210 ∧ mm_ar u.2.2.2.2.2.1 0 210 ∧ mm_ar u.2.2.2.2.2.2 0 9 ∧ mm_rl r 0 12798720000000) 0 0 := by
  refine mm_begin (lv := [(0, .ref a_0), (1, .int i_0), (2, .int i_1), (3, .int i_2), (4, .int i_3), (5, .int 0)]) (by decide) (Nat.le_of_ble_eq_true rfl) rfl ?_
  intro p e s m below meth c A ls R args Q H locs hRe hQ hAe hx hb hr hlocks hml hown hnm hts hsz hA hS hP hK hD hZ hl
  have hRf : R.frames = 14 := by rw [hRe]
  have hRl : R.locals = 300 := by rw [hRe]
  have hRc : R.cells = 0 := by rw [hRe]
  have hRs : R.slots = 0 := by rw [hRe]
  have q1 := mm_ltR (lo := 1) h66 h0 h13 (by decide)
  have q2 : mm_rg i_21 1 601 := mm_tl_3 h53 q1 h5 (by decide)
  refine lv_aload_n hx hb dX12_weightOf_0 rfl (lv_at hl 0 rfl) ?_
  refine mm_finv (va_runV (As := []) (rest := []) ⟨hx, hb, hml, hown, hts⟩ (M125_X12_lays l G cy H.size a_0 i_4 a_1 a_2 a_3 a_4 a_5 i_5 i_6 i_7 i_8 i_9 j_0 i_10 i_11 i_12 i_13 a_6 a_7 a_8 a_9 a_10 a_11 a_12 a_13 a_14 a_15 a_16 a_17 a_18 i_14 i_15 i_16 i_17 i_18 i_19 a_19 i_20 a_20 i_21 i_22 i_23 i_24 i_25 i_26 i_27 i_28 i_29 i_30 i_31 i_32 i_33 i_34 i_35 i_36 i_37 i_38 i_39 i_40 i_41 i_42 i_43 i_44 i_45 i_46 i_47 i_48 i_49 i_50 i_51 i_52 i_53 i_54 i_55 f_1 f_2 f_5 f_6 f_7 f_8 (mm_wk q2 (by decide)) h6 h7 h8 h9 h10 h11 h12 (mm_wk q1 (by decide)) h14 h15 h16 h17 h18 h19 h20 h21 h22 h23 h24 h25 h26 h27 h28 h29 h30 h31 h32 h33 h34 h35 h36 h37 h38 h39 h41 h42 h45 h46 h47 h48 h50 h52 h53 h54 h56 h57 h58 h60 h61 h62 h64 h65) (cwV 0 hts (mm_gV mm_w686 mm_w687 mm_w688 mm_w5 mm_w689) rfl rfl rfl hd_X12_lays ⟨by rw [hRf]; exact Nat.le_of_ble_eq_true rfl, by rw [hRl]; exact Nat.le_of_ble_eq_true rfl⟩) (mm_preV hK hZ hS hA hP hD [0, 1, 2, 4, 5, 8, 9, 10, 11] rfl rfl 0 rfl rfl rfl) rfl rfl hl.1 rfl (lv_room (Nat.le_of_ble_eq_true rfl)) dX12_weightOf_1 ⟨by rw [hRc]; exact Nat.le_of_ble_eq_true rfl, by rw [hRs]; exact Nat.le_of_ble_eq_true rfl⟩) hP hD hS hA (fun u : (Nat → Int32) × (Nat → Int32) × (Nat → Int32) => [(a_0, .inr (12, [.int i_4, .ref a_1, .ref a_2, .ref a_3, .ref a_4, .ref a_5, .int i_5, .int i_6, .int i_7, .int i_8, .int i_9, .long j_0, .int i_10, .int i_11, .int i_12, .int i_13, .ref a_6, .ref a_7, .ref a_8, .ref a_9, .ref a_10, .ref a_11, .ref a_12, .ref a_13, .ref a_14, .ref a_15, .ref a_16, .ref a_17, .ref a_18, .int i_14, .int i_15, .int i_16, .int i_17, .int i_18, .int i_19, .ref a_19, .int i_20, .ref a_20])), (a_6, .inl (cy 1, 5, .inl (mm_g [i_21, i_22, i_23, i_24, i_25]))), (a_7, .inl (cy 1, 30, .inl (mm_g [i_26, i_27, i_28, i_29, i_30, i_31, i_32, i_33, i_34, i_35, i_36, i_37, i_38, i_39, i_40, i_41, i_42, i_43, i_44, i_45, i_46, i_47, i_48, i_49, i_50, i_51, i_52, i_53, i_54, i_55]))), (a_8, .inl (cy 1, 90, .inl f_0)), (a_9, .inl (cy 1, 15, .inl f_1)), (a_10, .inl (cy 1, 1050, .inl f_2)), (a_11, .inl (cy 1, 30, .inl f_3)), (a_12, .inl (cy 1, 240, .inl f_4)), (a_13, .inl (cy 1, 450, .inl f_5)), (a_15, .inl (cy 1, 7200, .inl u.1)), (a_16, .inl (cy 1, 3, .inl u.2.1)), (a_17, .inl (cy 1, 3, .inl u.2.2)), (a_18, .inl (cy 1, 8, .inl f_9))]) [0, 1, 2, 4, 5, 8, 9, 10, 11] [3, 6, 7, 12] (n := 13) (fun _ => rfl) (by decide +kernel) (by decide +kernel) rfl (fun _ => rfl) (wr := [(a_8, .inl (cy 1, 90, .inl f_0)), (a_11, .inl (cy 1, 30, .inl f_3)), (a_12, .inl (cy 1, 240, .inl f_4)), (a_18, .inl (cy 1, 8, .inl f_9))]) rfl (fun _ => rfl) (fun _ => @rfl _ ([a_0, a_6, a_7, a_9, a_10, a_13, a_15, a_16, a_17] : List Nat)) ?_
  clear hP hD hS
  clear H locs
  intro u
  obtain ⟨n3, n4, n5⟩ := u
  intro H locs hw (hP : va_P G vwCl [(a_0, .inr (12, [.int i_4, .ref a_1, .ref a_2, .ref a_3, .ref a_4, .ref a_5, .int i_5, .int i_6, .int i_7, .int i_8, .int i_9, .long j_0, .int i_10, .int i_11, .int i_12, .int i_13, .ref a_6, .ref a_7, .ref a_8, .ref a_9, .ref a_10, .ref a_11, .ref a_12, .ref a_13, .ref a_14, .ref a_15, .ref a_16, .ref a_17, .ref a_18, .int i_14, .int i_15, .int i_16, .int i_17, .int i_18, .int i_19, .ref a_19, .int i_20, .ref a_20])), (a_6, .inl (cy 1, 5, .inl (mm_g [i_21, i_22, i_23, i_24, i_25]))), (a_7, .inl (cy 1, 30, .inl (mm_g [i_26, i_27, i_28, i_29, i_30, i_31, i_32, i_33, i_34, i_35, i_36, i_37, i_38, i_39, i_40, i_41, i_42, i_43, i_44, i_45, i_46, i_47, i_48, i_49, i_50, i_51, i_52, i_53, i_54, i_55]))), (a_8, .inl (cy 1, 90, .inl f_0)), (a_9, .inl (cy 1, 15, .inl f_1)), (a_10, .inl (cy 1, 1050, .inl f_2)), (a_11, .inl (cy 1, 30, .inl f_3)), (a_12, .inl (cy 1, 240, .inl f_4)), (a_13, .inl (cy 1, 450, .inl f_5)), (a_15, .inl (cy 1, 7200, .inl n3)), (a_16, .inl (cy 1, 3, .inl n4)), (a_17, .inl (cy 1, 3, .inl n5)), (a_18, .inl (cy 1, 8, .inl f_9))] H) (hD : va_D A [(a_0, .inr (12, [.int i_4, .ref a_1, .ref a_2, .ref a_3, .ref a_4, .ref a_5, .int i_5, .int i_6, .int i_7, .int i_8, .int i_9, .long j_0, .int i_10, .int i_11, .int i_12, .int i_13, .ref a_6, .ref a_7, .ref a_8, .ref a_9, .ref a_10, .ref a_11, .ref a_12, .ref a_13, .ref a_14, .ref a_15, .ref a_16, .ref a_17, .ref a_18, .int i_14, .int i_15, .int i_16, .int i_17, .int i_18, .int i_19, .ref a_19, .int i_20, .ref a_20])), (a_6, .inl (cy 1, 5, .inl (mm_g [i_21, i_22, i_23, i_24, i_25]))), (a_7, .inl (cy 1, 30, .inl (mm_g [i_26, i_27, i_28, i_29, i_30, i_31, i_32, i_33, i_34, i_35, i_36, i_37, i_38, i_39, i_40, i_41, i_42, i_43, i_44, i_45, i_46, i_47, i_48, i_49, i_50, i_51, i_52, i_53, i_54, i_55]))), (a_8, .inl (cy 1, 90, .inl f_0)), (a_9, .inl (cy 1, 15, .inl f_1)), (a_10, .inl (cy 1, 1050, .inl f_2)), (a_11, .inl (cy 1, 30, .inl f_3)), (a_12, .inl (cy 1, 240, .inl f_4)), (a_13, .inl (cy 1, 450, .inl f_5)), (a_15, .inl (cy 1, 7200, .inl n3)), (a_16, .inl (cy 1, 3, .inl n4)), (a_17, .inl (cy 1, 3, .inl n5)), (a_18, .inl (cy 1, 8, .inl f_9))]) hS
  obtain ⟨w6, w7, w8, w9, w10⟩ := hw
  replace w9 : mm_laid n4 n5 i_29 := w9
  replace w10 : mm_tab n3 n4 i_28 i_29 := w10
  refine lv_lconst (v := 0) hx hb dX12_weightOf_4 (by decide) ?_
  refine lv_lstore (lv' := [(6, .long 0), (0, .ref a_0), (1, .int i_0), (2, .int i_1), (3, .int i_2), (4, .int i_3), (5, .int 0)]) hx hb dX12_weightOf_5 hl (by decide) rfl ?_
  clear hl
  clear ls
  intro ls hl
  refine lv_iconst (v := 0) hx hb dX12_weightOf_7 (by decide) ?_
  refine lv_istore (lv' := [(8, .int 0), (6, .long 0), (0, .ref a_0), (1, .int i_0), (2, .int i_1), (3, .int i_2), (4, .int i_3), (5, .int 0)]) hx hb dX12_weightOf_8 hl (by decide) rfl ?_
  clear hl
  clear ls
  intro ls hl
  have L10_687 : ∀ (n : Nat) (x10_8_681 : Int32) (x10_6_682 : Int64) (y10_0_29_683 : Int32) (y10_0_30_684 : Int32) (y10_0_31_685 : Int32) (z10_12_686 : Nat → Int32), mm_rg x10_8_681 0 128 → mm_rl x10_6_682 0 12798720000000 → mm_rg y10_0_29_683 0 8 → mm_ar z10_12_686 0 9 → mm_sv 99990000000 x10_8_681 x10_6_682 → (128 - x10_8_681.toInt).toNat < n → ∀ (H : Heap) (locs : List Loc), va_P G vwCl [(a_0, .inr (12, [.int i_4, .ref a_1, .ref a_2, .ref a_3, .ref a_4, .ref a_5, .int i_5, .int i_6, .int i_7, .int i_8, .int i_9, .long j_0, .int i_10, .int i_11, .int i_12, .int i_13, .ref a_6, .ref a_7, .ref a_8, .ref a_9, .ref a_10, .ref a_11, .ref a_12, .ref a_13, .ref a_14, .ref a_15, .ref a_16, .ref a_17, .ref a_18, .int y10_0_29_683, .int y10_0_30_684, .int y10_0_31_685, .int i_17, .int i_18, .int i_19, .ref a_19, .int i_20, .ref a_20])), (a_6, .inl (cy 1, 5, .inl (mm_g [i_21, i_22, i_23, i_24, i_25]))), (a_7, .inl (cy 1, 30, .inl (mm_g [i_26, i_27, i_28, i_29, i_30, i_31, i_32, i_33, i_34, i_35, i_36, i_37, i_38, i_39, i_40, i_41, i_42, i_43, i_44, i_45, i_46, i_47, i_48, i_49, i_50, i_51, i_52, i_53, i_54, i_55]))), (a_8, .inl (cy 1, 90, .inl f_0)), (a_9, .inl (cy 1, 15, .inl f_1)), (a_10, .inl (cy 1, 1050, .inl f_2)), (a_11, .inl (cy 1, 30, .inl f_3)), (a_12, .inl (cy 1, 240, .inl f_4)), (a_13, .inl (cy 1, 450, .inl f_5)), (a_15, .inl (cy 1, 7200, .inl n3)), (a_16, .inl (cy 1, 3, .inl n4)), (a_17, .inl (cy 1, 3, .inl n5)), (a_18, .inl (cy 1, 8, .inl z10_12_686))] H → va_D A [(a_0, .inr (12, [.int i_4, .ref a_1, .ref a_2, .ref a_3, .ref a_4, .ref a_5, .int i_5, .int i_6, .int i_7, .int i_8, .int i_9, .long j_0, .int i_10, .int i_11, .int i_12, .int i_13, .ref a_6, .ref a_7, .ref a_8, .ref a_9, .ref a_10, .ref a_11, .ref a_12, .ref a_13, .ref a_14, .ref a_15, .ref a_16, .ref a_17, .ref a_18, .int y10_0_29_683, .int y10_0_30_684, .int y10_0_31_685, .int i_17, .int i_18, .int i_19, .ref a_19, .int i_20, .ref a_20])), (a_6, .inl (cy 1, 5, .inl (mm_g [i_21, i_22, i_23, i_24, i_25]))), (a_7, .inl (cy 1, 30, .inl (mm_g [i_26, i_27, i_28, i_29, i_30, i_31, i_32, i_33, i_34, i_35, i_36, i_37, i_38, i_39, i_40, i_41, i_42, i_43, i_44, i_45, i_46, i_47, i_48, i_49, i_50, i_51, i_52, i_53, i_54, i_55]))), (a_8, .inl (cy 1, 90, .inl f_0)), (a_9, .inl (cy 1, 15, .inl f_1)), (a_10, .inl (cy 1, 1050, .inl f_2)), (a_11, .inl (cy 1, 30, .inl f_3)), (a_12, .inl (cy 1, 240, .inl f_4)), (a_13, .inl (cy 1, 450, .inl f_5)), (a_15, .inl (cy 1, 7200, .inl n3)), (a_16, .inl (cy 1, 3, .inl n4)), (a_17, .inl (cy 1, 3, .inl n5)), (a_18, .inl (cy 1, 8, .inl z10_12_686))] → va_S A s.heap H locs → ∀ (ls : Array Slot), lv_has ls 13 [(8, .int x10_8_681), (6, .long x10_6_682), (0, .ref a_0), (1, .int i_0), (2, .int i_1), (3, .int i_2), (4, .int i_3), (5, .int 0)] → W p l e R s m args below meth c H locs 0 0 Q (F0 m 10 ls []) := by
    intro n
    induction n with
    | zero => intro x10_8_681 x10_6_682 y10_0_29_683 y10_0_30_684 y10_0_31_685 z10_12_686 rx10_8_681 rx10_6_682 ry10_0_29_683 rz10_12_686 w687 hm; exact absurd hm (Nat.not_lt_zero _)
    | succ n ih10 =>
      intro x10_8_681 x10_6_682 y10_0_29_683 y10_0_30_684 y10_0_31_685 z10_12_686 rx10_8_681 rx10_6_682 ry10_0_29_683 rz10_12_686 w687 hm10 H locs hP hD hS ls hl
      refine lv_iload hx hb dX12_weightOf_10 (lv_at hl 0 rfl) ?_
      refine lv_iconst (v := 1) hx hb dX12_weightOf_12 (by decide) ?_
      refine lv_iload hx hb dX12_weightOf_13 (lv_at hl 6 rfl) ?_
      refine lv_ishl hx hb dX12_weightOf_15 ?_
      refine lv_topi (fun v689 ev689 => ?_)
      have rv689 : mm_rg v689 1 128 := mm_shl1 ev689 h3 (by decide)
      refine lv_icmp_ge (tgt := 111) hx hb dX12_weightOf_16 (by decide) (fun c690 => ?_) (fun c690 => ?_)
      · have q691 := mm_leR (mm_le c690) rv689 rx10_8_681
        refine lv_lload hx hb dX12_weightOf_111 (lv_at hl 1 rfl) ?_
        subst hAe
        rw [hQ]
        exact W.lret (v := x10_6_682) hx hb hr (fun t ht hW => ⟨⟨x10_6_682, (y10_0_29_683, y10_0_30_684, y10_0_31_685, n3, n4, n5, z10_12_686), rfl, ⟨ry10_0_29_683, w6, w7, w8, rz10_12_686, rx10_6_682⟩, by rw [ht]; exact hP, hK.warm hW, hD⟩, hS.F ht⟩) hS.2.2 dX12_weightOf_113
      · have q692 := mm_ltL (h := 127) (mm_nle c690) rx10_8_681 rv689 (by decide)
        have q693 : mm_rl x10_6_682 0 12698730000000 := mm_sv_rl w687 q692 (by decide)
        refine lv_iload hx hb dX12_weightOf_19 (lv_at hl 0 rfl) ?_
        refine mm_finir (va_runS (As := [.int x10_8_681]) (rest := []) ⟨hx, hb, hml, hown, hts⟩ (M244_X12_sizeOf l G cy H.size x10_8_681 q692) (va_cwS 1 hts (mm_gS mm_w1520 mm_w1521 mm_w5 mm_w1522) rfl rfl rfl hs_X12_sizeOf ⟨by rw [hRf]; exact Nat.le_of_ble_eq_true rfl, by rw [hRl]; exact Nat.le_of_ble_eq_true rfl⟩) (mm_preS hK hZ hS hA hP hD [] rfl rfl) rfl rfl hl.1 rfl (lv_room (Nat.le_of_ble_eq_true rfl)) dX12_weightOf_21 ⟨by rw [hRc]; exact Nat.le_of_ble_eq_true rfl, by rw [hRs]; exact Nat.le_of_ble_eq_true rfl⟩) hP hD hS hA [] rfl (fun _ => rfl) ?_
        clear hP hD hS
        clear H locs
        intro v694 _u H locs hw hP hD hS
        obtain ⟨w695, w696⟩ := hw
        have w697 := mm_pcn_le w696 (mm_nle c690) ev689 h3 q692 (by decide)
        refine lv_istore (lv' := [(9, .int v694), (8, .int x10_8_681), (6, .long x10_6_682), (0, .ref a_0), (1, .int i_0), (2, .int i_1), (3, .int i_2), (4, .int i_3), (5, .int 0)]) hx hb dX12_weightOf_24 hl (by decide) rfl ?_
        clear hl
        clear ls
        intro ls hl
        refine lv_aload_n hx hb dX12_weightOf_26 rfl (lv_at hl 3 rfl) ?_
        refine va_get (D := G) (ci := 12) (v := .ref a_7) (C := RX12) (T := TX12) (N := 38) hx hb hts (mm_i inlX12) hown hK.1 hP 0 rfl rfl 17 (by decide) (mm_h hts mm_w149) (fun _ h9 => h9) rfl dX12_weightOf_27 ?_
        refine lv_iconst (v := 0) hx hb dX12_weightOf_30 (by decide) ?_
        refine va_iald hx hb hK.1 hP 2 1 rfl rfl (mm_in mm_k0 (by decide)) dX12_weightOf_31 ?_
        rw [show (mm_g [i_26, i_27, i_28, i_29, i_30, i_31, i_32, i_33, i_34, i_35, i_36, i_37, i_38, i_39, i_40, i_41, i_42, i_43, i_44, i_45, i_46, i_47, i_48, i_49, i_50, i_51, i_52, i_53, i_54, i_55]) (0 : Int32).toNatClampNeg = i_26 from mm_ge 0 (by decide) rfl]
        obtain ⟨v698, ev698⟩ : ∃ y : Int64, y = i_26.toInt64 := ⟨_, rfl⟩
        refine lv_i2l hx hb dX12_weightOf_32 ev698.symm ?_
        have rv698 : mm_rl v698 0 10 := mm_i2l ev698 h10
        refine lv_iload hx hb dX12_weightOf_33 (lv_at hl 0 rfl) ?_
        refine mm_finlr (va_runS (As := [.long v698, .int v694]) (rest := []) ⟨hx, hb, hml, hown, hts⟩ (M252_X12_power l G cy H.size v698 v694 rv698 w695) (va_cwS 2 hts (mm_gS mm_w1523 mm_w1524 mm_w5 mm_w1525) rfl rfl rfl hs_X12_power ⟨by rw [hRf]; exact Nat.le_of_ble_eq_true rfl, by rw [hRl]; exact Nat.le_of_ble_eq_true rfl⟩) (mm_preS hK hZ hS hA hP hD [] rfl rfl) rfl rfl hl.1 rfl (lv_room (Nat.le_of_ble_eq_true rfl)) dX12_weightOf_35 ⟨by rw [hRc]; exact Nat.le_of_ble_eq_true rfl, by rw [hRs]; exact Nat.le_of_ble_eq_true rfl⟩) hP hD hS hA [] rfl (fun _ => rfl) ?_
        clear hP hD hS
        clear H locs
        intro v699 _u H locs hw hP hD hS
        obtain ⟨w700, w701⟩ := hw
        refine lv_ldc2 (v := 10) hx hb hown (mm_h hts mm_w1511) dX12_weightOf_38 ?_
        refine lv_aload_n hx hb dX12_weightOf_41 rfl (lv_at hl 3 rfl) ?_
        refine va_get (D := G) (ci := 12) (v := .ref a_7) (C := RX12) (T := TX12) (N := 38) hx hb hts (mm_i inlX12) hown hK.1 hP 0 rfl rfl 17 (by decide) (mm_h hts mm_w149) (fun _ h9 => h9) rfl dX12_weightOf_42 ?_
        refine lv_iconst (v := 0) hx hb dX12_weightOf_45 (by decide) ?_
        refine va_iald hx hb hK.1 hP 2 1 rfl rfl (mm_in mm_k0 (by decide)) dX12_weightOf_46 ?_
        rw [show (mm_g [i_26, i_27, i_28, i_29, i_30, i_31, i_32, i_33, i_34, i_35, i_36, i_37, i_38, i_39, i_40, i_41, i_42, i_43, i_44, i_45, i_46, i_47, i_48, i_49, i_50, i_51, i_52, i_53, i_54, i_55]) (0 : Int32).toNatClampNeg = i_26 from mm_ge 0 (by decide) rfl]
        obtain ⟨v702, ev702⟩ : ∃ y : Int64, y = i_26.toInt64 := ⟨_, rfl⟩
        refine lv_i2l hx hb dX12_weightOf_47 ev702.symm ?_
        have rv702 : mm_rl v702 0 10 := mm_i2l ev702 h10
        refine lv_lsub hx hb dX12_weightOf_48 ?_
        refine lv_topl (fun v703 ev703 => ?_)
        have rv703 : mm_rl v703 0 10 := mm_subl ev703 mm_kl10 rv702 (by decide) (by decide)
        refine lv_iload hx hb dX12_weightOf_49 (lv_at hl 7 rfl) ?_
        refine lv_iload hx hb dX12_weightOf_51 (lv_at hl 0 rfl) ?_
        refine lv_isub hx hb dX12_weightOf_53 ?_
        refine lv_topi (fun v704 ev704 => ?_)
        have rv704 : mm_rg v704 (-7) 7 := mm_sub ev704 h3 w695 (by decide) (by decide)
        have tv704 := mm_subE ev704 h3 w695 (by decide)
        have q705 : mm_rg v704 0 7 := mm_sub0 ev704 w697 h3 w695 (by decide)
        refine mm_finlr (va_runS (As := [.long v703, .int v704]) (rest := [.long v699]) ⟨hx, hb, hml, hown, hts⟩ (M252_X12_power l G cy H.size v703 v704 rv703 q705) (va_cwS 2 hts (mm_gS mm_w1523 mm_w1524 mm_w5 mm_w1525) rfl rfl rfl hs_X12_power ⟨by rw [hRf]; exact Nat.le_of_ble_eq_true rfl, by rw [hRl]; exact Nat.le_of_ble_eq_true rfl⟩) (mm_preS hK hZ hS hA hP hD [] rfl rfl) rfl rfl hl.1 rfl (lv_room (Nat.le_of_ble_eq_true rfl)) dX12_weightOf_54 ⟨by rw [hRc]; exact Nat.le_of_ble_eq_true rfl, by rw [hRs]; exact Nat.le_of_ble_eq_true rfl⟩) hP hD hS hA [] rfl (fun _ => rfl) ?_
        clear hP hD hS
        clear H locs
        intro v706 _u H locs hw hP hD hS
        obtain ⟨w707, w708⟩ := hw
        refine lv_lmul hx hb dX12_weightOf_57 ?_
        refine lv_topl (fun v709 ev709 => ?_)
        have rv709 : mm_rl v709 0 100000000000000 := mm_mull ev709 w700 w707 (by decide) (by decide)
        have q710 : mm_rl v709 0 10000000 := mm_pw_mul w701 w708 tv704 ev709 h3 w695 q705 (by decide)
        refine lv_lstore (lv' := [(10, .long v709), (9, .int v694), (8, .int x10_8_681), (6, .long x10_6_682), (0, .ref a_0), (1, .int i_0), (2, .int i_1), (3, .int i_2), (4, .int i_3), (5, .int 0)]) hx hb dX12_weightOf_58 hl (by decide) rfl ?_
        clear hl
        clear ls
        intro ls hl
        refine lv_aload_n hx hb dX12_weightOf_60 rfl (lv_at hl 4 rfl) ?_
        refine lv_iload_n hx hb dX12_weightOf_61 rfl (lv_at hl 5 rfl) ?_
        refine lv_iload_n hx hb dX12_weightOf_62 rfl (lv_at hl 6 rfl) ?_
        refine lv_iload hx hb dX12_weightOf_63 (lv_at hl 1 rfl) ?_
        refine lv_iadd hx hb dX12_weightOf_65 ?_
        refine lv_topi (fun v711 ev711 => ?_)
        have rv711 : mm_rg v711 0 1000000007 := mm_add ev711 h1 w695 (by decide) (by decide)
        have tv711 := mm_addE ev711 h1 w695 (by decide)
        refine lv_iload_n hx hb dX12_weightOf_66 rfl (lv_at hl 7 rfl) ?_
        refine mm_fini (va_runV (As := [.int i_0, .int v711, .int i_2]) (rest := []) ⟨hx, hb, hml, hown, hts⟩ (M141_X12_reads l G cy H.size a_0 i_0 v711 i_2 i_4 a_1 a_2 a_3 a_4 a_5 i_5 i_6 i_7 i_8 i_9 j_0 i_10 i_11 i_12 i_13 a_6 a_7 a_8 a_9 a_10 a_11 a_12 a_13 a_14 a_15 a_16 a_17 a_18 y10_0_29_683 y10_0_30_684 y10_0_31_685 i_17 i_18 i_19 a_19 i_20 a_20 i_26 i_27 i_28 i_29 i_30 i_31 i_32 i_33 i_34 i_35 i_36 i_37 i_38 i_39 i_40 i_41 i_42 i_43 i_44 i_45 i_46 i_47 i_48 i_49 i_50 i_51 i_52 i_53 i_54 i_55 f_0 f_3 f_4 f_5 n3 n4 z10_12_686 h0 (mm_wk rv711 (by decide)) h2 ry10_0_29_683 h10 h11 h12 (mm_wk q1 (by decide)) h14 h15 h16 h17 h18 h19 h20 h21 h22 h23 h24 h25 h26 h27 h28 h29 h30 h31 h32 h33 h34 h35 h36 h37 h38 h39 h40 h43 h44 h45 w6 w7 rz10_12_686 h51 h52 h55 h56 h59 h60 h63 h64 (mm_f1_l w9 h66 h0 (by decide))) (cwV 3 hts (mm_gV mm_w852 mm_w853 mm_w854 mm_w5 mm_w855) rfl rfl rfl hd_X12_reads ⟨by rw [hRf]; exact Nat.le_of_ble_eq_true rfl, by rw [hRl]; exact Nat.le_of_ble_eq_true rfl⟩) (mm_preV hK hZ hS hA hP hD [0, 2, 3, 6, 7, 8, 9, 10, 12] rfl rfl 0 rfl rfl rfl) rfl rfl hl.1 rfl (lv_room (Nat.le_of_ble_eq_true rfl)) dX12_weightOf_67 ⟨by rw [hRc]; exact Nat.le_of_ble_eq_true rfl, by rw [hRs]; exact Nat.le_of_ble_eq_true rfl⟩) hP hD hS hA (fun u : Int32 × Int32 × Int32 × (Nat → Int32) => [(a_0, .inr (12, [.int i_4, .ref a_1, .ref a_2, .ref a_3, .ref a_4, .ref a_5, .int i_5, .int i_6, .int i_7, .int i_8, .int i_9, .long j_0, .int i_10, .int i_11, .int i_12, .int i_13, .ref a_6, .ref a_7, .ref a_8, .ref a_9, .ref a_10, .ref a_11, .ref a_12, .ref a_13, .ref a_14, .ref a_15, .ref a_16, .ref a_17, .ref a_18, .int u.1, .int u.2.1, .int u.2.2.1, .int i_17, .int i_18, .int i_19, .ref a_19, .int i_20, .ref a_20])), (a_6, .inl (cy 1, 5, .inl (mm_g [i_21, i_22, i_23, i_24, i_25]))), (a_7, .inl (cy 1, 30, .inl (mm_g [i_26, i_27, i_28, i_29, i_30, i_31, i_32, i_33, i_34, i_35, i_36, i_37, i_38, i_39, i_40, i_41, i_42, i_43, i_44, i_45, i_46, i_47, i_48, i_49, i_50, i_51, i_52, i_53, i_54, i_55]))), (a_8, .inl (cy 1, 90, .inl f_0)), (a_9, .inl (cy 1, 15, .inl f_1)), (a_10, .inl (cy 1, 1050, .inl f_2)), (a_11, .inl (cy 1, 30, .inl f_3)), (a_12, .inl (cy 1, 240, .inl f_4)), (a_13, .inl (cy 1, 450, .inl f_5)), (a_15, .inl (cy 1, 7200, .inl n3)), (a_16, .inl (cy 1, 3, .inl n4)), (a_17, .inl (cy 1, 3, .inl n5)), (a_18, .inl (cy 1, 8, .inl u.2.2.2))]) [0, 2, 3, 6, 7, 8, 9, 10, 12] [1, 4, 5, 11] (n := 13) (fun _ => rfl) (by decide +kernel) (by decide +kernel) rfl (fun _ => rfl) (wr := [(a_6, .inl (cy 1, 5, .inl (mm_g [i_21, i_22, i_23, i_24, i_25]))), (a_9, .inl (cy 1, 15, .inl f_1)), (a_10, .inl (cy 1, 1050, .inl f_2)), (a_17, .inl (cy 1, 3, .inl n5))]) rfl (fun _ => rfl) (fun _ => @rfl _ ([a_0, a_7, a_8, a_11, a_12, a_13, a_15, a_16, a_18] : List Nat)) ?_
        clear hP hD hS
        clear H locs
        intro v716 u
        obtain ⟨n712, n713, n714, n715⟩ := u
        intro H locs hw (hP : va_P G vwCl [(a_0, .inr (12, [.int i_4, .ref a_1, .ref a_2, .ref a_3, .ref a_4, .ref a_5, .int i_5, .int i_6, .int i_7, .int i_8, .int i_9, .long j_0, .int i_10, .int i_11, .int i_12, .int i_13, .ref a_6, .ref a_7, .ref a_8, .ref a_9, .ref a_10, .ref a_11, .ref a_12, .ref a_13, .ref a_14, .ref a_15, .ref a_16, .ref a_17, .ref a_18, .int n712, .int n713, .int n714, .int i_17, .int i_18, .int i_19, .ref a_19, .int i_20, .ref a_20])), (a_6, .inl (cy 1, 5, .inl (mm_g [i_21, i_22, i_23, i_24, i_25]))), (a_7, .inl (cy 1, 30, .inl (mm_g [i_26, i_27, i_28, i_29, i_30, i_31, i_32, i_33, i_34, i_35, i_36, i_37, i_38, i_39, i_40, i_41, i_42, i_43, i_44, i_45, i_46, i_47, i_48, i_49, i_50, i_51, i_52, i_53, i_54, i_55]))), (a_8, .inl (cy 1, 90, .inl f_0)), (a_9, .inl (cy 1, 15, .inl f_1)), (a_10, .inl (cy 1, 1050, .inl f_2)), (a_11, .inl (cy 1, 30, .inl f_3)), (a_12, .inl (cy 1, 240, .inl f_4)), (a_13, .inl (cy 1, 450, .inl f_5)), (a_15, .inl (cy 1, 7200, .inl n3)), (a_16, .inl (cy 1, 3, .inl n4)), (a_17, .inl (cy 1, 3, .inl n5)), (a_18, .inl (cy 1, 8, .inl n715))] H) (hD : va_D A [(a_0, .inr (12, [.int i_4, .ref a_1, .ref a_2, .ref a_3, .ref a_4, .ref a_5, .int i_5, .int i_6, .int i_7, .int i_8, .int i_9, .long j_0, .int i_10, .int i_11, .int i_12, .int i_13, .ref a_6, .ref a_7, .ref a_8, .ref a_9, .ref a_10, .ref a_11, .ref a_12, .ref a_13, .ref a_14, .ref a_15, .ref a_16, .ref a_17, .ref a_18, .int n712, .int n713, .int n714, .int i_17, .int i_18, .int i_19, .ref a_19, .int i_20, .ref a_20])), (a_6, .inl (cy 1, 5, .inl (mm_g [i_21, i_22, i_23, i_24, i_25]))), (a_7, .inl (cy 1, 30, .inl (mm_g [i_26, i_27, i_28, i_29, i_30, i_31, i_32, i_33, i_34, i_35, i_36, i_37, i_38, i_39, i_40, i_41, i_42, i_43, i_44, i_45, i_46, i_47, i_48, i_49, i_50, i_51, i_52, i_53, i_54, i_55]))), (a_8, .inl (cy 1, 90, .inl f_0)), (a_9, .inl (cy 1, 15, .inl f_1)), (a_10, .inl (cy 1, 1050, .inl f_2)), (a_11, .inl (cy 1, 30, .inl f_3)), (a_12, .inl (cy 1, 240, .inl f_4)), (a_13, .inl (cy 1, 450, .inl f_5)), (a_15, .inl (cy 1, 7200, .inl n3)), (a_16, .inl (cy 1, 3, .inl n4)), (a_17, .inl (cy 1, 3, .inl n5)), (a_18, .inl (cy 1, 8, .inl n715))]) hS
        obtain ⟨w717, w718, hw⟩ := hw
        obtain ⟨w719, w720⟩ := hw
        replace w720 : mm_rd n3 n4 f_0 f_3 f_4 f_5 i_0 v711 i_2 i_27 i_28 i_31 v716 := w720
        refine lv_istore (lv' := [(12, .int v716), (10, .long v709), (9, .int v694), (8, .int x10_8_681), (6, .long x10_6_682), (0, .ref a_0), (1, .int i_0), (2, .int i_1), (3, .int i_2), (4, .int i_3), (5, .int 0)]) hx hb dX12_weightOf_70 hl (by decide) rfl ?_
        clear hl
        clear ls
        intro ls hl
        refine lv_lload hx hb dX12_weightOf_72 (lv_at hl 4 rfl) ?_
        refine lv_lload hx hb dX12_weightOf_74 (lv_at hl 1 rfl) ?_
        refine lv_iload hx hb dX12_weightOf_76 (lv_at hl 10 rfl) ?_
        refine lv_if_eq (tgt := 86) hx hb dX12_weightOf_78 (by decide) (fun c721 => ?_) (fun c721 => ?_)
        · refine lv_iload hx hb dX12_weightOf_86 (lv_at hl 0 rfl) ?_
          refine lv_aload_n hx hb dX12_weightOf_88 rfl (lv_at hl 5 rfl) ?_
          refine mm_finir (va_runV (As := []) (rest := [.int v716, .long v709, .long x10_6_682]) ⟨hx, hb, hml, hown, hts⟩ (M139_X12_stockNow l G cy H.size a_0 i_4 a_1 a_2 a_3 a_4 a_5 i_5 i_6 i_7 i_8 i_9 j_0 i_10 i_11 i_12 i_13 a_6 a_7 a_8 a_9 a_10 a_11 a_12 a_13 a_14 a_15 a_16 a_17 a_18 n712 n713 n714 i_17 i_18 i_19 a_19 i_20 a_20 i_26 i_27 i_28 i_29 i_30 i_31 i_32 i_33 i_34 i_35 i_36 i_37 i_38 i_39 i_40 i_41 i_42 i_43 i_44 i_45 i_46 i_47 i_48 i_49 i_50 i_51 i_52 i_53 i_54 i_55 f_5 h10 h11 h12 (mm_wk q1 (by decide)) h14 h15 h16 h17 h18 h19 h20 h21 h22 h23 h24 h25 h26 h27 h28 h29 h30 h31 h32 h33 h34 h35 h36 h37 h38 h39 h45 h52 h56 h60 h64) (cwV 0 hts (mm_gV mm_w861 mm_w862 mm_w863 mm_w5 mm_w864) rfl rfl rfl hd_X12_stockNow ⟨by rw [hRf]; exact Nat.le_of_ble_eq_true rfl, by rw [hRl]; exact Nat.le_of_ble_eq_true rfl⟩) (mm_preV hK hZ hS hA hP hD [0, 2, 8] rfl rfl 0 rfl rfl rfl) rfl rfl hl.1 rfl (lv_room (Nat.le_of_ble_eq_true rfl)) dX12_weightOf_89 ⟨by rw [hRc]; exact Nat.le_of_ble_eq_true rfl, by rw [hRs]; exact Nat.le_of_ble_eq_true rfl⟩) hP hD hS hA [0, 2, 8] rfl (fun _ => rfl) ?_
          clear hP hD hS
          clear H locs
          intro v722 _u H locs hw hP hD hS
          obtain ⟨w723, w724⟩ := hw
          refine lv_icmp_le (tgt := 99) hx hb dX12_weightOf_92 (by decide) (fun c725 => ?_) (fun c725 => ?_)
          · have q726 := mm_leL (mm_le c725) w719 w723
            refine lv_iconst (v := 0) hx hb dX12_weightOf_99 (by decide) ?_
            refine lv_i2l (v := 0) hx hb dX12_weightOf_100 (by decide) ?_
            refine lv_lmul hx hb dX12_weightOf_101 ?_
            refine lv_topl (fun v727 ev727 => ?_)
            have rv727 : mm_rl v727 0 0 := mm_mull ev727 q710 mm_kl0 (by decide) (by decide)
            refine lv_ladd hx hb dX12_weightOf_102 ?_
            refine lv_topl (fun v728 ev728 => ?_)
            have rv728 : mm_rl v728 0 12698730000000 := mm_addl ev728 q693 rv727 (by decide) (by decide)
            have tv728 := mm_addlE ev728 q693 rv727 (by decide)
            refine lv_lstore (lv' := [(6, .long v728), (12, .int v716), (10, .long v709), (9, .int v694), (8, .int x10_8_681), (0, .ref a_0), (1, .int i_0), (2, .int i_1), (3, .int i_2), (4, .int i_3), (5, .int 0)]) hx hb dX12_weightOf_103 hl (by decide) rfl ?_
            clear hl
            clear ls
            intro ls hl
            obtain ⟨v729, ev729⟩ : ∃ y : Int32, y = x10_8_681 + 1 := ⟨_, rfl⟩
            refine lv_iinc (v := v729) (lv' := [(8, .int v729), (6, .long v728), (12, .int v716), (10, .long v709), (9, .int v694), (0, .ref a_0), (1, .int i_0), (2, .int i_1), (3, .int i_2), (4, .int i_3), (5, .int 0)]) hx hb dX12_weightOf_105 hl (k := 4) rfl (by rw [ev729]; rfl) (by decide) rfl ?_
            clear hl
            clear ls
            intro ls hl
            have rv729 : mm_rg v729 1 128 := mm_add ev729 q692 mm_k1 (by decide) (by decide)
            have tv729 := mm_addEc ev729 q692 mm_k1 (by decide) (k := 1) (by decide)
            refine lv_goto (tgt := 10) hx hb dX12_weightOf_108 (by decide) ?_
            have w730 : mm_sv 99990000000 v729 v728 := (mm_sv_s w687 tv729 tv728 rv727 (by decide))
            have q731 : mm_rl v728 0 12798720000000 := mm_sv_rl w730 rv729 (by decide)
            exact ih10 v729 v728 n712 n713 n714 n715 (mm_wk rv729 (by decide)) q731 w717 w718 w730 (mm_mu hm10 tv729 (by decide) (rv729).2 (by decide)) H locs hP hD hS ls (lv_sub hl [0, 1, 5, 6, 7, 8, 9, 10] rfl)
          · have q732 := mm_ltR (lo := 1) (mm_nle c725) w723 w719 (by decide)
            refine lv_iconst (v := 1) hx hb dX12_weightOf_95 (by decide) ?_
            refine lv_goto (tgt := 100) hx hb dX12_weightOf_96 (by decide) ?_
            refine lv_i2l (v := 1) hx hb dX12_weightOf_100 (by decide) ?_
            refine lv_lmul hx hb dX12_weightOf_101 ?_
            refine lv_topl (fun v733 ev733 => ?_)
            have rv733 : mm_rl v733 0 10000000 := mm_mull ev733 q710 mm_kl1 (by decide) (by decide)
            refine lv_ladd hx hb dX12_weightOf_102 ?_
            refine lv_topl (fun v734 ev734 => ?_)
            have rv734 : mm_rl v734 0 12698740000000 := mm_addl ev734 q693 rv733 (by decide) (by decide)
            have tv734 := mm_addlE ev734 q693 rv733 (by decide)
            refine lv_lstore (lv' := [(6, .long v734), (12, .int v716), (10, .long v709), (9, .int v694), (8, .int x10_8_681), (0, .ref a_0), (1, .int i_0), (2, .int i_1), (3, .int i_2), (4, .int i_3), (5, .int 0)]) hx hb dX12_weightOf_103 hl (by decide) rfl ?_
            clear hl
            clear ls
            intro ls hl
            obtain ⟨v735, ev735⟩ : ∃ y : Int32, y = x10_8_681 + 1 := ⟨_, rfl⟩
            refine lv_iinc (v := v735) (lv' := [(8, .int v735), (6, .long v734), (12, .int v716), (10, .long v709), (9, .int v694), (0, .ref a_0), (1, .int i_0), (2, .int i_1), (3, .int i_2), (4, .int i_3), (5, .int 0)]) hx hb dX12_weightOf_105 hl (k := 4) rfl (by rw [ev735]; rfl) (by decide) rfl ?_
            clear hl
            clear ls
            intro ls hl
            have rv735 : mm_rg v735 1 128 := mm_add ev735 q692 mm_k1 (by decide) (by decide)
            have tv735 := mm_addEc ev735 q692 mm_k1 (by decide) (k := 1) (by decide)
            refine lv_goto (tgt := 10) hx hb dX12_weightOf_108 (by decide) ?_
            have w736 : mm_sv 99990000000 v735 v734 := (mm_sv_s w687 tv735 tv734 rv733 (by decide))
            have q737 : mm_rl v734 0 12798720000000 := mm_sv_rl w736 rv735 (by decide)
            exact ih10 v735 v734 n712 n713 n714 n715 (mm_wk rv735 (by decide)) q737 w717 w718 w736 (mm_mu hm10 tv735 (by decide) (rv735).2 (by decide)) H locs hP hD hS ls (lv_sub hl [0, 1, 5, 6, 7, 8, 9, 10] rfl)
        · exact absurd rfl (mm_ne c721)
  exact L10_687 _ 0 0 i_14 i_15 i_16 f_9 (mm_wk mm_k0 (by decide)) (mm_wkl mm_kl0 (by decide)) h4 h49 (mm_sv_0 _) (Nat.lt_succ_self _) H locs hP hD hS ls (lv_sub hl [0, 1, 2, 3, 4, 5, 6, 7] rfl)

