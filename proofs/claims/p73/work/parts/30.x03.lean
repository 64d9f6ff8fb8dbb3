theorem dX0_copyFrom_0 : decode cX0_copyFrom 0 = .ok (.aload_n 0, 1) := by decide +kernel
theorem dX0_copyFrom_1 : decode cX0_copyFrom 1 = .ok (.aload_n 1, 1) := by decide +kernel
theorem dX0_copyFrom_2 : decode cX0_copyFrom 2 = .ok (.getfield 42, 3) := by decide +kernel
theorem dX0_copyFrom_5 : decode cX0_copyFrom 5 = .ok (.putfield 42, 3) := by decide +kernel
theorem dX0_copyFrom_8 : decode cX0_copyFrom 8 = .ok (.aload_n 0, 1) := by decide +kernel
theorem dX0_copyFrom_9 : decode cX0_copyFrom 9 = .ok (.aload_n 1, 1) := by decide +kernel
theorem dX0_copyFrom_10 : decode cX0_copyFrom 10 = .ok (.getfield 46, 3) := by decide +kernel
theorem dX0_copyFrom_13 : decode cX0_copyFrom 13 = .ok (.putfield 46, 3) := by decide +kernel
theorem dX0_copyFrom_16 : decode cX0_copyFrom 16 = .ok (.aload_n 0, 1) := by decide +kernel
theorem dX0_copyFrom_17 : decode cX0_copyFrom 17 = .ok (.aload_n 1, 1) := by decide +kernel
theorem dX0_copyFrom_18 : decode cX0_copyFrom 18 = .ok (.getfield 49, 3) := by decide +kernel
theorem dX0_copyFrom_21 : decode cX0_copyFrom 21 = .ok (.putfield 49, 3) := by decide +kernel
theorem dX0_copyFrom_24 : decode cX0_copyFrom 24 = .ok (.aload_n 0, 1) := by decide +kernel
theorem dX0_copyFrom_25 : decode cX0_copyFrom 25 = .ok (.aload_n 1, 1) := by decide +kernel
theorem dX0_copyFrom_26 : decode cX0_copyFrom 26 = .ok (.getfield 52, 3) := by decide +kernel
theorem dX0_copyFrom_29 : decode cX0_copyFrom 29 = .ok (.putfield 52, 3) := by decide +kernel
theorem dX0_copyFrom_32 : decode cX0_copyFrom 32 = .ok (.aload_n 0, 1) := by decide +kernel
theorem dX0_copyFrom_33 : decode cX0_copyFrom 33 = .ok (.aload_n 1, 1) := by decide +kernel
theorem dX0_copyFrom_34 : decode cX0_copyFrom 34 = .ok (.getfield 55, 3) := by decide +kernel
theorem dX0_copyFrom_37 : decode cX0_copyFrom 37 = .ok (.putfield 55, 3) := by decide +kernel
theorem dX0_copyFrom_40 : decode cX0_copyFrom 40 = .ok (.aload_n 0, 1) := by decide +kernel
theorem dX0_copyFrom_41 : decode cX0_copyFrom 41 = .ok (.aload_n 1, 1) := by decide +kernel
theorem dX0_copyFrom_42 : decode cX0_copyFrom 42 = .ok (.getfield 58, 3) := by decide +kernel
theorem dX0_copyFrom_45 : decode cX0_copyFrom 45 = .ok (.putfield 58, 3) := by decide +kernel
theorem dX0_copyFrom_48 : decode cX0_copyFrom 48 = .ok (.aload_n 0, 1) := by decide +kernel
theorem dX0_copyFrom_49 : decode cX0_copyFrom 49 = .ok (.aload_n 1, 1) := by decide +kernel
theorem dX0_copyFrom_50 : decode cX0_copyFrom 50 = .ok (.getfield 61, 3) := by decide +kernel
theorem dX0_copyFrom_53 : decode cX0_copyFrom 53 = .ok (.putfield 61, 3) := by decide +kernel
theorem dX0_copyFrom_56 : decode cX0_copyFrom 56 = .ok (.aload_n 0, 1) := by decide +kernel
theorem dX0_copyFrom_57 : decode cX0_copyFrom 57 = .ok (.aload_n 1, 1) := by decide +kernel
theorem dX0_copyFrom_58 : decode cX0_copyFrom 58 = .ok (.getfield 64, 3) := by decide +kernel
theorem dX0_copyFrom_61 : decode cX0_copyFrom 61 = .ok (.putfield 64, 3) := by decide +kernel
theorem dX0_copyFrom_64 : decode cX0_copyFrom 64 = .ok (.aload_n 1, 1) := by decide +kernel
theorem dX0_copyFrom_65 : decode cX0_copyFrom 65 = .ok (.getfield 9, 3) := by decide +kernel
theorem dX0_copyFrom_68 : decode cX0_copyFrom 68 = .ok (.aload_n 0, 1) := by decide +kernel
theorem dX0_copyFrom_69 : decode cX0_copyFrom 69 = .ok (.getfield 9, 3) := by decide +kernel
theorem dX0_copyFrom_72 : decode cX0_copyFrom 72 = .ok (.invokestatic 73, 3) := by decide +kernel
theorem dX0_copyFrom_75 : decode cX0_copyFrom 75 = .ok (.aload_n 1, 1) := by decide +kernel
theorem dX0_copyFrom_76 : decode cX0_copyFrom 76 = .ok (.getfield 15, 3) := by decide +kernel
theorem dX0_copyFrom_79 : decode cX0_copyFrom 79 = .ok (.aload_n 0, 1) := by decide +kernel
theorem dX0_copyFrom_80 : decode cX0_copyFrom 80 = .ok (.getfield 15, 3) := by decide +kernel
theorem dX0_copyFrom_83 : decode cX0_copyFrom 83 = .ok (.invokestatic 73, 3) := by decide +kernel
theorem dX0_copyFrom_86 : decode cX0_copyFrom 86 = .ok (.aload_n 1, 1) := by decide +kernel
theorem dX0_copyFrom_87 : decode cX0_copyFrom 87 = .ok (.getfield 18, 3) := by decide +kernel
theorem dX0_copyFrom_90 : decode cX0_copyFrom 90 = .ok (.aload_n 0, 1) := by decide +kernel
theorem dX0_copyFrom_91 : decode cX0_copyFrom 91 = .ok (.getfield 18, 3) := by decide +kernel
theorem dX0_copyFrom_94 : decode cX0_copyFrom 94 = .ok (.invokestatic 73, 3) := by decide +kernel
theorem dX0_copyFrom_97 : decode cX0_copyFrom 97 = .ok (.aload_n 1, 1) := by decide +kernel
theorem dX0_copyFrom_98 : decode cX0_copyFrom 98 = .ok (.getfield 21, 3) := by decide +kernel
theorem dX0_copyFrom_101 : decode cX0_copyFrom 101 = .ok (.aload_n 0, 1) := by decide +kernel
theorem dX0_copyFrom_102 : decode cX0_copyFrom 102 = .ok (.getfield 21, 3) := by decide +kernel
theorem dX0_copyFrom_105 : decode cX0_copyFrom 105 = .ok (.invokestatic 73, 3) := by decide +kernel
theorem dX0_copyFrom_108 : decode cX0_copyFrom 108 = .ok (.aload_n 1, 1) := by decide +kernel
theorem dX0_copyFrom_109 : decode cX0_copyFrom 109 = .ok (.getfield 24, 3) := by decide +kernel
theorem dX0_copyFrom_112 : decode cX0_copyFrom 112 = .ok (.aload_n 0, 1) := by decide +kernel
theorem dX0_copyFrom_113 : decode cX0_copyFrom 113 = .ok (.getfield 24, 3) := by decide +kernel
theorem dX0_copyFrom_116 : decode cX0_copyFrom 116 = .ok (.invokestatic 73, 3) := by decide +kernel
theorem dX0_copyFrom_119 : decode cX0_copyFrom 119 = .ok (.aload_n 1, 1) := by decide +kernel
theorem dX0_copyFrom_120 : decode cX0_copyFrom 120 = .ok (.getfield 27, 3) := by decide +kernel
theorem dX0_copyFrom_123 : decode cX0_copyFrom 123 = .ok (.aload_n 0, 1) := by decide +kernel
theorem dX0_copyFrom_124 : decode cX0_copyFrom 124 = .ok (.getfield 27, 3) := by decide +kernel
theorem dX0_copyFrom_127 : decode cX0_copyFrom 127 = .ok (.invokestatic 73, 3) := by decide +kernel
theorem dX0_copyFrom_130 : decode cX0_copyFrom 130 = .ok (.aload_n 1, 1) := by decide +kernel
theorem dX0_copyFrom_131 : decode cX0_copyFrom 131 = .ok (.getfield 30, 3) := by decide +kernel
theorem dX0_copyFrom_134 : decode cX0_copyFrom 134 = .ok (.aload_n 0, 1) := by decide +kernel
theorem dX0_copyFrom_135 : decode cX0_copyFrom 135 = .ok (.getfield 30, 3) := by decide +kernel
theorem dX0_copyFrom_138 : decode cX0_copyFrom 138 = .ok (.invokestatic 73, 3) := by decide +kernel
theorem dX0_copyFrom_141 : decode cX0_copyFrom 141 = .ok (.aload_n 1, 1) := by decide +kernel
theorem dX0_copyFrom_142 : decode cX0_copyFrom 142 = .ok (.getfield 33, 3) := by decide +kernel
theorem dX0_copyFrom_145 : decode cX0_copyFrom 145 = .ok (.aload_n 0, 1) := by decide +kernel
theorem dX0_copyFrom_146 : decode cX0_copyFrom 146 = .ok (.getfield 33, 3) := by decide +kernel
theorem dX0_copyFrom_149 : decode cX0_copyFrom 149 = .ok (.invokestatic 73, 3) := by decide +kernel
theorem dX0_copyFrom_152 : decode cX0_copyFrom 152 = .ok (.aload_n 1, 1) := by decide +kernel
theorem dX0_copyFrom_153 : decode cX0_copyFrom 153 = .ok (.getfield 36, 3) := by decide +kernel
theorem dX0_copyFrom_156 : decode cX0_copyFrom 156 = .ok (.aload_n 0, 1) := by decide +kernel
theorem dX0_copyFrom_157 : decode cX0_copyFrom 157 = .ok (.getfield 36, 3) := by decide +kernel
theorem dX0_copyFrom_160 : decode cX0_copyFrom 160 = .ok (.invokestatic 73, 3) := by decide +kernel
theorem dX0_copyFrom_163 : decode cX0_copyFrom 163 = .ok (.aload_n 1, 1) := by decide +kernel
theorem dX0_copyFrom_164 : decode cX0_copyFrom 164 = .ok (.getfield 39, 3) := by decide +kernel
theorem dX0_copyFrom_167 : decode cX0_copyFrom 167 = .ok (.aload_n 0, 1) := by decide +kernel
theorem dX0_copyFrom_168 : decode cX0_copyFrom 168 = .ok (.getfield 39, 3) := by decide +kernel
theorem dX0_copyFrom_171 : decode cX0_copyFrom 171 = .ok (.invokestatic 73, 3) := by decide +kernel
theorem dX0_copyFrom_174 : decode cX0_copyFrom 174 = .ok (.return_, 1) := by decide +kernel
theorem dX0_copyRow_0 : decode cX0_copyRow 0 = .ok (.aload_n 0, 1) := by decide +kernel
theorem dX0_copyRow_1 : decode cX0_copyRow 1 = .ok (.iconst 0, 1) := by decide +kernel
theorem dX0_copyRow_2 : decode cX0_copyRow 2 = .ok (.aload_n 1, 1) := by decide +kernel
theorem dX0_copyRow_3 : decode cX0_copyRow 3 = .ok (.iconst 0, 1) := by decide +kernel
theorem dX0_copyRow_4 : decode cX0_copyRow 4 = .ok (.aload_n 0, 1) := by decide +kernel
theorem dX0_copyRow_5 : decode cX0_copyRow 5 = .ok (.arraylength, 1) := by decide +kernel
theorem dX0_copyRow_6 : decode cX0_copyRow 6 = .ok (.aload_n 1, 1) := by decide +kernel
theorem dX0_copyRow_7 : decode cX0_copyRow 7 = .ok (.arraylength, 1) := by decide +kernel
theorem dX0_copyRow_8 : decode cX0_copyRow 8 = .ok (.invokestatic 77, 3) := by decide +kernel
theorem dX0_copyRow_11 : decode cX0_copyRow 11 = .ok (.invokestatic 83, 3) := by decide +kernel
theorem dX0_copyRow_14 : decode cX0_copyRow 14 = .ok (.return_, 1) := by decide +kernel
theorem dX0_taken_0 : decode cX0_taken 0 = .ok (.aload_n 0, 1) := by decide +kernel
theorem dX0_taken_1 : decode cX0_taken 1 = .ok (.getfield 21, 3) := by decide +kernel
theorem dX0_taken_4 : decode cX0_taken 4 = .ok (.iload_n 1, 1) := by decide +kernel
theorem dX0_taken_5 : decode cX0_taken 5 = .ok (.bipush 7, 2) := by decide +kernel
theorem dX0_taken_7 : decode cX0_taken 7 = .ok (.imul, 1) := by decide +kernel
theorem dX0_taken_8 : decode cX0_taken 8 = .ok (.iload_n 2, 1) := by decide +kernel
theorem dX0_taken_9 : decode cX0_taken 9 = .ok (.iadd, 1) := by decide +kernel
theorem dX0_taken_10 : decode cX0_taken 10 = .ok (.bipush 10, 2) := by decide +kernel
theorem dX0_taken_12 : decode cX0_taken 12 = .ok (.imul, 1) := by decide +kernel
theorem dX0_taken_13 : decode cX0_taken 13 = .ok (.iload_n 3, 1) := by decide +kernel
theorem dX0_taken_14 : decode cX0_taken 14 = .ok (.iadd, 1) := by decide +kernel
theorem dX0_taken_15 : decode cX0_taken 15 = .ok (.iaload, 1) := by decide +kernel
theorem dX0_taken_16 : decode cX0_taken 16 = .ok (.ireturn, 1) := by decide +kernel
theorem dX10_turnTo_0 : decode cX10_turnTo 0 = .ok (.aload_n 0, 1) := by decide +kernel
theorem dX10_turnTo_1 : decode cX10_turnTo 1 = .ok (.getfield 12, 3) := by decide +kernel
theorem dX10_turnTo_4 : decode cX10_turnTo 4 = .ok (.aload_n 1, 1) := by decide +kernel
theorem dX10_turnTo_5 : decode cX10_turnTo 5 = .ok (.invokevirtual 25, 3) := by decide +kernel
theorem dX10_turnTo_8 : decode cX10_turnTo 8 = .ok (.iconst 0, 1) := by decide +kernel
theorem dX10_turnTo_9 : decode cX10_turnTo 9 = .ok (.istore_n 2, 1) := by decide +kernel
theorem dX10_turnTo_10 : decode cX10_turnTo 10 = .ok (.iload_n 2, 1) := by decide +kernel
theorem dX10_turnTo_11 : decode cX10_turnTo 11 = .ok (.aload_n 0, 1) := by decide +kernel
theorem dX10_turnTo_12 : decode cX10_turnTo 12 = .ok (.getfield 12, 3) := by decide +kernel
theorem dX10_turnTo_15 : decode cX10_turnTo 15 = .ok (.getfield 29, 3) := by decide +kernel
theorem dX10_turnTo_18 : decode cX10_turnTo 18 = .ok (.if_icmp .ge 23, 3) := by decide +kernel
theorem dX10_turnTo_21 : decode cX10_turnTo 21 = .ok (.aload_n 0, 1) := by decide +kernel
theorem dX10_turnTo_22 : decode cX10_turnTo 22 = .ok (.getfield 20, 3) := by decide +kernel
theorem dX10_turnTo_25 : decode cX10_turnTo 25 = .ok (.iload_n 2, 1) := by decide +kernel
theorem dX10_turnTo_26 : decode cX10_turnTo 26 = .ok (.aaload, 1) := by decide +kernel
theorem dX10_turnTo_27 : decode cX10_turnTo 27 = .ok (.aload_n 0, 1) := by decide +kernel
theorem dX10_turnTo_28 : decode cX10_turnTo 28 = .ok (.getfield 12, 3) := by decide +kernel
theorem dX10_turnTo_31 : decode cX10_turnTo 31 = .ok (.iload_n 2, 1) := by decide +kernel
theorem dX10_turnTo_32 : decode cX10_turnTo 32 = .ok (.invokevirtual 33, 3) := by decide +kernel
theorem dX10_turnTo_35 : decode cX10_turnTo 35 = .ok (.iinc 2 1, 3) := by decide +kernel
theorem dX10_turnTo_38 : decode cX10_turnTo 38 = .ok (.goto (-28), 3) := by decide +kernel
theorem dX10_turnTo_41 : decode cX10_turnTo 41 = .ok (.return_, 1) := by decide +kernel
theorem dX11_commonMultiple_0 : decode cX11_commonMultiple 0 = .ok (.iload_n 0, 1) := by decide +kernel
theorem dX11_commonMultiple_1 : decode cX11_commonMultiple 1 = .ok (.i2l, 1) := by decide +kernel
theorem dX11_commonMultiple_2 : decode cX11_commonMultiple 2 = .ok (.iload_n 1, 1) := by decide +kernel
theorem dX11_commonMultiple_3 : decode cX11_commonMultiple 3 = .ok (.i2l, 1) := by decide +kernel
theorem dX11_commonMultiple_4 : decode cX11_commonMultiple 4 = .ok (.invokestatic 424, 3) := by decide +kernel
theorem dX11_commonMultiple_7 : decode cX11_commonMultiple 7 = .ok (.l2i, 1) := by decide +kernel
theorem dX11_commonMultiple_8 : decode cX11_commonMultiple 8 = .ok (.istore_n 2, 1) := by decide +kernel
theorem dX11_commonMultiple_9 : decode cX11_commonMultiple 9 = .ok (.iload_n 2, 1) := by decide +kernel
theorem dX11_commonMultiple_10 : decode cX11_commonMultiple 10 = .ok (.ifCond .ne 7, 3) := by decide +kernel
theorem dX11_commonMultiple_13 : decode cX11_commonMultiple 13 = .ok (.iconst 1, 1) := by decide +kernel
theorem dX11_commonMultiple_14 : decode cX11_commonMultiple 14 = .ok (.goto 8, 3) := by decide +kernel
theorem dX11_commonMultiple_17 : decode cX11_commonMultiple 17 = .ok (.iload_n 0, 1) := by decide +kernel
theorem dX11_commonMultiple_18 : decode cX11_commonMultiple 18 = .ok (.iload_n 2, 1) := by decide +kernel
theorem dX11_commonMultiple_19 : decode cX11_commonMultiple 19 = .ok (.idiv, 1) := by decide +kernel
theorem dX11_commonMultiple_20 : decode cX11_commonMultiple 20 = .ok (.iload_n 1, 1) := by decide +kernel
theorem dX11_commonMultiple_21 : decode cX11_commonMultiple 21 = .ok (.imul, 1) := by decide +kernel
theorem dX11_commonMultiple_22 : decode cX11_commonMultiple 22 = .ok (.ireturn, 1) := by decide +kernel
theorem dX11_greatestDivisor_0 : decode cX11_greatestDivisor 0 = .ok (.lload_n 0, 1) := by decide +kernel
theorem dX11_greatestDivisor_1 : decode cX11_greatestDivisor 1 = .ok (.lstore 4, 2) := by decide +kernel
theorem dX11_greatestDivisor_3 : decode cX11_greatestDivisor 3 = .ok (.lload_n 2, 1) := by decide +kernel
theorem dX11_greatestDivisor_4 : decode cX11_greatestDivisor 4 = .ok (.lstore 6, 2) := by decide +kernel
theorem dX11_greatestDivisor_6 : decode cX11_greatestDivisor 6 = .ok (.iconst 0, 1) := by decide +kernel
theorem dX11_greatestDivisor_7 : decode cX11_greatestDivisor 7 = .ok (.istore 8, 2) := by decide +kernel
theorem dX11_greatestDivisor_9 : decode cX11_greatestDivisor 9 = .ok (.iload 8, 2) := by decide +kernel
theorem dX11_greatestDivisor_11 : decode cX11_greatestDivisor 11 = .ok (.bipush 100, 2) := by decide +kernel
theorem dX11_greatestDivisor_13 : decode cX11_greatestDivisor 13 = .ok (.if_icmp .ge 31, 3) := by decide +kernel
theorem dX11_greatestDivisor_16 : decode cX11_greatestDivisor 16 = .ok (.lload 6, 2) := by decide +kernel
theorem dX11_greatestDivisor_18 : decode cX11_greatestDivisor 18 = .ok (.lconst 0, 1) := by decide +kernel
theorem dX11_greatestDivisor_19 : decode cX11_greatestDivisor 19 = .ok (.lcmp, 1) := by decide +kernel
theorem dX11_greatestDivisor_20 : decode cX11_greatestDivisor 20 = .ok (.ifCond .eq 24, 3) := by decide +kernel
theorem dX11_greatestDivisor_23 : decode cX11_greatestDivisor 23 = .ok (.lload 4, 2) := by decide +kernel
theorem dX11_greatestDivisor_25 : decode cX11_greatestDivisor 25 = .ok (.lload 6, 2) := by decide +kernel
theorem dX11_greatestDivisor_27 : decode cX11_greatestDivisor 27 = .ok (.lrem, 1) := by decide +kernel
theorem dX11_greatestDivisor_28 : decode cX11_greatestDivisor 28 = .ok (.lstore 9, 2) := by decide +kernel
theorem dX11_greatestDivisor_30 : decode cX11_greatestDivisor 30 = .ok (.lload 6, 2) := by decide +kernel
theorem dX11_greatestDivisor_32 : decode cX11_greatestDivisor 32 = .ok (.lstore 4, 2) := by decide +kernel
theorem dX11_greatestDivisor_34 : decode cX11_greatestDivisor 34 = .ok (.lload 9, 2) := by decide +kernel
theorem dX11_greatestDivisor_36 : decode cX11_greatestDivisor 36 = .ok (.lstore 6, 2) := by decide +kernel
theorem dX11_greatestDivisor_38 : decode cX11_greatestDivisor 38 = .ok (.iinc 8 1, 3) := by decide +kernel
theorem dX11_greatestDivisor_41 : decode cX11_greatestDivisor 41 = .ok (.goto (-32), 3) := by decide +kernel
theorem dX11_greatestDivisor_44 : decode cX11_greatestDivisor 44 = .ok (.lload 4, 2) := by decide +kernel
theorem dX11_greatestDivisor_46 : decode cX11_greatestDivisor 46 = .ok (.lreturn, 1) := by decide +kernel
theorem dX1_comesRound_0 : decode cX1_comesRound 0 = .ok (.iload_n 1, 1) := by decide +kernel
theorem dX1_comesRound_1 : decode cX1_comesRound 1 = .ok (.istore_n 3, 1) := by decide +kernel
theorem dX1_comesRound_2 : decode cX1_comesRound 2 = .ok (.iload_n 3, 1) := by decide +kernel
theorem dX1_comesRound_3 : decode cX1_comesRound 3 = .ok (.iload_n 2, 1) := by decide +kernel
theorem dX1_comesRound_4 : decode cX1_comesRound 4 = .ok (.if_icmp .ge 62, 3) := by decide +kernel
theorem dX1_comesRound_7 : decode cX1_comesRound 7 = .ok (.iconst 0, 1) := by decide +kernel
theorem dX1_comesRound_8 : decode cX1_comesRound 8 = .ok (.istore 4, 2) := by decide +kernel
theorem dX1_comesRound_10 : decode cX1_comesRound 10 = .ok (.iload 4, 2) := by decide +kernel
theorem dX1_comesRound_12 : decode cX1_comesRound 12 = .ok (.aload_n 0, 1) := by decide +kernel
theorem dX1_comesRound_13 : decode cX1_comesRound 13 = .ok (.getfield 18, 3) := by decide +kernel
theorem dX1_comesRound_16 : decode cX1_comesRound 16 = .ok (.if_icmp .ge 44, 3) := by decide +kernel
theorem dX1_comesRound_19 : decode cX1_comesRound 19 = .ok (.aload_n 0, 1) := by decide +kernel
theorem dX1_comesRound_20 : decode cX1_comesRound 20 = .ok (.getfield 9, 3) := by decide +kernel
theorem dX1_comesRound_23 : decode cX1_comesRound 23 = .ok (.iload_n 3, 1) := by decide +kernel
theorem dX1_comesRound_24 : decode cX1_comesRound 24 = .ok (.bipush 10, 2) := by decide +kernel
theorem dX1_comesRound_26 : decode cX1_comesRound 26 = .ok (.imul, 1) := by decide +kernel
theorem dX1_comesRound_27 : decode cX1_comesRound 27 = .ok (.iload 4, 2) := by decide +kernel
theorem dX1_comesRound_29 : decode cX1_comesRound 29 = .ok (.iadd, 1) := by decide +kernel
theorem dX1_comesRound_30 : decode cX1_comesRound 30 = .ok (.iaload, 1) := by decide +kernel
theorem dX1_comesRound_31 : decode cX1_comesRound 31 = .ok (.istore 5, 2) := by decide +kernel
theorem dX1_comesRound_33 : decode cX1_comesRound 33 = .ok (.iload 5, 2) := by decide +kernel
theorem dX1_comesRound_35 : decode cX1_comesRound 35 = .ok (.aload_n 0, 1) := by decide +kernel
theorem dX1_comesRound_36 : decode cX1_comesRound 36 = .ok (.getfield 9, 3) := by decide +kernel
theorem dX1_comesRound_39 : decode cX1_comesRound 39 = .ok (.iload_n 3, 1) := by decide +kernel
theorem dX1_comesRound_40 : decode cX1_comesRound 40 = .ok (.iload_n 1, 1) := by decide +kernel
theorem dX1_comesRound_41 : decode cX1_comesRound 41 = .ok (.isub, 1) := by decide +kernel
theorem dX1_comesRound_42 : decode cX1_comesRound 42 = .ok (.bipush 10, 2) := by decide +kernel
theorem dX1_comesRound_44 : decode cX1_comesRound 44 = .ok (.imul, 1) := by decide +kernel
theorem dX1_comesRound_45 : decode cX1_comesRound 45 = .ok (.iload 4, 2) := by decide +kernel
theorem dX1_comesRound_47 : decode cX1_comesRound 47 = .ok (.iadd, 1) := by decide +kernel
theorem dX1_comesRound_48 : decode cX1_comesRound 48 = .ok (.iaload, 1) := by decide +kernel
theorem dX1_comesRound_49 : decode cX1_comesRound 49 = .ok (.if_icmp .eq 5, 3) := by decide +kernel
theorem dX1_comesRound_52 : decode cX1_comesRound 52 = .ok (.iconst 0, 1) := by decide +kernel
theorem dX1_comesRound_53 : decode cX1_comesRound 53 = .ok (.ireturn, 1) := by decide +kernel
theorem dX1_comesRound_54 : decode cX1_comesRound 54 = .ok (.iinc 4 1, 3) := by decide +kernel
theorem dX1_comesRound_57 : decode cX1_comesRound 57 = .ok (.goto (-47), 3) := by decide +kernel
theorem dX1_comesRound_60 : decode cX1_comesRound 60 = .ok (.iinc 3 1, 3) := by decide +kernel
theorem dX1_comesRound_63 : decode cX1_comesRound 63 = .ok (.goto (-61), 3) := by decide +kernel
theorem dX1_comesRound_66 : decode cX1_comesRound 66 = .ok (.iconst 1, 1) := by decide +kernel
theorem dX1_comesRound_67 : decode cX1_comesRound 67 = .ok (.ireturn, 1) := by decide +kernel
theorem dX1_cycleOf_0 : decode cX1_cycleOf 0 = .ok (.iload_n 1, 1) := by decide +kernel
theorem dX1_cycleOf_1 : decode cX1_cycleOf 1 = .ok (.istore_n 2, 1) := by decide +kernel
theorem dX1_cycleOf_2 : decode cX1_cycleOf 2 = .ok (.iconst 1, 1) := by decide +kernel
theorem dX1_cycleOf_3 : decode cX1_cycleOf 3 = .ok (.istore_n 3, 1) := by decide +kernel
theorem dX1_cycleOf_4 : decode cX1_cycleOf 4 = .ok (.iload_n 3, 1) := by decide +kernel
theorem dX1_cycleOf_5 : decode cX1_cycleOf 5 = .ok (.bipush 10, 2) := by decide +kernel
theorem dX1_cycleOf_7 : decode cX1_cycleOf 7 = .ok (.if_icmp .gt 23, 3) := by decide +kernel
theorem dX1_cycleOf_10 : decode cX1_cycleOf 10 = .ok (.aload_n 0, 1) := by decide +kernel
theorem dX1_cycleOf_11 : decode cX1_cycleOf 11 = .ok (.getfield 15, 3) := by decide +kernel
theorem dX1_cycleOf_14 : decode cX1_cycleOf 14 = .ok (.iload_n 2, 1) := by decide +kernel
theorem dX1_cycleOf_15 : decode cX1_cycleOf 15 = .ok (.iaload, 1) := by decide +kernel
theorem dX1_cycleOf_16 : decode cX1_cycleOf 16 = .ok (.istore_n 2, 1) := by decide +kernel
theorem dX1_cycleOf_17 : decode cX1_cycleOf 17 = .ok (.iload_n 2, 1) := by decide +kernel
theorem dX1_cycleOf_18 : decode cX1_cycleOf 18 = .ok (.iload_n 1, 1) := by decide +kernel
theorem dX1_cycleOf_19 : decode cX1_cycleOf 19 = .ok (.if_icmp .ne 5, 3) := by decide +kernel
theorem dX1_cycleOf_22 : decode cX1_cycleOf 22 = .ok (.iload_n 3, 1) := by decide +kernel
theorem dX1_cycleOf_23 : decode cX1_cycleOf 23 = .ok (.ireturn, 1) := by decide +kernel
theorem dX1_cycleOf_24 : decode cX1_cycleOf 24 = .ok (.iinc 3 1, 3) := by decide +kernel
theorem dX1_cycleOf_27 : decode cX1_cycleOf 27 = .ok (.goto (-23), 3) := by decide +kernel
theorem dX1_cycleOf_30 : decode cX1_cycleOf 30 = .ok (.iconst 1, 1) := by decide +kernel
theorem dX1_cycleOf_31 : decode cX1_cycleOf 31 = .ok (.ireturn, 1) := by decide +kernel
theorem dX1_lay_0 : decode cX1_lay 0 = .ok (.aload_n 0, 1) := by decide +kernel
theorem dX1_lay_1 : decode cX1_lay 1 = .ok (.aload_n 1, 1) := by decide +kernel
theorem dX1_lay_2 : decode cX1_lay 2 = .ok (.invokevirtual 28, 3) := by decide +kernel
theorem dX1_lay_5 : decode cX1_lay 5 = .ok (.putfield 18, 3) := by decide +kernel
theorem dX1_lay_8 : decode cX1_lay 8 = .ok (.aload_n 0, 1) := by decide +kernel
theorem dX1_lay_9 : decode cX1_lay 9 = .ok (.aload_n 1, 1) := by decide +kernel
theorem dX1_lay_10 : decode cX1_lay 10 = .ok (.iload_n 2, 1) := by decide +kernel
theorem dX1_lay_11 : decode cX1_lay 11 = .ok (.invokevirtual 33, 3) := by decide +kernel
theorem dX1_lay_14 : decode cX1_lay 14 = .ok (.sipush 210, 3) := by decide +kernel
theorem dX1_lay_17 : decode cX1_lay 17 = .ok (.iconst 1, 1) := by decide +kernel
theorem dX1_lay_18 : decode cX1_lay 18 = .ok (.aload_n 1, 1) := by decide +kernel
theorem dX1_lay_19 : decode cX1_lay 19 = .ok (.getfield 37, 3) := by decide +kernel
theorem dX1_lay_22 : decode cX1_lay 22 = .ok (.iload_n 2, 1) := by decide +kernel
theorem dX1_lay_23 : decode cX1_lay 23 = .ok (.iaload, 1) := by decide +kernel
theorem dX1_lay_24 : decode cX1_lay 24 = .ok (.invokestatic 40, 3) := by decide +kernel
theorem dX1_lay_27 : decode cX1_lay 27 = .ok (.aload_n 0, 1) := by decide +kernel
theorem dX1_lay_28 : decode cX1_lay 28 = .ok (.getfield 22, 3) := by decide +kernel
theorem dX1_lay_31 : decode cX1_lay 31 = .ok (.imul, 1) := by decide +kernel
theorem dX1_lay_32 : decode cX1_lay 32 = .ok (.invokestatic 46, 3) := by decide +kernel
theorem dX1_lay_35 : decode cX1_lay 35 = .ok (.istore_n 3, 1) := by decide +kernel
theorem dX1_lay_36 : decode cX1_lay 36 = .ok (.aload_n 0, 1) := by decide +kernel
theorem dX1_lay_37 : decode cX1_lay 37 = .ok (.aload_n 1, 1) := by decide +kernel
theorem dX1_lay_38 : decode cX1_lay 38 = .ok (.iload_n 2, 1) := by decide +kernel
theorem dX1_lay_39 : decode cX1_lay 39 = .ok (.iload_n 3, 1) := by decide +kernel
theorem dX1_lay_40 : decode cX1_lay 40 = .ok (.invokevirtual 49, 3) := by decide +kernel
theorem dX1_lay_43 : decode cX1_lay 43 = .ok (.aload_n 0, 1) := by decide +kernel
theorem dX1_lay_44 : decode cX1_lay 44 = .ok (.aload_n 0, 1) := by decide +kernel
theorem dX1_lay_45 : decode cX1_lay 45 = .ok (.iload_n 3, 1) := by decide +kernel
theorem dX1_lay_46 : decode cX1_lay 46 = .ok (.invokevirtual 53, 3) := by decide +kernel
theorem dX1_lay_49 : decode cX1_lay 49 = .ok (.putfield 25, 3) := by decide +kernel
theorem dX1_lay_52 : decode cX1_lay 52 = .ok (.return_, 1) := by decide +kernel
theorem dX1_layDays_0 : decode cX1_layDays 0 = .ok (.aload_n 1, 1) := by decide +kernel
theorem dX1_layDays_1 : decode cX1_layDays 1 = .ok (.getfield 37, 3) := by decide +kernel
theorem dX1_layDays_4 : decode cX1_layDays 4 = .ok (.iload_n 2, 1) := by decide +kernel
theorem dX1_layDays_5 : decode cX1_layDays 5 = .ok (.iaload, 1) := by decide +kernel
theorem dX1_layDays_6 : decode cX1_layDays 6 = .ok (.istore 4, 2) := by decide +kernel
theorem dX1_layDays_8 : decode cX1_layDays 8 = .ok (.iconst 0, 1) := by decide +kernel
theorem dX1_layDays_9 : decode cX1_layDays 9 = .ok (.istore 5, 2) := by decide +kernel
theorem dX1_layDays_11 : decode cX1_layDays 11 = .ok (.iload 5, 2) := by decide +kernel
theorem dX1_layDays_13 : decode cX1_layDays 13 = .ok (.aload_n 0, 1) := by decide +kernel
theorem dX1_layDays_14 : decode cX1_layDays 14 = .ok (.getfield 18, 3) := by decide +kernel
theorem dX1_layDays_17 : decode cX1_layDays 17 = .ok (.if_icmp .ge 18, 3) := by decide +kernel
theorem dX1_layDays_20 : decode cX1_layDays 20 = .ok (.aload_n 0, 1) := by decide +kernel
theorem dX1_layDays_21 : decode cX1_layDays 21 = .ok (.getfield 9, 3) := by decide +kernel
theorem dX1_layDays_24 : decode cX1_layDays 24 = .ok (.iload 5, 2) := by decide +kernel
theorem dX1_layDays_26 : decode cX1_layDays 26 = .ok (.iload 5, 2) := by decide +kernel
theorem dX1_layDays_28 : decode cX1_layDays 28 = .ok (.iastore, 1) := by decide +kernel
theorem dX1_layDays_29 : decode cX1_layDays 29 = .ok (.iinc 5 1, 3) := by decide +kernel
theorem dX1_layDays_32 : decode cX1_layDays 32 = .ok (.goto (-21), 3) := by decide +kernel
theorem dX1_layDays_35 : decode cX1_layDays 35 = .ok (.iconst 1, 1) := by decide +kernel
theorem dX1_layDays_36 : decode cX1_layDays 36 = .ok (.istore 5, 2) := by decide +kernel
theorem dX1_layDays_38 : decode cX1_layDays 38 = .ok (.iload 5, 2) := by decide +kernel
theorem dX1_layDays_40 : decode cX1_layDays 40 = .ok (.iload_n 3, 1) := by decide +kernel
theorem dX1_layDays_41 : decode cX1_layDays 41 = .ok (.if_icmp .ge 81, 3) := by decide +kernel
theorem dX1_layDays_44 : decode cX1_layDays 44 = .ok (.iconst 0, 1) := by decide +kernel
theorem dX1_layDays_45 : decode cX1_layDays 45 = .ok (.istore 6, 2) := by decide +kernel
theorem dX1_layDays_47 : decode cX1_layDays 47 = .ok (.iload 6, 2) := by decide +kernel
theorem dX1_layDays_49 : decode cX1_layDays 49 = .ok (.aload_n 0, 1) := by decide +kernel
theorem dX1_layDays_50 : decode cX1_layDays 50 = .ok (.getfield 18, 3) := by decide +kernel
theorem dX1_layDays_53 : decode cX1_layDays 53 = .ok (.if_icmp .ge 63, 3) := by decide +kernel
theorem dX1_layDays_56 : decode cX1_layDays 56 = .ok (.iload 4, 2) := by decide +kernel
theorem dX1_layDays_58 : decode cX1_layDays 58 = .ok (.ifCond .ne 8, 3) := by decide +kernel
theorem dX1_layDays_61 : decode cX1_layDays 61 = .ok (.iload 6, 2) := by decide +kernel
theorem dX1_layDays_63 : decode cX1_layDays 63 = .ok (.goto 17, 3) := by decide +kernel
theorem dX1_layDays_66 : decode cX1_layDays 66 = .ok (.aload_n 1, 1) := by decide +kernel
theorem dX1_layDays_67 : decode cX1_layDays 67 = .ok (.iload_n 2, 1) := by decide +kernel
theorem dX1_layDays_68 : decode cX1_layDays 68 = .ok (.iload 5, 2) := by decide +kernel
theorem dX1_layDays_70 : decode cX1_layDays 70 = .ok (.iconst 1, 1) := by decide +kernel
theorem dX1_layDays_71 : decode cX1_layDays 71 = .ok (.isub, 1) := by decide +kernel
theorem dX1_layDays_72 : decode cX1_layDays 72 = .ok (.iload 4, 2) := by decide +kernel
theorem dX1_layDays_74 : decode cX1_layDays 74 = .ok (.irem, 1) := by decide +kernel
theorem dX1_layDays_75 : decode cX1_layDays 75 = .ok (.iload 6, 2) := by decide +kernel
theorem dX1_layDays_77 : decode cX1_layDays 77 = .ok (.invokevirtual 57, 3) := by decide +kernel
theorem dX1_layDays_80 : decode cX1_layDays 80 = .ok (.istore 7, 2) := by decide +kernel
theorem dX1_layDays_82 : decode cX1_layDays 82 = .ok (.aload_n 0, 1) := by decide +kernel
theorem dX1_layDays_83 : decode cX1_layDays 83 = .ok (.getfield 9, 3) := by decide +kernel
theorem dX1_layDays_86 : decode cX1_layDays 86 = .ok (.iload 5, 2) := by decide +kernel
theorem dX1_layDays_88 : decode cX1_layDays 88 = .ok (.bipush 10, 2) := by decide +kernel
theorem dX1_layDays_90 : decode cX1_layDays 90 = .ok (.imul, 1) := by decide +kernel
theorem dX1_layDays_91 : decode cX1_layDays 91 = .ok (.iload 6, 2) := by decide +kernel
theorem dX1_layDays_93 : decode cX1_layDays 93 = .ok (.iadd, 1) := by decide +kernel
theorem dX1_layDays_94 : decode cX1_layDays 94 = .ok (.aload_n 0, 1) := by decide +kernel
theorem dX1_layDays_95 : decode cX1_layDays 95 = .ok (.getfield 9, 3) := by decide +kernel
theorem dX1_layDays_98 : decode cX1_layDays 98 = .ok (.iload 5, 2) := by decide +kernel
theorem dX1_layDays_100 : decode cX1_layDays 100 = .ok (.iconst 1, 1) := by decide +kernel
theorem dX1_layDays_101 : decode cX1_layDays 101 = .ok (.isub, 1) := by decide +kernel
theorem dX1_layDays_102 : decode cX1_layDays 102 = .ok (.bipush 10, 2) := by decide +kernel
theorem dX1_layDays_104 : decode cX1_layDays 104 = .ok (.imul, 1) := by decide +kernel
theorem dX1_layDays_105 : decode cX1_layDays 105 = .ok (.iload 7, 2) := by decide +kernel
theorem dX1_layDays_107 : decode cX1_layDays 107 = .ok (.iadd, 1) := by decide +kernel
theorem dX1_layDays_108 : decode cX1_layDays 108 = .ok (.iaload, 1) := by decide +kernel
theorem dX1_layDays_109 : decode cX1_layDays 109 = .ok (.iastore, 1) := by decide +kernel
theorem dX1_layDays_110 : decode cX1_layDays 110 = .ok (.iinc 6 1, 3) := by decide +kernel
theorem dX1_layDays_113 : decode cX1_layDays 113 = .ok (.goto (-66), 3) := by decide +kernel
theorem dX1_layDays_116 : decode cX1_layDays 116 = .ok (.iinc 5 1, 3) := by decide +kernel
theorem dX1_layDays_119 : decode cX1_layDays 119 = .ok (.goto (-81), 3) := by decide +kernel
theorem dX1_layDays_122 : decode cX1_layDays 122 = .ok (.return_, 1) := by decide +kernel
theorem dX1_layTurn_0 : decode cX1_layTurn 0 = .ok (.iconst 0, 1) := by decide +kernel
theorem dX1_layTurn_1 : decode cX1_layTurn 1 = .ok (.istore_n 3, 1) := by decide +kernel
theorem dX1_layTurn_2 : decode cX1_layTurn 2 = .ok (.iload_n 3, 1) := by decide +kernel
theorem dX1_layTurn_3 : decode cX1_layTurn 3 = .ok (.aload_n 0, 1) := by decide +kernel
theorem dX1_layTurn_4 : decode cX1_layTurn 4 = .ok (.getfield 18, 3) := by decide +kernel
theorem dX1_layTurn_7 : decode cX1_layTurn 7 = .ok (.if_icmp .ge 52, 3) := by decide +kernel
theorem dX1_layTurn_10 : decode cX1_layTurn 10 = .ok (.iload_n 3, 1) := by decide +kernel
theorem dX1_layTurn_11 : decode cX1_layTurn 11 = .ok (.istore 4, 2) := by decide +kernel
theorem dX1_layTurn_13 : decode cX1_layTurn 13 = .ok (.aload_n 1, 1) := by decide +kernel
theorem dX1_layTurn_14 : decode cX1_layTurn 14 = .ok (.getfield 37, 3) := by decide +kernel
theorem dX1_layTurn_17 : decode cX1_layTurn 17 = .ok (.iload_n 2, 1) := by decide +kernel
theorem dX1_layTurn_18 : decode cX1_layTurn 18 = .ok (.iaload, 1) := by decide +kernel
theorem dX1_layTurn_19 : decode cX1_layTurn 19 = .ok (.iconst 1, 1) := by decide +kernel
theorem dX1_layTurn_20 : decode cX1_layTurn 20 = .ok (.isub, 1) := by decide +kernel
theorem dX1_layTurn_21 : decode cX1_layTurn 21 = .ok (.istore 5, 2) := by decide +kernel
theorem dX1_layTurn_23 : decode cX1_layTurn 23 = .ok (.iload 5, 2) := by decide +kernel
theorem dX1_layTurn_25 : decode cX1_layTurn 25 = .ok (.ifCond .lt 20, 3) := by decide +kernel
theorem dX1_layTurn_28 : decode cX1_layTurn 28 = .ok (.aload_n 1, 1) := by decide +kernel
theorem dX1_layTurn_29 : decode cX1_layTurn 29 = .ok (.iload_n 2, 1) := by decide +kernel
theorem dX1_layTurn_30 : decode cX1_layTurn 30 = .ok (.iload 5, 2) := by decide +kernel
theorem dX1_layTurn_32 : decode cX1_layTurn 32 = .ok (.iload 4, 2) := by decide +kernel
theorem dX1_layTurn_34 : decode cX1_layTurn 34 = .ok (.invokevirtual 57, 3) := by decide +kernel
theorem dX1_layTurn_37 : decode cX1_layTurn 37 = .ok (.istore 4, 2) := by decide +kernel
theorem dX1_layTurn_39 : decode cX1_layTurn 39 = .ok (.iinc 5 (-1), 3) := by decide +kernel
theorem dX1_layTurn_42 : decode cX1_layTurn 42 = .ok (.goto (-19), 3) := by decide +kernel
theorem dX1_layTurn_45 : decode cX1_layTurn 45 = .ok (.aload_n 0, 1) := by decide +kernel
theorem dX1_layTurn_46 : decode cX1_layTurn 46 = .ok (.getfield 15, 3) := by decide +kernel
theorem dX1_layTurn_49 : decode cX1_layTurn 49 = .ok (.iload_n 3, 1) := by decide +kernel
theorem dX1_layTurn_50 : decode cX1_layTurn 50 = .ok (.iload 4, 2) := by decide +kernel
theorem dX1_layTurn_52 : decode cX1_layTurn 52 = .ok (.iastore, 1) := by decide +kernel
theorem dX1_layTurn_53 : decode cX1_layTurn 53 = .ok (.iinc 3 1, 3) := by decide +kernel
theorem dX1_layTurn_56 : decode cX1_layTurn 56 = .ok (.goto (-54), 3) := by decide +kernel
theorem dX1_layTurn_59 : decode cX1_layTurn 59 = .ok (.aload_n 0, 1) := by decide +kernel
theorem dX1_layTurn_60 : decode cX1_layTurn 60 = .ok (.iconst 1, 1) := by decide +kernel
theorem dX1_layTurn_61 : decode cX1_layTurn 61 = .ok (.putfield 22, 3) := by decide +kernel
theorem dX1_layTurn_64 : decode cX1_layTurn 64 = .ok (.iconst 0, 1) := by decide +kernel
theorem dX1_layTurn_65 : decode cX1_layTurn 65 = .ok (.istore_n 3, 1) := by decide +kernel
theorem dX1_layTurn_66 : decode cX1_layTurn 66 = .ok (.iload_n 3, 1) := by decide +kernel
theorem dX1_layTurn_67 : decode cX1_layTurn 67 = .ok (.aload_n 0, 1) := by decide +kernel
theorem dX1_layTurn_68 : decode cX1_layTurn 68 = .ok (.getfield 18, 3) := by decide +kernel
theorem dX1_layTurn_71 : decode cX1_layTurn 71 = .ok (.if_icmp .ge 25, 3) := by decide +kernel
theorem dX1_layTurn_74 : decode cX1_layTurn 74 = .ok (.aload_n 0, 1) := by decide +kernel
theorem dX1_layTurn_75 : decode cX1_layTurn 75 = .ok (.aload_n 0, 1) := by decide +kernel
theorem dX1_layTurn_76 : decode cX1_layTurn 76 = .ok (.getfield 22, 3) := by decide +kernel
theorem dX1_layTurn_79 : decode cX1_layTurn 79 = .ok (.aload_n 0, 1) := by decide +kernel
theorem dX1_layTurn_80 : decode cX1_layTurn 80 = .ok (.iload_n 3, 1) := by decide +kernel
theorem dX1_layTurn_81 : decode cX1_layTurn 81 = .ok (.invokevirtual 61, 3) := by decide +kernel
theorem dX1_layTurn_84 : decode cX1_layTurn 84 = .ok (.invokestatic 64, 3) := by decide +kernel
theorem dX1_layTurn_87 : decode cX1_layTurn 87 = .ok (.putfield 22, 3) := by decide +kernel
theorem dX1_layTurn_90 : decode cX1_layTurn 90 = .ok (.iinc 3 1, 3) := by decide +kernel
theorem dX1_layTurn_93 : decode cX1_layTurn 93 = .ok (.goto (-27), 3) := by decide +kernel
theorem dX1_layTurn_96 : decode cX1_layTurn 96 = .ok (.return_, 1) := by decide +kernel
theorem dX1_leastPeriod_0 : decode cX1_leastPeriod 0 = .ok (.iconst 1, 1) := by decide +kernel
theorem dX1_leastPeriod_1 : decode cX1_leastPeriod 1 = .ok (.istore_n 2, 1) := by decide +kernel
theorem dX1_leastPeriod_2 : decode cX1_leastPeriod 2 = .ok (.iload_n 2, 1) := by decide +kernel
theorem dX1_leastPeriod_3 : decode cX1_leastPeriod 3 = .ok (.iload_n 1, 1) := by decide +kernel
theorem dX1_leastPeriod_4 : decode cX1_leastPeriod 4 = .ok (.if_icmp .ge 26, 3) := by decide +kernel
theorem dX1_leastPeriod_7 : decode cX1_leastPeriod 7 = .ok (.iload_n 1, 1) := by decide +kernel
theorem dX1_leastPeriod_8 : decode cX1_leastPeriod 8 = .ok (.iload_n 2, 1) := by decide +kernel
theorem dX1_leastPeriod_9 : decode cX1_leastPeriod 9 = .ok (.irem, 1) := by decide +kernel
theorem dX1_leastPeriod_10 : decode cX1_leastPeriod 10 = .ok (.ifCond .ne 14, 3) := by decide +kernel
theorem dX1_leastPeriod_13 : decode cX1_leastPeriod 13 = .ok (.aload_n 0, 1) := by decide +kernel
theorem dX1_leastPeriod_14 : decode cX1_leastPeriod 14 = .ok (.iload_n 2, 1) := by decide +kernel
theorem dX1_leastPeriod_15 : decode cX1_leastPeriod 15 = .ok (.iload_n 1, 1) := by decide +kernel
theorem dX1_leastPeriod_16 : decode cX1_leastPeriod 16 = .ok (.invokevirtual 67, 3) := by decide +kernel
theorem dX1_leastPeriod_19 : decode cX1_leastPeriod 19 = .ok (.ifCond .eq 5, 3) := by decide +kernel
theorem dX1_leastPeriod_22 : decode cX1_leastPeriod 22 = .ok (.iload_n 2, 1) := by decide +kernel
theorem dX1_leastPeriod_23 : decode cX1_leastPeriod 23 = .ok (.ireturn, 1) := by decide +kernel
theorem dX1_leastPeriod_24 : decode cX1_leastPeriod 24 = .ok (.iinc 2 1, 3) := by decide +kernel
theorem dX1_leastPeriod_27 : decode cX1_leastPeriod 27 = .ok (.goto (-25), 3) := by decide +kernel
theorem dX1_leastPeriod_30 : decode cX1_leastPeriod 30 = .ok (.iload_n 1, 1) := by decide +kernel
theorem dX1_leastPeriod_31 : decode cX1_leastPeriod 31 = .ok (.ireturn, 1) := by decide +kernel
theorem dX7_copyDown_0 : decode cX7_copyDown 0 = .ok (.aload_n 0, 1) := by decide +kernel
theorem dX7_copyDown_1 : decode cX7_copyDown 1 = .ok (.getfield 12, 3) := by decide +kernel
theorem dX7_copyDown_4 : decode cX7_copyDown 4 = .ok (.invokevirtual 26, 3) := by decide +kernel
theorem dX7_copyDown_7 : decode cX7_copyDown 7 = .ok (.aload_n 0, 1) := by decide +kernel
theorem dX7_copyDown_8 : decode cX7_copyDown 8 = .ok (.iconst 0, 1) := by decide +kernel
theorem dX7_copyDown_9 : decode cX7_copyDown 9 = .ok (.putfield 29, 3) := by decide +kernel
theorem dX7_copyDown_12 : decode cX7_copyDown 12 = .ok (.aload_n 0, 1) := by decide +kernel
theorem dX7_copyDown_13 : decode cX7_copyDown 13 = .ok (.iconst (-1), 1) := by decide +kernel
theorem dX7_copyDown_14 : decode cX7_copyDown 14 = .ok (.putfield 18, 3) := by decide +kernel
theorem dX7_copyDown_17 : decode cX7_copyDown 17 = .ok (.aload_n 0, 1) := by decide +kernel
theorem dX7_copyDown_18 : decode cX7_copyDown 18 = .ok (.iconst 0, 1) := by decide +kernel
theorem dX7_copyDown_19 : decode cX7_copyDown 19 = .ok (.putfield 32, 3) := by decide +kernel
theorem dX7_copyDown_22 : decode cX7_copyDown 22 = .ok (.aload_n 0, 1) := by decide +kernel
theorem dX7_copyDown_23 : decode cX7_copyDown 23 = .ok (.invokevirtual 35, 3) := by decide +kernel
theorem dX7_copyDown_26 : decode cX7_copyDown 26 = .ok (.iconst 0, 1) := by decide +kernel
theorem dX7_copyDown_27 : decode cX7_copyDown 27 = .ok (.istore_n 1, 1) := by decide +kernel
theorem dX7_copyDown_28 : decode cX7_copyDown 28 = .ok (.iload_n 1, 1) := by decide +kernel
theorem dX7_copyDown_29 : decode cX7_copyDown 29 = .ok (.sipush 600, 3) := by decide +kernel
theorem dX7_copyDown_32 : decode cX7_copyDown 32 = .ok (.if_icmp .ge 57, 3) := by decide +kernel
theorem dX7_copyDown_35 : decode cX7_copyDown 35 = .ok (.aload_n 0, 1) := by decide +kernel
theorem dX7_copyDown_36 : decode cX7_copyDown 36 = .ok (.getfield 29, 3) := by decide +kernel
theorem dX7_copyDown_39 : decode cX7_copyDown 39 = .ok (.ifCond .ne 50, 3) := by decide +kernel
theorem dX7_copyDown_42 : decode cX7_copyDown 42 = .ok (.aload_n 0, 1) := by decide +kernel
theorem dX7_copyDown_43 : decode cX7_copyDown 43 = .ok (.getfield 38, 3) := by decide +kernel
theorem dX7_copyDown_46 : decode cX7_copyDown 46 = .ok (.ifCond .eq 43, 3) := by decide +kernel
theorem dX7_copyDown_49 : decode cX7_copyDown 49 = .ok (.aload_n 0, 1) := by decide +kernel
theorem dX7_copyDown_50 : decode cX7_copyDown 50 = .ok (.invokevirtual 41, 3) := by decide +kernel
theorem dX7_copyDown_53 : decode cX7_copyDown 53 = .ok (.aload_n 0, 1) := by decide +kernel
theorem dX7_copyDown_54 : decode cX7_copyDown 54 = .ok (.aload_n 0, 1) := by decide +kernel
theorem dX7_copyDown_55 : decode cX7_copyDown 55 = .ok (.getfield 38, 3) := by decide +kernel
theorem dX7_copyDown_58 : decode cX7_copyDown 58 = .ok (.iconst 4, 1) := by decide +kernel
theorem dX7_copyDown_59 : decode cX7_copyDown 59 = .ok (.if_icmp .ne 7, 3) := by decide +kernel
theorem dX7_copyDown_62 : decode cX7_copyDown 62 = .ok (.iconst 1, 1) := by decide +kernel
theorem dX7_copyDown_63 : decode cX7_copyDown 63 = .ok (.goto 4, 3) := by decide +kernel
theorem dX7_copyDown_66 : decode cX7_copyDown 66 = .ok (.iconst 0, 1) := by decide +kernel
theorem dX7_copyDown_67 : decode cX7_copyDown 67 = .ok (.invokevirtual 44, 3) := by decide +kernel
theorem dX7_copyDown_70 : decode cX7_copyDown 70 = .ok (.aload_n 0, 1) := by decide +kernel
theorem dX7_copyDown_71 : decode cX7_copyDown 71 = .ok (.getfield 12, 3) := by decide +kernel
theorem dX7_copyDown_74 : decode cX7_copyDown 74 = .ok (.dup, 1) := by decide +kernel
theorem dX7_copyDown_75 : decode cX7_copyDown 75 = .ok (.getfield 48, 3) := by decide +kernel
theorem dX7_copyDown_78 : decode cX7_copyDown 78 = .ok (.iconst 1, 1) := by decide +kernel
theorem dX7_copyDown_79 : decode cX7_copyDown 79 = .ok (.iadd, 1) := by decide +kernel
theorem dX7_copyDown_80 : decode cX7_copyDown 80 = .ok (.putfield 48, 3) := by decide +kernel
theorem dX7_copyDown_83 : decode cX7_copyDown 83 = .ok (.iinc 1 1, 3) := by decide +kernel
theorem dX7_copyDown_86 : decode cX7_copyDown 86 = .ok (.goto (-58), 3) := by decide +kernel
theorem dX7_copyDown_89 : decode cX7_copyDown 89 = .ok (.aload_n 0, 1) := by decide +kernel
theorem dX7_copyDown_90 : decode cX7_copyDown 90 = .ok (.getfield 12, 3) := by decide +kernel
theorem dX7_copyDown_93 : decode cX7_copyDown 93 = .ok (.aload_n 0, 1) := by decide +kernel
theorem dX7_copyDown_94 : decode cX7_copyDown 94 = .ok (.getfield 12, 3) := by decide +kernel
theorem dX7_copyDown_97 : decode cX7_copyDown 97 = .ok (.getfield 51, 3) := by decide +kernel
theorem dX7_copyDown_100 : decode cX7_copyDown 100 = .ok (.putfield 54, 3) := by decide +kernel
theorem dX7_copyDown_103 : decode cX7_copyDown 103 = .ok (.aload_n 0, 1) := by decide +kernel
theorem dX7_copyDown_104 : decode cX7_copyDown 104 = .ok (.getfield 29, 3) := by decide +kernel
theorem dX7_copyDown_107 : decode cX7_copyDown 107 = .ok (.ifCond .ne 7, 3) := by decide +kernel
theorem dX7_copyDown_110 : decode cX7_copyDown 110 = .ok (.iconst 1, 1) := by decide +kernel
theorem dX7_copyDown_111 : decode cX7_copyDown 111 = .ok (.goto 4, 3) := by decide +kernel
theorem dX7_copyDown_114 : decode cX7_copyDown 114 = .ok (.iconst 0, 1) := by decide +kernel
theorem dX7_copyDown_115 : decode cX7_copyDown 115 = .ok (.ireturn, 1) := by decide +kernel
theorem dX7_takeLine_0 : decode cX7_takeLine 0 = .ok (.aload_n 0, 1) := by decide +kernel
theorem dX7_takeLine_1 : decode cX7_takeLine 1 = .ok (.getfield 12, 3) := by decide +kernel
theorem dX7_takeLine_4 : decode cX7_takeLine 4 = .ok (.getfield 48, 3) := by decide +kernel
theorem dX7_takeLine_7 : decode cX7_takeLine 7 = .ok (.ifCond .ne 10, 3) := by decide +kernel
theorem dX7_takeLine_10 : decode cX7_takeLine 10 = .ok (.aload_n 0, 1) := by decide +kernel
theorem dX7_takeLine_11 : decode cX7_takeLine 11 = .ok (.invokevirtual 57, 3) := by decide +kernel
theorem dX7_takeLine_14 : decode cX7_takeLine 14 = .ok (.goto 88, 3) := by decide +kernel
theorem dX7_takeLine_17 : decode cX7_takeLine 17 = .ok (.aload_n 0, 1) := by decide +kernel
theorem dX7_takeLine_18 : decode cX7_takeLine 18 = .ok (.ldc 60, 2) := by decide +kernel
theorem dX7_takeLine_20 : decode cX7_takeLine 20 = .ok (.invokevirtual 62, 3) := by decide +kernel
theorem dX7_takeLine_23 : decode cX7_takeLine 23 = .ok (.ifCond .eq 10, 3) := by decide +kernel
theorem dX7_takeLine_26 : decode cX7_takeLine 26 = .ok (.aload_n 0, 1) := by decide +kernel
theorem dX7_takeLine_27 : decode cX7_takeLine 27 = .ok (.invokevirtual 66, 3) := by decide +kernel
theorem dX7_takeLine_30 : decode cX7_takeLine 30 = .ok (.goto 72, 3) := by decide +kernel
theorem dX7_takeLine_33 : decode cX7_takeLine 33 = .ok (.aload_n 0, 1) := by decide +kernel
theorem dX7_takeLine_34 : decode cX7_takeLine 34 = .ok (.ldc 69, 2) := by decide +kernel
theorem dX7_takeLine_36 : decode cX7_takeLine 36 = .ok (.invokevirtual 62, 3) := by decide +kernel
theorem dX7_takeLine_39 : decode cX7_takeLine 39 = .ok (.ifCond .eq 10, 3) := by decide +kernel
theorem dX7_takeLine_42 : decode cX7_takeLine 42 = .ok (.aload_n 0, 1) := by decide +kernel
theorem dX7_takeLine_43 : decode cX7_takeLine 43 = .ok (.invokevirtual 71, 3) := by decide +kernel
theorem dX7_takeLine_46 : decode cX7_takeLine 46 = .ok (.goto 56, 3) := by decide +kernel
theorem dX7_takeLine_49 : decode cX7_takeLine 49 = .ok (.aload_n 0, 1) := by decide +kernel
theorem dX7_takeLine_50 : decode cX7_takeLine 50 = .ok (.ldc 74, 2) := by decide +kernel
theorem dX7_takeLine_52 : decode cX7_takeLine 52 = .ok (.invokevirtual 62, 3) := by decide +kernel
theorem dX7_takeLine_55 : decode cX7_takeLine 55 = .ok (.ifCond .eq 26, 3) := by decide +kernel
theorem dX7_takeLine_58 : decode cX7_takeLine 58 = .ok (.aload_n 0, 1) := by decide +kernel
theorem dX7_takeLine_59 : decode cX7_takeLine 59 = .ok (.invokevirtual 76, 3) := by decide +kernel
theorem dX7_takeLine_62 : decode cX7_takeLine 62 = .ok (.ifCond .eq 40, 3) := by decide +kernel
theorem dX7_takeLine_65 : decode cX7_takeLine 65 = .ok (.aload_n 0, 1) := by decide +kernel
theorem dX7_takeLine_66 : decode cX7_takeLine 66 = .ok (.aload_n 0, 1) := by decide +kernel
theorem dX7_takeLine_67 : decode cX7_takeLine 67 = .ok (.getfield 12, 3) := by decide +kernel
theorem dX7_takeLine_70 : decode cX7_takeLine 70 = .ok (.getfield 80, 3) := by decide +kernel
theorem dX7_takeLine_73 : decode cX7_takeLine 73 = .ok (.iconst 1, 1) := by decide +kernel
theorem dX7_takeLine_74 : decode cX7_takeLine 74 = .ok (.isub, 1) := by decide +kernel
theorem dX7_takeLine_75 : decode cX7_takeLine 75 = .ok (.invokevirtual 83, 3) := by decide +kernel
theorem dX7_takeLine_78 : decode cX7_takeLine 78 = .ok (.goto 24, 3) := by decide +kernel
theorem dX7_takeLine_81 : decode cX7_takeLine 81 = .ok (.aload_n 0, 1) := by decide +kernel
theorem dX7_takeLine_82 : decode cX7_takeLine 82 = .ok (.ldc 87, 2) := by decide +kernel
theorem dX7_takeLine_84 : decode cX7_takeLine 84 = .ok (.invokevirtual 62, 3) := by decide +kernel
theorem dX7_takeLine_87 : decode cX7_takeLine 87 = .ok (.ifCond .eq 10, 3) := by decide +kernel
theorem dX7_takeLine_90 : decode cX7_takeLine 90 = .ok (.aload_n 0, 1) := by decide +kernel
theorem dX7_takeLine_91 : decode cX7_takeLine 91 = .ok (.invokevirtual 89, 3) := by decide +kernel
theorem dX7_takeLine_94 : decode cX7_takeLine 94 = .ok (.goto 8, 3) := by decide +kernel
theorem dX7_takeLine_97 : decode cX7_takeLine 97 = .ok (.aload_n 0, 1) := by decide +kernel
theorem dX7_takeLine_98 : decode cX7_takeLine 98 = .ok (.iconst 1, 1) := by decide +kernel
theorem dX7_takeLine_99 : decode cX7_takeLine 99 = .ok (.invokevirtual 92, 3) := by decide +kernel
theorem dX7_takeLine_102 : decode cX7_takeLine 102 = .ok (.return_, 1) := by decide +kernel
theorem mm_k100 : mm_rg 100 100 100 := ⟨by decide, by decide⟩
theorem mm_k210 : mm_rg 210 210 210 := ⟨by decide, by decide⟩
theorem mm_kl0 : mm_rl 0 0 0 := ⟨by decide, by decide⟩
theorem hd_X0_copyFrom : yX0_copyFrom.cls = RX0 ∧ yX0_copyFrom.cls ≠ "java/lang/invoke/MethodHandle" ∧ yX0_copyFrom.cls ≠ "java/lang/invoke/VarHandle" ∧ (parseMethodDescriptor yX0_copyFrom.desc).map (fun d => d.parameters.length) = some 1 := by decide +kernel
theorem hd_X0_taken : yX0_taken.cls = RX0 ∧ yX0_taken.cls ≠ "java/lang/invoke/MethodHandle" ∧ yX0_taken.cls ≠ "java/lang/invoke/VarHandle" ∧ (parseMethodDescriptor yX0_taken.desc).map (fun d => d.parameters.length) = some 3 := by decide +kernel
theorem hd_X0_wipe : yX0_wipe.cls = RX0 ∧ yX0_wipe.cls ≠ "java/lang/invoke/MethodHandle" ∧ yX0_wipe.cls ≠ "java/lang/invoke/VarHandle" ∧ (parseMethodDescriptor yX0_wipe.desc).map (fun d => d.parameters.length) = some 0 := by decide +kernel
theorem hd_X1_comesRound : yX1_comesRound.cls = RX1 ∧ yX1_comesRound.cls ≠ "java/lang/invoke/MethodHandle" ∧ yX1_comesRound.cls ≠ "java/lang/invoke/VarHandle" ∧ (parseMethodDescriptor yX1_comesRound.desc).map (fun d => d.parameters.length) = some 2 := by decide +kernel
theorem hd_X1_cycleOf : yX1_cycleOf.cls = RX1 ∧ yX1_cycleOf.cls ≠ "java/lang/invoke/MethodHandle" ∧ yX1_cycleOf.cls ≠ "java/lang/invoke/VarHandle" ∧ (parseMethodDescriptor yX1_cycleOf.desc).map (fun d => d.parameters.length) = some 1 := by decide +kernel
theorem hd_X1_lay : yX1_lay.cls = RX1 ∧ yX1_lay.cls ≠ "java/lang/invoke/MethodHandle" ∧ yX1_lay.cls ≠ "java/lang/invoke/VarHandle" ∧ (parseMethodDescriptor yX1_lay.desc).map (fun d => d.parameters.length) = some 2 := by decide +kernel
theorem hd_X1_layDays : yX1_layDays.cls = RX1 ∧ yX1_layDays.cls ≠ "java/lang/invoke/MethodHandle" ∧ yX1_layDays.cls ≠ "java/lang/invoke/VarHandle" ∧ (parseMethodDescriptor yX1_layDays.desc).map (fun d => d.parameters.length) = some 3 := by decide +kernel
theorem hd_X1_layTurn : yX1_layTurn.cls = RX1 ∧ yX1_layTurn.cls ≠ "java/lang/invoke/MethodHandle" ∧ yX1_layTurn.cls ≠ "java/lang/invoke/VarHandle" ∧ (parseMethodDescriptor yX1_layTurn.desc).map (fun d => d.parameters.length) = some 2 := by decide +kernel
theorem hd_X1_leastPeriod : yX1_leastPeriod.cls = RX1 ∧ yX1_leastPeriod.cls ≠ "java/lang/invoke/MethodHandle" ∧ yX1_leastPeriod.cls ≠ "java/lang/invoke/VarHandle" ∧ (parseMethodDescriptor yX1_leastPeriod.desc).map (fun d => d.parameters.length) = some 1 := by decide +kernel
theorem hd_X7_opensRule : yX7_opensRule.cls = RX7 ∧ yX7_opensRule.cls ≠ "java/lang/invoke/MethodHandle" ∧ yX7_opensRule.cls ≠ "java/lang/invoke/VarHandle" ∧ (parseMethodDescriptor yX7_opensRule.desc).map (fun d => d.parameters.length) = some 0 := by decide +kernel
theorem hd_X7_takeBookLine : yX7_takeBookLine.cls = RX7 ∧ yX7_takeBookLine.cls ≠ "java/lang/invoke/MethodHandle" ∧ yX7_takeBookLine.cls ≠ "java/lang/invoke/VarHandle" ∧ (parseMethodDescriptor yX7_takeBookLine.desc).map (fun d => d.parameters.length) = some 0 := by decide +kernel
theorem hd_X7_takeLandLine : yX7_takeLandLine.cls = RX7 ∧ yX7_takeLandLine.cls ≠ "java/lang/invoke/MethodHandle" ∧ yX7_takeLandLine.cls ≠ "java/lang/invoke/VarHandle" ∧ (parseMethodDescriptor yX7_takeLandLine.desc).map (fun d => d.parameters.length) = some 0 := by decide +kernel
theorem hd_X7_takeLine : yX7_takeLine.cls = RX7 ∧ yX7_takeLine.cls ≠ "java/lang/invoke/MethodHandle" ∧ yX7_takeLine.cls ≠ "java/lang/invoke/VarHandle" ∧ (parseMethodDescriptor yX7_takeLine.desc).map (fun d => d.parameters.length) = some 0 := by decide +kernel
theorem hd_X7_takeRule : yX7_takeRule.cls = RX7 ∧ yX7_takeRule.cls ≠ "java/lang/invoke/MethodHandle" ∧ yX7_takeRule.cls ≠ "java/lang/invoke/VarHandle" ∧ (parseMethodDescriptor yX7_takeRule.desc).map (fun d => d.parameters.length) = some 1 := by decide +kernel
theorem hd_X7_takeSenseLine : yX7_takeSenseLine.cls = RX7 ∧ yX7_takeSenseLine.cls ≠ "java/lang/invoke/MethodHandle" ∧ yX7_takeSenseLine.cls ≠ "java/lang/invoke/VarHandle" ∧ (parseMethodDescriptor yX7_takeSenseLine.desc).map (fun d => d.parameters.length) = some 0 := by decide +kernel
theorem hd_X7_takeTextLine : yX7_takeTextLine.cls = RX7 ∧ yX7_takeTextLine.cls ≠ "java/lang/invoke/MethodHandle" ∧ yX7_takeTextLine.cls ≠ "java/lang/invoke/VarHandle" ∧ (parseMethodDescriptor yX7_takeTextLine.desc).map (fun d => d.parameters.length) = some 0 := by decide +kernel
theorem hs_X0_copyRow : yX0_copyRow.cls ≠ "java/lang/invoke/MethodHandle" ∧ yX0_copyRow.cls ≠ "java/lang/invoke/VarHandle" ∧ (parseMethodDescriptor yX0_copyRow.desc).map (fun d => d.parameters.length) = some 2 := by decide +kernel
theorem hs_X11_commonMultiple : yX11_commonMultiple.cls ≠ "java/lang/invoke/MethodHandle" ∧ yX11_commonMultiple.cls ≠ "java/lang/invoke/VarHandle" ∧ (parseMethodDescriptor yX11_commonMultiple.desc).map (fun d => d.parameters.length) = some 2 := by decide +kernel
theorem hs_X11_greatestDivisor : yX11_greatestDivisor.cls ≠ "java/lang/invoke/MethodHandle" ∧ yX11_greatestDivisor.cls ≠ "java/lang/invoke/VarHandle" ∧ (parseMethodDescriptor yX11_greatestDivisor.desc).map (fun d => d.parameters.length) = some 2 := by decide +kernel
set_option maxHeartbeats 4000000 in
set_option maxRecDepth 100000 in
theorem K320_X7_takeLine (l : Launch) (G : va_G) (cy : Nat → ClassId) (sz : Nat) (a_0 : Nat) (a_1 : Nat) (a_2 : Nat) (i_0 : Int32) (f_0 : Nat → Int32) (a_3 : Nat) (i_1 : Int32) (i_2 : Int32) (i_3 : Int32) (i_4 : Int32) (i_5 : Int32) (i_6 : Int32) (i_7 : Int32) (i_8 : Int32) (i_9 : Int32) (i_10 : Int32) (i_11 : Int32) (i_12 : Int32) (i_13 : Int32) (i_14 : Int32) (a_4 : Nat) (a_5 : Nat) (a_6 : Nat) (a_7 : Nat) (a_8 : Nat) (a_9 : Nat) (a_10 : Nat) (a_11 : Nat) (a_12 : Nat) (a_13 : Nat) (f_1 : Nat → Int32) (f_2 : Nat → Int32) (f_3 : Nat → Int32) (f_4 : Nat → Int32) (f_5 : Nat → Int32) (f_6 : Nat → Int32) (h0 : mm_rg i_0 0 600) (h1 : mm_ar f_0 (-128) 127) (h2 : mm_rg i_1 0 3) (h3 : mm_rg i_3 0 5) (h4 : mm_rg i_4 0 600) (h5 : mm_rg i_5 0 600) (h6 : mm_rg i_8 0 10) (h7 : mm_rg i_9 0 99) (h8 : mm_rg i_11 0 9) (h9 : mm_rg i_12 0 3) (h10 : mm_rg i_13 0 6) (h11 : mm_ar f_1 (-1) 4) (h12 : mm_ar f_2 0 99) (h13 : mm_ar f_3 0 7) (h14 : mm_ar f_4 0 9) (h15 : mm_ar f_5 0 8) (h16 : mm_ar f_6 0 9)  : mm_CV l yX7_takeLine (mm_ws yX7_takeLine cX7_takeLine 1 (none)) ({ frames := 7, cells := 0, slots := 0, locals := 150 } : Room) G cy sz [(a_1, .inr (9, [.ref a_2, .int i_0])), (a_2, .inl (cy 0, 600, .inl f_0)), (a_0, .inr (7, [.ref a_1, .ref a_3, .int i_1, .int i_2, .int i_3, .int i_4, .int i_5, .int i_6])), (a_3, .inr (0, [.int i_7, .int i_8, .int i_9, .int i_10, .int i_11, .int i_12, .int i_13, .int i_14, .ref a_4, .ref a_5, .ref a_6, .ref a_7, .ref a_8, .ref a_9, .ref a_10, .ref a_11, .ref a_12, .ref a_13])), (a_4, .inl (cy 1, 9, .inl f_1)), (a_5, .inl (cy 1, 9, .inl f_2)), (a_6, .inl (cy 1, 3, .inl f_3)), (a_7, .inl (cy 1, 210, .inl f_4)), (a_8, .inl (cy 1, 6, .inl f_5)), (a_9, .inl (cy 1, 48, .inl f_6))] [.ref a_0] (fun u : Int32 × Int32 × Int32 × Int32 × Int32 × Int32 × Int32 × Int32 × Int32 × Int32 × Int32 × (Nat → Int32) × (Nat → Int32) × (Nat → Int32) × (Nat → Int32) × (Nat → Int32) × (Nat → Int32) => [(a_1, .inr (9, [.ref a_2, .int i_0])), (a_2, .inl (cy 0, 600, .inl f_0)), (a_0, .inr (7, [.ref a_1, .ref a_3, .int u.1, .int u.2.1, .int u.2.2.1, .int u.2.2.2.1, .int u.2.2.2.2.1, .int u.2.2.2.2.2.1])), (a_3, .inr (0, [.int i_7, .int u.2.2.2.2.2.2.1, .int u.2.2.2.2.2.2.2.1, .int i_10, .int u.2.2.2.2.2.2.2.2.1, .int u.2.2.2.2.2.2.2.2.2.1, .int u.2.2.2.2.2.2.2.2.2.2.1, .int i_14, .ref a_4, .ref a_5, .ref a_6, .ref a_7, .ref a_8, .ref a_9, .ref a_10, .ref a_11, .ref a_12, .ref a_13])), (a_4, .inl (cy 1, 9, .inl u.2.2.2.2.2.2.2.2.2.2.2.1)), (a_5, .inl (cy 1, 9, .inl u.2.2.2.2.2.2.2.2.2.2.2.2.1)), (a_6, .inl (cy 1, 3, .inl u.2.2.2.2.2.2.2.2.2.2.2.2.2.1)), (a_7, .inl (cy 1, 210, .inl u.2.2.2.2.2.2.2.2.2.2.2.2.2.2.1)), (a_8, .inl (cy 1, 6, .inl u.2.2.2.2.2.2.2.2.2.2.2.2.2.2.2.1)), (a_9, .inl (cy 1, 48, .inl u.2.2.2.2.2.2.2.2.2.2.2.2.2.2.2.2))]) (fun u : Int32 × Int32 × Int32 × Int32 × Int32 × Int32 × Int32 × Int32 × Int32 × Int32 × Int32 × (Nat → Int32) × (Nat → Int32) × (Nat → Int32) × (Nat → Int32) × (Nat → Int32) × (Nat → Int32) => mm_rg u.1 0 3 ∧ mm_rg u.2.2.1 0 5 ∧ mm_rg u.2.2.2.1 0 600 ∧ mm_rg u.2.2.2.2.1 0 600 ∧ mm_rg u.2.2.2.2.2.2.1 0 10 ∧ mm_rg u.2.2.2.2.2.2.2.1 0 99 ∧ mm_rg u.2.2.2.2.2.2.2.2.1 0 9 ∧ mm_rg u.2.2.2.2.2.2.2.2.2.1 0 3 ∧ mm_rg u.2.2.2.2.2.2.2.2.2.2.1 0 6 ∧ mm_ar u.2.2.2.2.2.2.2.2.2.2.2.1 (-1) 4 ∧ mm_ar u.2.2.2.2.2.2.2.2.2.2.2.2.1 0 99 ∧ mm_ar u.2.2.2.2.2.2.2.2.2.2.2.2.2.1 0 7 ∧ mm_ar u.2.2.2.2.2.2.2.2.2.2.2.2.2.2.1 0 9 ∧ mm_ar u.2.2.2.2.2.2.2.2.2.2.2.2.2.2.2.1 0 8 ∧ mm_ar u.2.2.2.2.2.2.2.2.2.2.2.2.2.2.2.2 0 9) 0 0 := by
  refine mm_begin (lv := [(0, .ref a_0)]) (by decide) (Nat.le_of_ble_eq_true rfl) rfl ?_
  intro p e s m below meth c A ls R args Q H locs hRe hQ hAe hx hb hr hlocks hml hown hnm hts hsz hA hS hP hK hD hZ hl
  have hRf : R.frames = 7 := by rw [hRe]
  have hRl : R.locals = 150 := by rw [hRe]
  have hRc : R.cells = 0 := by rw [hRe]
  have hRs : R.slots = 0 := by rw [hRe]
  refine lv_aload_n hx hb dX7_takeLine_0 rfl (lv_at hl 0 rfl) ?_
  refine va_get (D := G) (ci := 7) (v := .ref a_3) (C := RX7) (T := TX7) (N := 8) hx hb hts (mm_i inlX7) hown hK.1 hP 2 rfl rfl 1 (by decide) (mm_h hts mm_w65) (fun _ h9 => h9) rfl dX7_takeLine_1 ?_
  refine va_get (D := G) (ci := 0) (v := .int i_7) (C := RX0) (T := TX0) (N := 18) hx hb hts (mm_i inlX0) hown hK.1 hP 3 rfl rfl 0 (by decide) (mm_h hts mm_w208) (fun _ h9 => h9) rfl dX7_takeLine_4 ?_
  refine lv_if_ne (tgt := 17) hx hb dX7_takeLine_7 (by decide) (fun c1 => ?_) (fun c1 => ?_)
  · refine lv_aload_n hx hb dX7_takeLine_17 rfl (lv_at hl 0 rfl) ?_
    refine va_ldcS hx hb hown (hK.2.2.2 3 "MissingMeaning$Scribe" 60 "sense" rfl) dX7_takeLine_18 ?_
    refine mm_finir (va_runV (As := [.ref (cy 106)]) (rest := []) ⟨hx, hb, hml, hown, hts⟩ (K43_X7_isName l G cy H.size a_0 a_1 a_2 i_0 f_0 a_3 i_1 i_2 i_3 i_4 i_5 i_6 h0 h1 h3 h4 h5) (cwV 1 hts (mm_gV mm_w254 mm_w255 mm_w256 mm_w19 mm_w257) rfl rfl rfl hd_X7_isName ⟨by rw [hRf]; exact Nat.le_of_ble_eq_true rfl, by rw [hRl]; exact Nat.le_of_ble_eq_true rfl⟩) (mm_preV hK hZ hS hA hP hD [0, 1, 2] rfl rfl 2 rfl rfl rfl) rfl rfl hl.1 rfl (lv_room (Nat.le_of_ble_eq_true rfl)) dX7_takeLine_20 ⟨by rw [hRc]; exact Nat.le_of_ble_eq_true rfl, by rw [hRs]; exact Nat.le_of_ble_eq_true rfl⟩) hP hD hS hA [0, 1, 2] rfl (fun _ => rfl) ?_
    clear hP hD hS
    clear H locs
    intro v2 _u H locs hw hP hD hS
    rcases hw with rfl | rfl
    · refine lv_if_eq (tgt := 33) hx hb dX7_takeLine_23 (by decide) (fun c3 => ?_) (fun c3 => ?_)
      · refine lv_aload_n hx hb dX7_takeLine_33 rfl (lv_at hl 0 rfl) ?_
        refine va_ldcS hx hb hown (hK.2.2.2 9 "MissingMeaning$Scribe" 69 "land" rfl) dX7_takeLine_34 ?_
        refine mm_finir (va_runV (As := [.ref (cy 118)]) (rest := []) ⟨hx, hb, hml, hown, hts⟩ (K72_X7_isName l G cy H.size a_0 a_1 a_2 i_0 f_0 a_3 i_1 i_2 i_3 i_4 i_5 i_6 h0 h1 h3 h4 h5) (cwV 1 hts (mm_gV mm_w254 mm_w255 mm_w256 mm_w19 mm_w257) rfl rfl rfl hd_X7_isName ⟨by rw [hRf]; exact Nat.le_of_ble_eq_true rfl, by rw [hRl]; exact Nat.le_of_ble_eq_true rfl⟩) (mm_preV hK hZ hS hA hP hD [0, 1, 2] rfl rfl 2 rfl rfl rfl) rfl rfl hl.1 rfl (lv_room (Nat.le_of_ble_eq_true rfl)) dX7_takeLine_36 ⟨by rw [hRc]; exact Nat.le_of_ble_eq_true rfl, by rw [hRs]; exact Nat.le_of_ble_eq_true rfl⟩) hP hD hS hA [0, 1, 2] rfl (fun _ => rfl) ?_
        clear hP hD hS
        clear H locs
        intro v4 _u H locs hw hP hD hS
        rcases hw with rfl | rfl
        · refine lv_if_eq (tgt := 49) hx hb dX7_takeLine_39 (by decide) (fun c5 => ?_) (fun c5 => ?_)
          · refine lv_aload_n hx hb dX7_takeLine_49 rfl (lv_at hl 0 rfl) ?_
            refine va_ldcS hx hb hown (hK.2.2.2 10 "MissingMeaning$Scribe" 74 "rule" rfl) dX7_takeLine_50 ?_
            refine mm_finir (va_runV (As := [.ref (cy 120)]) (rest := []) ⟨hx, hb, hml, hown, hts⟩ (K86_X7_isName l G cy H.size a_0 a_1 a_2 i_0 f_0 a_3 i_1 i_2 i_3 i_4 i_5 i_6 h0 h1 h3 h4 h5) (cwV 1 hts (mm_gV mm_w254 mm_w255 mm_w256 mm_w19 mm_w257) rfl rfl rfl hd_X7_isName ⟨by rw [hRf]; exact Nat.le_of_ble_eq_true rfl, by rw [hRl]; exact Nat.le_of_ble_eq_true rfl⟩) (mm_preV hK hZ hS hA hP hD [0, 1, 2] rfl rfl 2 rfl rfl rfl) rfl rfl hl.1 rfl (lv_room (Nat.le_of_ble_eq_true rfl)) dX7_takeLine_52 ⟨by rw [hRc]; exact Nat.le_of_ble_eq_true rfl, by rw [hRs]; exact Nat.le_of_ble_eq_true rfl⟩) hP hD hS hA [0, 1, 2] rfl (fun _ => rfl) ?_
            clear hP hD hS
            clear H locs
            intro v6 _u H locs hw hP hD hS
            rcases hw with rfl | rfl
            · refine lv_if_eq (tgt := 81) hx hb dX7_takeLine_55 (by decide) (fun c7 => ?_) (fun c7 => ?_)
              · refine lv_aload_n hx hb dX7_takeLine_81 rfl (lv_at hl 0 rfl) ?_
                refine va_ldcS hx hb hown (hK.2.2.2 15 "MissingMeaning$Scribe" 87 "text" rfl) dX7_takeLine_82 ?_
                refine mm_finir (va_runV (As := [.ref (cy 130)]) (rest := []) ⟨hx, hb, hml, hown, hts⟩ (K100_X7_isName l G cy H.size a_0 a_1 a_2 i_0 f_0 a_3 i_1 i_2 i_3 i_4 i_5 i_6 h0 h1 h3 h4 h5) (cwV 1 hts (mm_gV mm_w254 mm_w255 mm_w256 mm_w19 mm_w257) rfl rfl rfl hd_X7_isName ⟨by rw [hRf]; exact Nat.le_of_ble_eq_true rfl, by rw [hRl]; exact Nat.le_of_ble_eq_true rfl⟩) (mm_preV hK hZ hS hA hP hD [0, 1, 2] rfl rfl 2 rfl rfl rfl) rfl rfl hl.1 rfl (lv_room (Nat.le_of_ble_eq_true rfl)) dX7_takeLine_84 ⟨by rw [hRc]; exact Nat.le_of_ble_eq_true rfl, by rw [hRs]; exact Nat.le_of_ble_eq_true rfl⟩) hP hD hS hA [0, 1, 2] rfl (fun _ => rfl) ?_
                clear hP hD hS
                clear H locs
                intro v8 _u H locs hw hP hD hS
                rcases hw with rfl | rfl
                · refine lv_if_eq (tgt := 97) hx hb dX7_takeLine_87 (by decide) (fun c9 => ?_) (fun c9 => ?_)
                  · refine lv_aload_n hx hb dX7_takeLine_97 rfl (lv_at hl 0 rfl) ?_
                    refine lv_iconst (v := 1) hx hb dX7_takeLine_98 (by decide) ?_
                    refine mm_finv (va_runV (As := [.int 1]) (rest := []) ⟨hx, hb, hml, hown, hts⟩ (K101_X7_blame l G cy H.size a_0 a_1 a_3 i_1 i_2 i_3 i_4 i_5 i_6 h2 h4) (cwV 1 hts (mm_gV mm_w311 mm_w312 mm_w313 mm_w19 mm_w314) rfl rfl rfl hd_X7_blame ⟨by rw [hRf]; exact Nat.le_of_ble_eq_true rfl, by rw [hRl]; exact Nat.le_of_ble_eq_true rfl⟩) (mm_preV hK hZ hS hA hP hD [2] rfl rfl 2 rfl rfl rfl) rfl rfl hl.1 rfl (lv_room (Nat.le_of_ble_eq_true rfl)) dX7_takeLine_99 ⟨by rw [hRc]; exact Nat.le_of_ble_eq_true rfl, by rw [hRs]; exact Nat.le_of_ble_eq_true rfl⟩) hP hD hS hA (fun u : Int32 × Int32 => [(a_1, .inr (9, [.ref a_2, .int i_0])), (a_2, .inl (cy 0, 600, .inl f_0)), (a_0, .inr (7, [.ref a_1, .ref a_3, .int u.1, .int u.2, .int i_3, .int i_4, .int i_5, .int i_6])), (a_3, .inr (0, [.int i_7, .int i_8, .int i_9, .int i_10, .int i_11, .int i_12, .int i_13, .int i_14, .ref a_4, .ref a_5, .ref a_6, .ref a_7, .ref a_8, .ref a_9, .ref a_10, .ref a_11, .ref a_12, .ref a_13])), (a_4, .inl (cy 1, 9, .inl f_1)), (a_5, .inl (cy 1, 9, .inl f_2)), (a_6, .inl (cy 1, 3, .inl f_3)), (a_7, .inl (cy 1, 210, .inl f_4)), (a_8, .inl (cy 1, 6, .inl f_5)), (a_9, .inl (cy 1, 48, .inl f_6))]) [2] [0, 1, 3, 4, 5, 6, 7, 8, 9] (n := 10) (fun _ => rfl) (by decide +kernel) (by decide +kernel) rfl (fun _ => rfl) (wr := [(a_1, .inr (9, [.ref a_2, .int i_0])), (a_2, .inl (cy 0, 600, .inl f_0)), (a_3, .inr (0, [.int i_7, .int i_8, .int i_9, .int i_10, .int i_11, .int i_12, .int i_13, .int i_14, .ref a_4, .ref a_5, .ref a_6, .ref a_7, .ref a_8, .ref a_9, .ref a_10, .ref a_11, .ref a_12, .ref a_13])), (a_4, .inl (cy 1, 9, .inl f_1)), (a_5, .inl (cy 1, 9, .inl f_2)), (a_6, .inl (cy 1, 3, .inl f_3)), (a_7, .inl (cy 1, 210, .inl f_4)), (a_8, .inl (cy 1, 6, .inl f_5)), (a_9, .inl (cy 1, 48, .inl f_6))]) rfl (fun _ => rfl) (fun _ => rfl) ?_
                    clear hP hD hS
                    clear H locs
                    intro u
                    obtain ⟨n10, n11⟩ := u
                    intro H locs hw (hP : va_P G vwCl [(a_1, .inr (9, [.ref a_2, .int i_0])), (a_2, .inl (cy 0, 600, .inl f_0)), (a_0, .inr (7, [.ref a_1, .ref a_3, .int n10, .int n11, .int i_3, .int i_4, .int i_5, .int i_6])), (a_3, .inr (0, [.int i_7, .int i_8, .int i_9, .int i_10, .int i_11, .int i_12, .int i_13, .int i_14, .ref a_4, .ref a_5, .ref a_6, .ref a_7, .ref a_8, .ref a_9, .ref a_10, .ref a_11, .ref a_12, .ref a_13])), (a_4, .inl (cy 1, 9, .inl f_1)), (a_5, .inl (cy 1, 9, .inl f_2)), (a_6, .inl (cy 1, 3, .inl f_3)), (a_7, .inl (cy 1, 210, .inl f_4)), (a_8, .inl (cy 1, 6, .inl f_5)), (a_9, .inl (cy 1, 48, .inl f_6))] H) (hD : va_D A [(a_1, .inr (9, [.ref a_2, .int i_0])), (a_2, .inl (cy 0, 600, .inl f_0)), (a_0, .inr (7, [.ref a_1, .ref a_3, .int n10, .int n11, .int i_3, .int i_4, .int i_5, .int i_6])), (a_3, .inr (0, [.int i_7, .int i_8, .int i_9, .int i_10, .int i_11, .int i_12, .int i_13, .int i_14, .ref a_4, .ref a_5, .ref a_6, .ref a_7, .ref a_8, .ref a_9, .ref a_10, .ref a_11, .ref a_12, .ref a_13])), (a_4, .inl (cy 1, 9, .inl f_1)), (a_5, .inl (cy 1, 9, .inl f_2)), (a_6, .inl (cy 1, 3, .inl f_3)), (a_7, .inl (cy 1, 210, .inl f_4)), (a_8, .inl (cy 1, 6, .inl f_5)), (a_9, .inl (cy 1, 48, .inl f_6))]) hS
                    have w12 := hw
                    subst hAe
                    rw [hQ]
                    exact W.vret hx hb hr (fun t ht hW => ⟨⟨(n10, n11, i_3, i_4, i_5, i_6, i_8, i_9, i_11, i_12, i_13, f_1, f_2, f_3, f_4, f_5, f_6), rfl, ⟨(mm_wk w12 (by decide)), h3, h4, h5, h6, h7, h8, h9, h10, h11, h12, h13, h14, h15, h16⟩, by rw [ht]; exact hP, hK.warm hW, hD⟩, hS.F ht⟩) hS.2.2 dX7_takeLine_102
                  · have q13 := mm_neL (lo := 1) (mm_ne c9) mm_k0 mm_k0 (by decide) (by decide)
                    exact mm_no q13 (by decide)
                · refine lv_if_eq (tgt := 97) hx hb dX7_takeLine_87 (by decide) (fun c14 => ?_) (fun c14 => ?_)
                  · exact mm_eqN c14.symm mm_k0 mm_k1 (by decide)
                  · refine lv_aload_n hx hb dX7_takeLine_90 rfl (lv_at hl 0 rfl) ?_
                    refine mm_finv (va_runV (As := []) (rest := []) ⟨hx, hb, hml, hown, hts⟩ (K106_X7_takeTextLine l G cy H.size a_0 a_1 a_2 i_0 f_0 a_3 i_1 i_2 i_3 i_4 i_5 i_6 i_7 i_8 i_9 i_10 i_11 i_12 i_13 i_14 a_4 a_5 a_6 a_7 a_8 a_9 a_10 a_11 a_12 a_13 f_5 f_6 h0 h1 h2 h3 h4 h5 h8 h10 h15 h16) (cwV 0 hts (mm_gV mm_w364 mm_w365 mm_w366 mm_w19 mm_w367) rfl rfl rfl hd_X7_takeTextLine ⟨by rw [hRf]; exact Nat.le_of_ble_eq_true rfl, by rw [hRl]; exact Nat.le_of_ble_eq_true rfl⟩) (mm_preV hK hZ hS hA hP hD [0, 1, 2, 3, 8, 9] rfl rfl 2 rfl rfl rfl) rfl rfl hl.1 rfl (lv_room (Nat.le_of_ble_eq_true rfl)) dX7_takeLine_91 ⟨by rw [hRc]; exact Nat.le_of_ble_eq_true rfl, by rw [hRs]; exact Nat.le_of_ble_eq_true rfl⟩) hP hD hS hA (fun u : Int32 × Int32 × Int32 × Int32 × Int32 × Int32 × Int32 × (Nat → Int32) × (Nat → Int32) => [(a_1, .inr (9, [.ref a_2, .int i_0])), (a_2, .inl (cy 0, 600, .inl f_0)), (a_0, .inr (7, [.ref a_1, .ref a_3, .int u.1, .int u.2.1, .int u.2.2.1, .int u.2.2.2.1, .int u.2.2.2.2.1, .int u.2.2.2.2.2.1])), (a_3, .inr (0, [.int i_7, .int i_8, .int i_9, .int i_10, .int i_11, .int i_12, .int u.2.2.2.2.2.2.1, .int i_14, .ref a_4, .ref a_5, .ref a_6, .ref a_7, .ref a_8, .ref a_9, .ref a_10, .ref a_11, .ref a_12, .ref a_13])), (a_4, .inl (cy 1, 9, .inl f_1)), (a_5, .inl (cy 1, 9, .inl f_2)), (a_6, .inl (cy 1, 3, .inl f_3)), (a_7, .inl (cy 1, 210, .inl f_4)), (a_8, .inl (cy 1, 6, .inl u.2.2.2.2.2.2.2.1)), (a_9, .inl (cy 1, 48, .inl u.2.2.2.2.2.2.2.2))]) [0, 1, 2, 3, 8, 9] [4, 5, 6, 7] (n := 10) (fun _ => rfl) (by decide +kernel) (by decide +kernel) rfl (fun _ => rfl) (wr := [(a_4, .inl (cy 1, 9, .inl f_1)), (a_5, .inl (cy 1, 9, .inl f_2)), (a_6, .inl (cy 1, 3, .inl f_3)), (a_7, .inl (cy 1, 210, .inl f_4))]) rfl (fun _ => rfl) (fun _ => rfl) ?_
                    clear hP hD hS
                    clear H locs
                    intro u
                    obtain ⟨n15, n16, n17, n18, n19, n20, n21, n22, n23⟩ := u
                    intro H locs hw (hP : va_P G vwCl [(a_1, .inr (9, [.ref a_2, .int i_0])), (a_2, .inl (cy 0, 600, .inl f_0)), (a_0, .inr (7, [.ref a_1, .ref a_3, .int n15, .int n16, .int n17, .int n18, .int n19, .int n20])), (a_3, .inr (0, [.int i_7, .int i_8, .int i_9, .int i_10, .int i_11, .int i_12, .int n21, .int i_14, .ref a_4, .ref a_5, .ref a_6, .ref a_7, .ref a_8, .ref a_9, .ref a_10, .ref a_11, .ref a_12, .ref a_13])), (a_4, .inl (cy 1, 9, .inl f_1)), (a_5, .inl (cy 1, 9, .inl f_2)), (a_6, .inl (cy 1, 3, .inl f_3)), (a_7, .inl (cy 1, 210, .inl f_4)), (a_8, .inl (cy 1, 6, .inl n22)), (a_9, .inl (cy 1, 48, .inl n23))] H) (hD : va_D A [(a_1, .inr (9, [.ref a_2, .int i_0])), (a_2, .inl (cy 0, 600, .inl f_0)), (a_0, .inr (7, [.ref a_1, .ref a_3, .int n15, .int n16, .int n17, .int n18, .int n19, .int n20])), (a_3, .inr (0, [.int i_7, .int i_8, .int i_9, .int i_10, .int i_11, .int i_12, .int n21, .int i_14, .ref a_4, .ref a_5, .ref a_6, .ref a_7, .ref a_8, .ref a_9, .ref a_10, .ref a_11, .ref a_12, .ref a_13])), (a_4, .inl (cy 1, 9, .inl f_1)), (a_5, .inl (cy 1, 9, .inl f_2)), (a_6, .inl (cy 1, 3, .inl f_3)), (a_7, .inl (cy 1, 210, .inl f_4)), (a_8, .inl (cy 1, 6, .inl n22)), (a_9, .inl (cy 1, 48, .inl n23))]) hS
                    obtain ⟨w24, w25, w26, w27, w28, w29, w30⟩ := hw
                    refine lv_goto (tgt := 102) hx hb dX7_takeLine_94 (by decide) ?_
                    subst hAe
                    rw [hQ]
                    exact W.vret hx hb hr (fun t ht hW => ⟨⟨(n15, n16, n17, n18, n19, n20, i_8, i_9, i_11, i_12, n21, f_1, f_2, f_3, f_4, n22, n23), rfl, ⟨w24, w25, w26, w27, h6, h7, h8, h9, (mm_wk w28 (by decide)), h11, h12, h13, h14, w29, w30⟩, by rw [ht]; exact hP, hK.warm hW, hD⟩, hS.F ht⟩) hS.2.2 dX7_takeLine_102
              · have q31 := mm_neL (lo := 1) (mm_ne c7) mm_k0 mm_k0 (by decide) (by decide)
                exact mm_no q31 (by decide)
            · refine lv_if_eq (tgt := 81) hx hb dX7_takeLine_55 (by decide) (fun c32 => ?_) (fun c32 => ?_)
              · exact mm_eqN c32.symm mm_k0 mm_k1 (by decide)
              · refine lv_aload_n hx hb dX7_takeLine_58 rfl (lv_at hl 0 rfl) ?_
                refine mm_fini (va_runV (As := []) (rest := []) ⟨hx, hb, hml, hown, hts⟩ (K110_X7_opensRule l G cy H.size a_0 a_1 a_2 i_0 f_0 a_3 i_1 i_2 i_3 i_4 i_5 i_6 i_7 i_8 i_9 i_10 i_11 i_12 i_13 i_14 a_4 a_5 a_6 a_7 a_8 a_9 a_10 a_11 a_12 a_13 f_3 f_4 h0 h1 h2 h3 h4 h5 h8 h9 h13 h14) (cwV 0 hts (mm_gV mm_w335 mm_w336 mm_w337 mm_w19 mm_w338) rfl rfl rfl hd_X7_opensRule ⟨by rw [hRf]; exact Nat.le_of_ble_eq_true rfl, by rw [hRl]; exact Nat.le_of_ble_eq_true rfl⟩) (mm_preV hK hZ hS hA hP hD [0, 1, 2, 3, 6, 7] rfl rfl 2 rfl rfl rfl) rfl rfl hl.1 rfl (lv_room (Nat.le_of_ble_eq_true rfl)) dX7_takeLine_59 ⟨by rw [hRc]; exact Nat.le_of_ble_eq_true rfl, by rw [hRs]; exact Nat.le_of_ble_eq_true rfl⟩) hP hD hS hA (fun u : Int32 × Int32 × Int32 × Int32 × Int32 × Int32 × (Nat → Int32) => [(a_1, .inr (9, [.ref a_2, .int i_0])), (a_2, .inl (cy 0, 600, .inl f_0)), (a_0, .inr (7, [.ref a_1, .ref a_3, .int u.1, .int u.2.1, .int u.2.2.1, .int u.2.2.2.1, .int u.2.2.2.2.1, .int u.2.2.2.2.2.1])), (a_3, .inr (0, [.int i_7, .int i_8, .int i_9, .int i_10, .int i_11, .int i_12, .int i_13, .int i_14, .ref a_4, .ref a_5, .ref a_6, .ref a_7, .ref a_8, .ref a_9, .ref a_10, .ref a_11, .ref a_12, .ref a_13])), (a_4, .inl (cy 1, 9, .inl f_1)), (a_5, .inl (cy 1, 9, .inl f_2)), (a_6, .inl (cy 1, 3, .inl f_3)), (a_7, .inl (cy 1, 210, .inl u.2.2.2.2.2.2)), (a_8, .inl (cy 1, 6, .inl f_5)), (a_9, .inl (cy 1, 48, .inl f_6))]) [0, 1, 2, 3, 6, 7] [4, 5, 8, 9] (n := 10) (fun _ => rfl) (by decide +kernel) (by decide +kernel) rfl (fun _ => rfl) (wr := [(a_4, .inl (cy 1, 9, .inl f_1)), (a_5, .inl (cy 1, 9, .inl f_2)), (a_8, .inl (cy 1, 6, .inl f_5)), (a_9, .inl (cy 1, 48, .inl f_6))]) rfl (fun _ => rfl) (fun _ => rfl) ?_
                clear hP hD hS
                clear H locs
                intro v40 u
                obtain ⟨n33, n34, n35, n36, n37, n38, n39⟩ := u
                intro H locs hw (hP : va_P G vwCl [(a_1, .inr (9, [.ref a_2, .int i_0])), (a_2, .inl (cy 0, 600, .inl f_0)), (a_0, .inr (7, [.ref a_1, .ref a_3, .int n33, .int n34, .int n35, .int n36, .int n37, .int n38])), (a_3, .inr (0, [.int i_7, .int i_8, .int i_9, .int i_10, .int i_11, .int i_12, .int i_13, .int i_14, .ref a_4, .ref a_5, .ref a_6, .ref a_7, .ref a_8, .ref a_9, .ref a_10, .ref a_11, .ref a_12, .ref a_13])), (a_4, .inl (cy 1, 9, .inl f_1)), (a_5, .inl (cy 1, 9, .inl f_2)), (a_6, .inl (cy 1, 3, .inl f_3)), (a_7, .inl (cy 1, 210, .inl n39)), (a_8, .inl (cy 1, 6, .inl f_5)), (a_9, .inl (cy 1, 48, .inl f_6))] H) (hD : va_D A [(a_1, .inr (9, [.ref a_2, .int i_0])), (a_2, .inl (cy 0, 600, .inl f_0)), (a_0, .inr (7, [.ref a_1, .ref a_3, .int n33, .int n34, .int n35, .int n36, .int n37, .int n38])), (a_3, .inr (0, [.int i_7, .int i_8, .int i_9, .int i_10, .int i_11, .int i_12, .int i_13, .int i_14, .ref a_4, .ref a_5, .ref a_6, .ref a_7, .ref a_8, .ref a_9, .ref a_10, .ref a_11, .ref a_12, .ref a_13])), (a_4, .inl (cy 1, 9, .inl f_1)), (a_5, .inl (cy 1, 9, .inl f_2)), (a_6, .inl (cy 1, 3, .inl f_3)), (a_7, .inl (cy 1, 210, .inl n39)), (a_8, .inl (cy 1, 6, .inl f_5)), (a_9, .inl (cy 1, 48, .inl f_6))]) hS
                obtain ⟨w41, w42, w43, w44, w45, hw⟩ := hw
                rcases hw with rfl | ⟨rfl, w46, w47⟩
                · refine lv_if_eq (tgt := 102) hx hb dX7_takeLine_62 (by decide) (fun c48 => ?_) (fun c48 => ?_)
                  · subst hAe
                    rw [hQ]
                    exact W.vret hx hb hr (fun t ht hW => ⟨⟨(n33, n34, n35, n36, n37, n38, i_8, i_9, i_11, i_12, i_13, f_1, f_2, f_3, n39, f_5, f_6), rfl, ⟨w41, w42, w43, w44, h6, h7, h8, h9, h10, h11, h12, h13, w45, h15, h16⟩, by rw [ht]; exact hP, hK.warm hW, hD⟩, hS.F ht⟩) hS.2.2 dX7_takeLine_102
                  · have q49 := mm_neL (lo := 1) (mm_ne c48) mm_k0 mm_k0 (by decide) (by decide)
                    exact mm_no q49 (by decide)
                · refine lv_if_eq (tgt := 102) hx hb dX7_takeLine_62 (by decide) (fun c50 => ?_) (fun c50 => ?_)
                  · exact mm_eqN c50.symm mm_k0 mm_k1 (by decide)
                  · refine lv_aload_n hx hb dX7_takeLine_65 rfl (lv_at hl 0 rfl) ?_
                    refine lv_aload_n hx hb dX7_takeLine_66 rfl (lv_at hl 0 rfl) ?_
                    refine va_get (D := G) (ci := 7) (v := .ref a_3) (C := RX7) (T := TX7) (N := 8) hx hb hts (mm_i inlX7) hown hK.1 hP 2 rfl rfl 1 (by decide) (mm_h hts mm_w65) (fun _ h9 => h9) rfl dX7_takeLine_67 ?_
                    refine va_get (D := G) (ci := 0) (v := .int i_12) (C := RX0) (T := TX0) (N := 18) hx hb hts (mm_i inlX0) hown hK.1 hP 3 rfl rfl 5 (by decide) (mm_h hts mm_w248) (fun _ h9 => h9) rfl dX7_takeLine_70 ?_
                    refine lv_iconst (v := 1) hx hb dX7_takeLine_73 (by decide) ?_
                    refine lv_isub hx hb dX7_takeLine_74 ?_
                    refine lv_topi (fun v51 ev51 => ?_)
                    have rv51 : mm_rg v51 0 2 := mm_sub ev51 w46 mm_k1 (by decide) (by decide)
                    have tv51 := mm_subEc ev51 w46 mm_k1 (by decide) (k := (-1)) (by decide)
                    refine mm_finv (va_runV (As := [.int v51]) (rest := []) ⟨hx, hb, hml, hown, hts⟩ (K174_X7_takeRule l G cy H.size a_0 v51 a_1 a_2 i_0 f_0 a_3 n33 n34 n35 n36 n37 n38 i_7 i_8 i_9 i_10 i_11 i_12 i_13 i_14 a_4 a_5 a_6 a_7 a_8 a_9 a_10 a_11 a_12 a_13 f_3 n39 rv51 h0 h1 w41 w42 w43 w44 h8 h13 w45 (mm_rcl_of w47 ev51)) (cwV 1 hts (mm_gV mm_w356 mm_w357 mm_w358 mm_w19 mm_w359) rfl rfl rfl hd_X7_takeRule ⟨by rw [hRf]; exact Nat.le_of_ble_eq_true rfl, by rw [hRl]; exact Nat.le_of_ble_eq_true rfl⟩) (mm_preV hK hZ hS hA hP hD [0, 1, 2, 3, 6, 7] rfl rfl 2 rfl rfl rfl) rfl rfl hl.1 rfl (lv_room (Nat.le_of_ble_eq_true rfl)) dX7_takeLine_75 ⟨by rw [hRc]; exact Nat.le_of_ble_eq_true rfl, by rw [hRs]; exact Nat.le_of_ble_eq_true rfl⟩) hP hD hS hA (fun u : Int32 × Int32 × Int32 × Int32 × Int32 × Int32 × (Nat → Int32) × (Nat → Int32) => [(a_1, .inr (9, [.ref a_2, .int i_0])), (a_2, .inl (cy 0, 600, .inl f_0)), (a_0, .inr (7, [.ref a_1, .ref a_3, .int u.1, .int u.2.1, .int u.2.2.1, .int u.2.2.2.1, .int u.2.2.2.2.1, .int u.2.2.2.2.2.1])), (a_3, .inr (0, [.int i_7, .int i_8, .int i_9, .int i_10, .int i_11, .int i_12, .int i_13, .int i_14, .ref a_4, .ref a_5, .ref a_6, .ref a_7, .ref a_8, .ref a_9, .ref a_10, .ref a_11, .ref a_12, .ref a_13])), (a_4, .inl (cy 1, 9, .inl f_1)), (a_5, .inl (cy 1, 9, .inl f_2)), (a_6, .inl (cy 1, 3, .inl u.2.2.2.2.2.2.1)), (a_7, .inl (cy 1, 210, .inl u.2.2.2.2.2.2.2)), (a_8, .inl (cy 1, 6, .inl f_5)), (a_9, .inl (cy 1, 48, .inl f_6))]) [0, 1, 2, 3, 6, 7] [4, 5, 8, 9] (n := 10) (fun _ => rfl) (by decide +kernel) (by decide +kernel) rfl (fun _ => rfl) (wr := [(a_4, .inl (cy 1, 9, .inl f_1)), (a_5, .inl (cy 1, 9, .inl f_2)), (a_8, .inl (cy 1, 6, .inl f_5)), (a_9, .inl (cy 1, 48, .inl f_6))]) rfl (fun _ => rfl) (fun _ => rfl) ?_
                    clear hP hD hS
                    clear H locs
                    intro u
                    obtain ⟨n52, n53, n54, n55, n56, n57, n58, n59⟩ := u
                    intro H locs hw (hP : va_P G vwCl [(a_1, .inr (9, [.ref a_2, .int i_0])), (a_2, .inl (cy 0, 600, .inl f_0)), (a_0, .inr (7, [.ref a_1, .ref a_3, .int n52, .int n53, .int n54, .int n55, .int n56, .int n57])), (a_3, .inr (0, [.int i_7, .int i_8, .int i_9, .int i_10, .int i_11, .int i_12, .int i_13, .int i_14, .ref a_4, .ref a_5, .ref a_6, .ref a_7, .ref a_8, .ref a_9, .ref a_10, .ref a_11, .ref a_12, .ref a_13])), (a_4, .inl (cy 1, 9, .inl f_1)), (a_5, .inl (cy 1, 9, .inl f_2)), (a_6, .inl (cy 1, 3, .inl n58)), (a_7, .inl (cy 1, 210, .inl n59)), (a_8, .inl (cy 1, 6, .inl f_5)), (a_9, .inl (cy 1, 48, .inl f_6))] H) (hD : va_D A [(a_1, .inr (9, [.ref a_2, .int i_0])), (a_2, .inl (cy 0, 600, .inl f_0)), (a_0, .inr (7, [.ref a_1, .ref a_3, .int n52, .int n53, .int n54, .int n55, .int n56, .int n57])), (a_3, .inr (0, [.int i_7, .int i_8, .int i_9, .int i_10, .int i_11, .int i_12, .int i_13, .int i_14, .ref a_4, .ref a_5, .ref a_6, .ref a_7, .ref a_8, .ref a_9, .ref a_10, .ref a_11, .ref a_12, .ref a_13])), (a_4, .inl (cy 1, 9, .inl f_1)), (a_5, .inl (cy 1, 9, .inl f_2)), (a_6, .inl (cy 1, 3, .inl n58)), (a_7, .inl (cy 1, 210, .inl n59)), (a_8, .inl (cy 1, 6, .inl f_5)), (a_9, .inl (cy 1, 48, .inl f_6))]) hS
                    obtain ⟨w60, w61, w62, w63, w64, w65⟩ := hw
                    refine lv_goto (tgt := 102) hx hb dX7_takeLine_78 (by decide) ?_
                    subst hAe
                    rw [hQ]
                    exact W.vret hx hb hr (fun t ht hW => ⟨⟨(n52, n53, n54, n55, n56, n57, i_8, i_9, i_11, i_12, i_13, f_1, f_2, n58, n59, f_5, f_6), rfl, ⟨w60, w61, w62, w63, h6, h7, h8, (mm_wk w46 (by decide)), h10, h11, h12, w64, w65, h15, h16⟩, by rw [ht]; exact hP, hK.warm hW, hD⟩, hS.F ht⟩) hS.2.2 dX7_takeLine_102
          · have q66 := mm_neL (lo := 1) (mm_ne c5) mm_k0 mm_k0 (by decide) (by decide)
            exact mm_no q66 (by decide)
        · refine lv_if_eq (tgt := 49) hx hb dX7_takeLine_39 (by decide) (fun c67 => ?_) (fun c67 => ?_)
          · exact mm_eqN c67.symm mm_k0 mm_k1 (by decide)
          · refine lv_aload_n hx hb dX7_takeLine_42 rfl (lv_at hl 0 rfl) ?_
            refine mm_finv (va_runV (As := []) (rest := []) ⟨hx, hb, hml, hown, hts⟩ (K175_X7_takeLandLine l G cy H.size a_0 a_1 a_2 i_0 f_0 a_3 i_1 i_2 i_3 i_4 i_5 i_6 i_7 i_8 i_9 i_10 i_11 i_12 i_13 i_14 a_4 a_5 a_6 a_7 a_8 a_9 a_10 a_11 a_12 a_13 h0 h1 h2 h3 h4 h5 h9) (cwV 0 hts (mm_gV mm_w331 mm_w332 mm_w333 mm_w19 mm_w334) rfl rfl rfl hd_X7_takeLandLine ⟨by rw [hRf]; exact Nat.le_of_ble_eq_true rfl, by rw [hRl]; exact Nat.le_of_ble_eq_true rfl⟩) (mm_preV hK hZ hS hA hP hD [0, 1, 2, 3] rfl rfl 2 rfl rfl rfl) rfl rfl hl.1 rfl (lv_room (Nat.le_of_ble_eq_true rfl)) dX7_takeLine_43 ⟨by rw [hRc]; exact Nat.le_of_ble_eq_true rfl, by rw [hRs]; exact Nat.le_of_ble_eq_true rfl⟩) hP hD hS hA (fun u : Int32 × Int32 × Int32 × Int32 × Int32 × Int32 × Int32 => [(a_1, .inr (9, [.ref a_2, .int i_0])), (a_2, .inl (cy 0, 600, .inl f_0)), (a_0, .inr (7, [.ref a_1, .ref a_3, .int u.1, .int u.2.1, .int u.2.2.1, .int u.2.2.2.1, .int u.2.2.2.2.1, .int u.2.2.2.2.2.1])), (a_3, .inr (0, [.int i_7, .int i_8, .int i_9, .int i_10, .int i_11, .int u.2.2.2.2.2.2, .int i_13, .int i_14, .ref a_4, .ref a_5, .ref a_6, .ref a_7, .ref a_8, .ref a_9, .ref a_10, .ref a_11, .ref a_12, .ref a_13])), (a_4, .inl (cy 1, 9, .inl f_1)), (a_5, .inl (cy 1, 9, .inl f_2)), (a_6, .inl (cy 1, 3, .inl f_3)), (a_7, .inl (cy 1, 210, .inl f_4)), (a_8, .inl (cy 1, 6, .inl f_5)), (a_9, .inl (cy 1, 48, .inl f_6))]) [0, 1, 2, 3] [4, 5, 6, 7, 8, 9] (n := 10) (fun _ => rfl) (by decide +kernel) (by decide +kernel) rfl (fun _ => rfl) (wr := [(a_4, .inl (cy 1, 9, .inl f_1)), (a_5, .inl (cy 1, 9, .inl f_2)), (a_6, .inl (cy 1, 3, .inl f_3)), (a_7, .inl (cy 1, 210, .inl f_4)), (a_8, .inl (cy 1, 6, .inl f_5)), (a_9, .inl (cy 1, 48, .inl f_6))]) rfl (fun _ => rfl) (fun _ => rfl) ?_
            clear hP hD hS
            clear H locs
            intro u
            obtain ⟨n68, n69, n70, n71, n72, n73, n74⟩ := u
            intro H locs hw (hP : va_P G vwCl [(a_1, .inr (9, [.ref a_2, .int i_0])), (a_2, .inl (cy 0, 600, .inl f_0)), (a_0, .inr (7, [.ref a_1, .ref a_3, .int n68, .int n69, .int n70, .int n71, .int n72, .int n73])), (a_3, .inr (0, [.int i_7, .int i_8, .int i_9, .int i_10, .int i_11, .int n74, .int i_13, .int i_14, .ref a_4, .ref a_5, .ref a_6, .ref a_7, .ref a_8, .ref a_9, .ref a_10, .ref a_11, .ref a_12, .ref a_13])), (a_4, .inl (cy 1, 9, .inl f_1)), (a_5, .inl (cy 1, 9, .inl f_2)), (a_6, .inl (cy 1, 3, .inl f_3)), (a_7, .inl (cy 1, 210, .inl f_4)), (a_8, .inl (cy 1, 6, .inl f_5)), (a_9, .inl (cy 1, 48, .inl f_6))] H) (hD : va_D A [(a_1, .inr (9, [.ref a_2, .int i_0])), (a_2, .inl (cy 0, 600, .inl f_0)), (a_0, .inr (7, [.ref a_1, .ref a_3, .int n68, .int n69, .int n70, .int n71, .int n72, .int n73])), (a_3, .inr (0, [.int i_7, .int i_8, .int i_9, .int i_10, .int i_11, .int n74, .int i_13, .int i_14, .ref a_4, .ref a_5, .ref a_6, .ref a_7, .ref a_8, .ref a_9, .ref a_10, .ref a_11, .ref a_12, .ref a_13])), (a_4, .inl (cy 1, 9, .inl f_1)), (a_5, .inl (cy 1, 9, .inl f_2)), (a_6, .inl (cy 1, 3, .inl f_3)), (a_7, .inl (cy 1, 210, .inl f_4)), (a_8, .inl (cy 1, 6, .inl f_5)), (a_9, .inl (cy 1, 48, .inl f_6))]) hS
            obtain ⟨w75, w76, w77, w78, w79⟩ := hw
            refine lv_goto (tgt := 102) hx hb dX7_takeLine_46 (by decide) ?_
            subst hAe
            rw [hQ]
            exact W.vret hx hb hr (fun t ht hW => ⟨⟨(n68, n69, n70, n71, n72, n73, i_8, i_9, i_11, n74, i_13, f_1, f_2, f_3, f_4, f_5, f_6), rfl, ⟨w75, w76, w77, w78, h6, h7, h8, (mm_wk w79 (by decide)), h10, h11, h12, h13, h14, h15, h16⟩, by rw [ht]; exact hP, hK.warm hW, hD⟩, hS.F ht⟩) hS.2.2 dX7_takeLine_102
      · have q80 := mm_neL (lo := 1) (mm_ne c3) mm_k0 mm_k0 (by decide) (by decide)
        exact mm_no q80 (by decide)
    · refine lv_if_eq (tgt := 33) hx hb dX7_takeLine_23 (by decide) (fun c81 => ?_) (fun c81 => ?_)
      · exact mm_eqN c81.symm mm_k0 mm_k1 (by decide)
      · refine lv_aload_n hx hb dX7_takeLine_26 rfl (lv_at hl 0 rfl) ?_
        refine mm_finv (va_runV (As := []) (rest := []) ⟨hx, hb, hml, hown, hts⟩ (K273_X7_takeSenseLine l G cy H.size a_0 a_1 a_2 i_0 f_0 a_3 i_1 i_2 i_3 i_4 i_5 i_6 i_7 i_8 i_9 i_10 i_11 i_12 i_13 i_14 a_4 a_5 a_6 a_7 a_8 a_9 a_10 a_11 a_12 a_13 f_1 f_2 h0 h1 h2 h3 h4 h5 h8 h9 h10 h11 h12) (cwV 0 hts (mm_gV mm_w319 mm_w320 mm_w321 mm_w19 mm_w322) rfl rfl rfl hd_X7_takeSenseLine ⟨by rw [hRf]; exact Nat.le_of_ble_eq_true rfl, by rw [hRl]; exact Nat.le_of_ble_eq_true rfl⟩) (mm_preV hK hZ hS hA hP hD [0, 1, 2, 3, 4, 5] rfl rfl 2 rfl rfl rfl) rfl rfl hl.1 rfl (lv_room (Nat.le_of_ble_eq_true rfl)) dX7_takeLine_27 ⟨by rw [hRc]; exact Nat.le_of_ble_eq_true rfl, by rw [hRs]; exact Nat.le_of_ble_eq_true rfl⟩) hP hD hS hA (fun u : Int32 × Int32 × Int32 × Int32 × Int32 × Int32 × Int32 × (Nat → Int32) × (Nat → Int32) => [(a_1, .inr (9, [.ref a_2, .int i_0])), (a_2, .inl (cy 0, 600, .inl f_0)), (a_0, .inr (7, [.ref a_1, .ref a_3, .int u.1, .int u.2.1, .int u.2.2.1, .int u.2.2.2.1, .int u.2.2.2.2.1, .int u.2.2.2.2.2.1])), (a_3, .inr (0, [.int i_7, .int i_8, .int i_9, .int i_10, .int u.2.2.2.2.2.2.1, .int i_12, .int i_13, .int i_14, .ref a_4, .ref a_5, .ref a_6, .ref a_7, .ref a_8, .ref a_9, .ref a_10, .ref a_11, .ref a_12, .ref a_13])), (a_4, .inl (cy 1, 9, .inl u.2.2.2.2.2.2.2.1)), (a_5, .inl (cy 1, 9, .inl u.2.2.2.2.2.2.2.2)), (a_6, .inl (cy 1, 3, .inl f_3)), (a_7, .inl (cy 1, 210, .inl f_4)), (a_8, .inl (cy 1, 6, .inl f_5)), (a_9, .inl (cy 1, 48, .inl f_6))]) [0, 1, 2, 3, 4, 5] [6, 7, 8, 9] (n := 10) (fun _ => rfl) (by decide +kernel) (by decide +kernel) rfl (fun _ => rfl) (wr := [(a_6, .inl (cy 1, 3, .inl f_3)), (a_7, .inl (cy 1, 210, .inl f_4)), (a_8, .inl (cy 1, 6, .inl f_5)), (a_9, .inl (cy 1, 48, .inl f_6))]) rfl (fun _ => rfl) (fun _ => rfl) ?_
        clear hP hD hS
        clear H locs
        intro u
        obtain ⟨n82, n83, n84, n85, n86, n87, n88, n89, n90⟩ := u
        intro H locs hw (hP : va_P G vwCl [(a_1, .inr (9, [.ref a_2, .int i_0])), (a_2, .inl (cy 0, 600, .inl f_0)), (a_0, .inr (7, [.ref a_1, .ref a_3, .int n82, .int n83, .int n84, .int n85, .int n86, .int n87])), (a_3, .inr (0, [.int i_7, .int i_8, .int i_9, .int i_10, .int n88, .int i_12, .int i_13, .int i_14, .ref a_4, .ref a_5, .ref a_6, .ref a_7, .ref a_8, .ref a_9, .ref a_10, .ref a_11, .ref a_12, .ref a_13])), (a_4, .inl (cy 1, 9, .inl n89)), (a_5, .inl (cy 1, 9, .inl n90)), (a_6, .inl (cy 1, 3, .inl f_3)), (a_7, .inl (cy 1, 210, .inl f_4)), (a_8, .inl (cy 1, 6, .inl f_5)), (a_9, .inl (cy 1, 48, .inl f_6))] H) (hD : va_D A [(a_1, .inr (9, [.ref a_2, .int i_0])), (a_2, .inl (cy 0, 600, .inl f_0)), (a_0, .inr (7, [.ref a_1, .ref a_3, .int n82, .int n83, .int n84, .int n85, .int n86, .int n87])), (a_3, .inr (0, [.int i_7, .int i_8, .int i_9, .int i_10, .int n88, .int i_12, .int i_13, .int i_14, .ref a_4, .ref a_5, .ref a_6, .ref a_7, .ref a_8, .ref a_9, .ref a_10, .ref a_11, .ref a_12, .ref a_13])), (a_4, .inl (cy 1, 9, .inl n89)), (a_5, .inl (cy 1, 9, .inl n90)), (a_6, .inl (cy 1, 3, .inl f_3)), (a_7, .inl (cy 1, 210, .inl f_4)), (a_8, .inl (cy 1, 6, .inl f_5)), (a_9, .inl (cy 1, 48, .inl f_6))]) hS
        obtain ⟨w91, w92, w93, w94, w95, w96, w97⟩ := hw
        refine lv_goto (tgt := 102) hx hb dX7_takeLine_30 (by decide) ?_
        subst hAe
        rw [hQ]
        exact W.vret hx hb hr (fun t ht hW => ⟨⟨(n82, n83, n84, n85, n86, n87, i_8, i_9, n88, i_12, i_13, n89, n90, f_3, f_4, f_5, f_6), rfl, ⟨w91, w92, w93, w94, h6, h7, w95, h9, h10, w96, w97, h13, h14, h15, h16⟩, by rw [ht]; exact hP, hK.warm hW, hD⟩, hS.F ht⟩) hS.2.2 dX7_takeLine_102
  · have q98 := mm_eqI (lo := 0) (hi := 0) c1 (mm_top i_7) mm_k0 (by decide)
    refine lv_aload_n hx hb dX7_takeLine_10 rfl (lv_at hl 0 rfl) ?_
    refine mm_finv (va_runV (As := []) (rest := []) ⟨hx, hb, hml, hown, hts⟩ (K319_X7_takeBookLine l G cy H.size a_0 a_1 a_2 i_0 f_0 a_3 i_1 i_2 i_3 i_4 i_5 i_6 i_7 i_8 i_9 i_10 i_11 i_12 i_13 i_14 a_4 a_5 a_6 a_7 a_8 a_9 a_10 a_11 a_12 a_13 h0 h1 h2 h3 h4 h5 h6 h7) (cwV 0 hts (mm_gV mm_w249 mm_w250 mm_w251 mm_w19 mm_w252) rfl rfl rfl hd_X7_takeBookLine ⟨by rw [hRf]; exact Nat.le_of_ble_eq_true rfl, by rw [hRl]; exact Nat.le_of_ble_eq_true rfl⟩) (mm_preV hK hZ hS hA hP hD [0, 1, 2, 3] rfl rfl 2 rfl rfl rfl) rfl rfl hl.1 rfl (lv_room (Nat.le_of_ble_eq_true rfl)) dX7_takeLine_11 ⟨by rw [hRc]; exact Nat.le_of_ble_eq_true rfl, by rw [hRs]; exact Nat.le_of_ble_eq_true rfl⟩) hP hD hS hA (fun u : Int32 × Int32 × Int32 × Int32 × Int32 × Int32 × Int32 × Int32 => [(a_1, .inr (9, [.ref a_2, .int i_0])), (a_2, .inl (cy 0, 600, .inl f_0)), (a_0, .inr (7, [.ref a_1, .ref a_3, .int u.1, .int u.2.1, .int u.2.2.1, .int u.2.2.2.1, .int u.2.2.2.2.1, .int u.2.2.2.2.2.1])), (a_3, .inr (0, [.int i_7, .int u.2.2.2.2.2.2.1, .int u.2.2.2.2.2.2.2, .int i_10, .int i_11, .int i_12, .int i_13, .int i_14, .ref a_4, .ref a_5, .ref a_6, .ref a_7, .ref a_8, .ref a_9, .ref a_10, .ref a_11, .ref a_12, .ref a_13])), (a_4, .inl (cy 1, 9, .inl f_1)), (a_5, .inl (cy 1, 9, .inl f_2)), (a_6, .inl (cy 1, 3, .inl f_3)), (a_7, .inl (cy 1, 210, .inl f_4)), (a_8, .inl (cy 1, 6, .inl f_5)), (a_9, .inl (cy 1, 48, .inl f_6))]) [0, 1, 2, 3] [4, 5, 6, 7, 8, 9] (n := 10) (fun _ => rfl) (by decide +kernel) (by decide +kernel) rfl (fun _ => rfl) (wr := [(a_4, .inl (cy 1, 9, .inl f_1)), (a_5, .inl (cy 1, 9, .inl f_2)), (a_6, .inl (cy 1, 3, .inl f_3)), (a_7, .inl (cy 1, 210, .inl f_4)), (a_8, .inl (cy 1, 6, .inl f_5)), (a_9, .inl (cy 1, 48, .inl f_6))]) rfl (fun _ => rfl) (fun _ => rfl) ?_
    clear hP hD hS
    clear H locs
    intro u
    obtain ⟨n99, n100, n101, n102, n103, n104, n105, n106⟩ := u
    intro H locs hw (hP : va_P G vwCl [(a_1, .inr (9, [.ref a_2, .int i_0])), (a_2, .inl (cy 0, 600, .inl f_0)), (a_0, .inr (7, [.ref a_1, .ref a_3, .int n99, .int n100, .int n101, .int n102, .int n103, .int n104])), (a_3, .inr (0, [.int i_7, .int n105, .int n106, .int i_10, .int i_11, .int i_12, .int i_13, .int i_14, .ref a_4, .ref a_5, .ref a_6, .ref a_7, .ref a_8, .ref a_9, .ref a_10, .ref a_11, .ref a_12, .ref a_13])), (a_4, .inl (cy 1, 9, .inl f_1)), (a_5, .inl (cy 1, 9, .inl f_2)), (a_6, .inl (cy 1, 3, .inl f_3)), (a_7, .inl (cy 1, 210, .inl f_4)), (a_8, .inl (cy 1, 6, .inl f_5)), (a_9, .inl (cy 1, 48, .inl f_6))] H) (hD : va_D A [(a_1, .inr (9, [.ref a_2, .int i_0])), (a_2, .inl (cy 0, 600, .inl f_0)), (a_0, .inr (7, [.ref a_1, .ref a_3, .int n99, .int n100, .int n101, .int n102, .int n103, .int n104])), (a_3, .inr (0, [.int i_7, .int n105, .int n106, .int i_10, .int i_11, .int i_12, .int i_13, .int i_14, .ref a_4, .ref a_5, .ref a_6, .ref a_7, .ref a_8, .ref a_9, .ref a_10, .ref a_11, .ref a_12, .ref a_13])), (a_4, .inl (cy 1, 9, .inl f_1)), (a_5, .inl (cy 1, 9, .inl f_2)), (a_6, .inl (cy 1, 3, .inl f_3)), (a_7, .inl (cy 1, 210, .inl f_4)), (a_8, .inl (cy 1, 6, .inl f_5)), (a_9, .inl (cy 1, 48, .inl f_6))]) hS
    obtain ⟨w107, w108, w109, w110, w111, w112⟩ := hw
    refine lv_goto (tgt := 102) hx hb dX7_takeLine_14 (by decide) ?_
    subst hAe
    rw [hQ]
    exact W.vret hx hb hr (fun t ht hW => ⟨⟨(n99, n100, n101, n102, n103, n104, n105, n106, i_11, i_12, i_13, f_1, f_2, f_3, f_4, f_5, f_6), rfl, ⟨w107, w108, w109, w110, w111, w112, h8, h9, h10, h11, h12, h13, h14, h15, h16⟩, by rw [ht]; exact hP, hK.warm hW, hD⟩, hS.F ht⟩) hS.2.2 dX7_takeLine_102

set_option maxHeartbeats 4000000 in
set_option maxRecDepth 100000 in
theorem K321_X7_copyDown (l : Launch) (G : va_G) (cy : Nat → ClassId) (sz : Nat) (a_0 : Nat) (a_1 : Nat) (a_2 : Nat) (i_0 : Int32) (f_0 : Nat → Int32) (a_3 : Nat) (i_1 : Int32) (i_2 : Int32) (i_3 : Int32) (i_4 : Int32) (i_5 : Int32) (i_6 : Int32) (i_7 : Int32) (i_8 : Int32) (i_9 : Int32) (i_10 : Int32) (i_11 : Int32) (i_12 : Int32) (i_13 : Int32) (i_14 : Int32) (a_4 : Nat) (a_5 : Nat) (a_6 : Nat) (a_7 : Nat) (a_8 : Nat) (a_9 : Nat) (a_10 : Nat) (a_11 : Nat) (a_12 : Nat) (a_13 : Nat) (f_1 : Nat → Int32) (f_2 : Nat → Int32) (f_3 : Nat → Int32) (f_4 : Nat → Int32) (f_5 : Nat → Int32) (f_6 : Nat → Int32) (f_7 : Nat → Int32) (h0 : mm_rg i_0 0 600) (h1 : mm_ar f_0 (-128) 127) (h2 : mm_rg i_1 0 3) (h3 : mm_rg i_3 0 5) (h4 : mm_rg i_4 0 600) (h5 : mm_rg i_5 0 600) (h6 : mm_rg i_8 0 10) (h7 : mm_rg i_9 0 99) (h8 : mm_rg i_10 0 99) (h9 : mm_rg i_11 0 9) (h10 : mm_rg i_12 0 3) (h11 : mm_rg i_13 0 6) (h12 : mm_rg i_14 0 30) (h13 : mm_ar f_1 (-1) 4) (h14 : mm_ar f_2 0 99) (h15 : mm_ar f_3 0 7) (h16 : mm_ar f_4 0 9) (h17 : mm_ar f_5 0 8) (h18 : mm_ar f_6 0 9) (h19 : mm_ar f_7 0 9)  : mm_CI l yX7_copyDown (mm_ws yX7_copyDown cX7_copyDown 2 (some .boolean)) ({ frames := 8, cells := 0, slots := 0, locals := 170 } : Room) G cy sz [(a_1, .inr (9, [.ref a_2, .int i_0])), (a_2, .inl (cy 0, 600, .inl f_0)), (a_0, .inr (7, [.ref a_1, .ref a_3, .int i_1, .int i_2, .int i_3, .int i_4, .int i_5, .int i_6])), (a_3, .inr (0, [.int i_7, .int i_8, .int i_9, .int i_10, .int i_11, .int i_12, .int i_13, .int i_14, .ref a_4, .ref a_5, .ref a_6, .ref a_7, .ref a_8, .ref a_9, .ref a_10, .ref a_11, .ref a_12, .ref a_13])), (a_4, .inl (cy 1, 9, .inl f_1)), (a_5, .inl (cy 1, 9, .inl f_2)), (a_6, .inl (cy 1, 3, .inl f_3)), (a_7, .inl (cy 1, 210, .inl f_4)), (a_8, .inl (cy 1, 6, .inl f_5)), (a_9, .inl (cy 1, 48, .inl f_6)), (a_10, .inl (cy 1, 30, .inl f_7))] [.ref a_0] (fun u : Int32 × Int32 × Int32 × Int32 × Int32 × Int32 × Int32 × Int32 × Int32 × Int32 × Int32 × Int32 × Int32 × (Nat → Int32) × (Nat → Int32) × (Nat → Int32) × (Nat → Int32) × (Nat → Int32) × (Nat → Int32) × (Nat → Int32) => [(a_1, .inr (9, [.ref a_2, .int i_0])), (a_2, .inl (cy 0, 600, .inl f_0)), (a_0, .inr (7, [.ref a_1, .ref a_3, .int u.1, .int u.2.1, .int u.2.2.1, .int u.2.2.2.1, .int u.2.2.2.2.1, .int u.2.2.2.2.2.1])), (a_3, .inr (0, [.int u.2.2.2.2.2.2.1, .int u.2.2.2.2.2.2.2.1, .int u.2.2.2.2.2.2.2.2.1, .int u.2.2.2.2.2.2.2.2.2.1, .int u.2.2.2.2.2.2.2.2.2.2.1, .int u.2.2.2.2.2.2.2.2.2.2.2.1, .int u.2.2.2.2.2.2.2.2.2.2.2.2.1, .int 0, .ref a_4, .ref a_5, .ref a_6, .ref a_7, .ref a_8, .ref a_9, .ref a_10, .ref a_11, .ref a_12, .ref a_13])), (a_4, .inl (cy 1, 9, .inl u.2.2.2.2.2.2.2.2.2.2.2.2.2.1)), (a_5, .inl (cy 1, 9, .inl u.2.2.2.2.2.2.2.2.2.2.2.2.2.2.1)), (a_6, .inl (cy 1, 3, .inl u.2.2.2.2.2.2.2.2.2.2.2.2.2.2.2.1)), (a_7, .inl (cy 1, 210, .inl u.2.2.2.2.2.2.2.2.2.2.2.2.2.2.2.2.1)), (a_8, .inl (cy 1, 6, .inl u.2.2.2.2.2.2.2.2.2.2.2.2.2.2.2.2.2.1)), (a_9, .inl (cy 1, 48, .inl u.2.2.2.2.2.2.2.2.2.2.2.2.2.2.2.2.2.2.1)), (a_10, .inl (cy 1, 30, .inl u.2.2.2.2.2.2.2.2.2.2.2.2.2.2.2.2.2.2.2))]) (fun (r : Int32) (u : Int32 × Int32 × Int32 × Int32 × Int32 × Int32 × Int32 × Int32 × Int32 × Int32 × Int32 × Int32 × Int32 × (Nat → Int32) × (Nat → Int32) × (Nat → Int32) × (Nat → Int32) × (Nat → Int32) × (Nat → Int32) × (Nat → Int32)) => mm_rg u.1 0 3 ∧ mm_rg u.2.2.1 0 5 ∧ mm_rg u.2.2.2.1 0 600 ∧ mm_rg u.2.2.2.2.1 0 600 ∧ mm_rg u.2.2.2.2.2.2.2.1 0 10 ∧ mm_rg u.2.2.2.2.2.2.2.2.1 0 99 ∧ mm_rg u.2.2.2.2.2.2.2.2.2.1 0 99 ∧ mm_rg u.2.2.2.2.2.2.2.2.2.2.1 0 9 ∧ mm_rg u.2.2.2.2.2.2.2.2.2.2.2.1 0 3 ∧ mm_rg u.2.2.2.2.2.2.2.2.2.2.2.2.1 0 6 ∧ mm_ar u.2.2.2.2.2.2.2.2.2.2.2.2.2.1 (-1) 4 ∧ mm_ar u.2.2.2.2.2.2.2.2.2.2.2.2.2.2.1 0 99 ∧ mm_ar u.2.2.2.2.2.2.2.2.2.2.2.2.2.2.2.1 0 7 ∧ mm_ar u.2.2.2.2.2.2.2.2.2.2.2.2.2.2.2.2.1 0 9 ∧ mm_ar u.2.2.2.2.2.2.2.2.2.2.2.2.2.2.2.2.2.1 0 8 ∧ mm_ar u.2.2.2.2.2.2.2.2.2.2.2.2.2.2.2.2.2.2.1 0 9 ∧ mm_ar u.2.2.2.2.2.2.2.2.2.2.2.2.2.2.2.2.2.2.2 0 9 ∧ ((0 = r) ∨ (1 = r))) 0 0 := by
  refine mm_begin (lv := [(0, .ref a_0)]) (by decide) (Nat.le_of_ble_eq_true rfl) rfl ?_
  intro p e s m below meth c A ls R args Q H locs hRe hQ hAe hx hb hr hlocks hml hown hnm hts hsz hA hS hP hK hD hZ hl
  have hRf : R.frames = 8 := by rw [hRe]
  have hRl : R.locals = 170 := by rw [hRe]
  have hRc : R.cells = 0 := by rw [hRe]
  have hRs : R.slots = 0 := by rw [hRe]
  refine lv_aload_n hx hb dX7_copyDown_0 rfl (lv_at hl 0 rfl) ?_
  refine va_get (D := G) (ci := 7) (v := .ref a_3) (C := RX7) (T := TX7) (N := 8) hx hb hts (mm_i inlX7) hown hK.1 hP 2 rfl rfl 1 (by decide) (mm_h hts mm_w65) (fun _ h9 => h9) rfl dX7_copyDown_1 ?_
  refine mm_finv (va_runV (As := []) (rest := []) ⟨hx, hb, hml, hown, hts⟩ (K6_X0_wipe l G cy H.size a_3 i_7 i_8 i_9 i_10 i_11 i_12 i_13 i_14 a_4 a_5 a_6 a_7 a_8 a_9 a_10 a_11 a_12 a_13 f_3 f_5 f_7 h6 h7 h8 h9 h10 h11 h12 h15 h17 h19) (cwV 0 hts (mm_gV mm_w211 mm_w212 mm_w213 mm_w28 mm_w214) rfl rfl rfl hd_X0_wipe ⟨by rw [hRf]; exact Nat.le_of_ble_eq_true rfl, by rw [hRl]; exact Nat.le_of_ble_eq_true rfl⟩) (mm_preV hK hZ hS hA hP hD [3, 6, 8, 10] rfl rfl 3 rfl rfl rfl) rfl rfl hl.1 rfl (lv_room (Nat.le_of_ble_eq_true rfl)) dX7_copyDown_4 ⟨by rw [hRc]; exact Nat.le_of_ble_eq_true rfl, by rw [hRs]; exact Nat.le_of_ble_eq_true rfl⟩) hP hD hS hA (fun u : (Nat → Int32) × (Nat → Int32) × (Nat → Int32) => [(a_1, .inr (9, [.ref a_2, .int i_0])), (a_2, .inl (cy 0, 600, .inl f_0)), (a_0, .inr (7, [.ref a_1, .ref a_3, .int i_1, .int i_2, .int i_3, .int i_4, .int i_5, .int i_6])), (a_3, .inr (0, [.int 0, .int 0, .int 0, .int 0, .int 0, .int 0, .int 0, .int 0, .ref a_4, .ref a_5, .ref a_6, .ref a_7, .ref a_8, .ref a_9, .ref a_10, .ref a_11, .ref a_12, .ref a_13])), (a_4, .inl (cy 1, 9, .inl f_1)), (a_5, .inl (cy 1, 9, .inl f_2)), (a_6, .inl (cy 1, 3, .inl u.1)), (a_7, .inl (cy 1, 210, .inl f_4)), (a_8, .inl (cy 1, 6, .inl u.2.1)), (a_9, .inl (cy 1, 48, .inl f_6)), (a_10, .inl (cy 1, 30, .inl u.2.2))]) [3, 6, 8, 10] [0, 1, 2, 4, 5, 7, 9] (n := 11) (fun _ => rfl) (by decide +kernel) (by decide +kernel) rfl (fun _ => rfl) (wr := [(a_1, .inr (9, [.ref a_2, .int i_0])), (a_2, .inl (cy 0, 600, .inl f_0)), (a_0, .inr (7, [.ref a_1, .ref a_3, .int i_1, .int i_2, .int i_3, .int i_4, .int i_5, .int i_6])), (a_4, .inl (cy 1, 9, .inl f_1)), (a_5, .inl (cy 1, 9, .inl f_2)), (a_7, .inl (cy 1, 210, .inl f_4)), (a_9, .inl (cy 1, 48, .inl f_6))]) rfl (fun _ => rfl) (fun _ => rfl) ?_
  clear hP hD hS
  clear H locs
  intro u
  obtain ⟨n1, n2, n3⟩ := u
  intro H locs hw (hP : va_P G vwCl [(a_1, .inr (9, [.ref a_2, .int i_0])), (a_2, .inl (cy 0, 600, .inl f_0)), (a_0, .inr (7, [.ref a_1, .ref a_3, .int i_1, .int i_2, .int i_3, .int i_4, .int i_5, .int i_6])), (a_3, .inr (0, [.int 0, .int 0, .int 0, .int 0, .int 0, .int 0, .int 0, .int 0, .ref a_4, .ref a_5, .ref a_6, .ref a_7, .ref a_8, .ref a_9, .ref a_10, .ref a_11, .ref a_12, .ref a_13])), (a_4, .inl (cy 1, 9, .inl f_1)), (a_5, .inl (cy 1, 9, .inl f_2)), (a_6, .inl (cy 1, 3, .inl n1)), (a_7, .inl (cy 1, 210, .inl f_4)), (a_8, .inl (cy 1, 6, .inl n2)), (a_9, .inl (cy 1, 48, .inl f_6)), (a_10, .inl (cy 1, 30, .inl n3))] H) (hD : va_D A [(a_1, .inr (9, [.ref a_2, .int i_0])), (a_2, .inl (cy 0, 600, .inl f_0)), (a_0, .inr (7, [.ref a_1, .ref a_3, .int i_1, .int i_2, .int i_3, .int i_4, .int i_5, .int i_6])), (a_3, .inr (0, [.int 0, .int 0, .int 0, .int 0, .int 0, .int 0, .int 0, .int 0, .ref a_4, .ref a_5, .ref a_6, .ref a_7, .ref a_8, .ref a_9, .ref a_10, .ref a_11, .ref a_12, .ref a_13])), (a_4, .inl (cy 1, 9, .inl f_1)), (a_5, .inl (cy 1, 9, .inl f_2)), (a_6, .inl (cy 1, 3, .inl n1)), (a_7, .inl (cy 1, 210, .inl f_4)), (a_8, .inl (cy 1, 6, .inl n2)), (a_9, .inl (cy 1, 48, .inl f_6)), (a_10, .inl (cy 1, 30, .inl n3))]) hS
  obtain ⟨w4, w5, w6⟩ := hw
  refine lv_aload_n hx hb dX7_copyDown_7 rfl (lv_at hl 0 rfl) ?_
  refine lv_iconst (v := 0) hx hb dX7_copyDown_8 (by decide) ?_
  refine va_put (D := G) (ci := 7) (v := .int 0) (ty := tyX7 2) (C := RX7) (T := TX7) (N := 8) hx hb hts (mm_i inlX7) tyX7 tyX7_ok nmX7 hown hK.1 hP hD hS 2 rfl rfl 2 (by decide) (mm_h hts mm_w205) (fun _ h9 => h9) rfl (tyX7_ok 2 (by decide)) rfl rfl (Nat.le_of_ble_eq_true rfl) dX7_copyDown_9 ?_
  clear hP hD hS
  clear H locs
  intro H locs (hP : va_P G vwCl [(a_1, .inr (9, [.ref a_2, .int i_0])), (a_2, .inl (cy 0, 600, .inl f_0)), (a_0, .inr (7, [.ref a_1, .ref a_3, .int 0, .int i_2, .int i_3, .int i_4, .int i_5, .int i_6])), (a_3, .inr (0, [.int 0, .int 0, .int 0, .int 0, .int 0, .int 0, .int 0, .int 0, .ref a_4, .ref a_5, .ref a_6, .ref a_7, .ref a_8, .ref a_9, .ref a_10, .ref a_11, .ref a_12, .ref a_13])), (a_4, .inl (cy 1, 9, .inl f_1)), (a_5, .inl (cy 1, 9, .inl f_2)), (a_6, .inl (cy 1, 3, .inl n1)), (a_7, .inl (cy 1, 210, .inl f_4)), (a_8, .inl (cy 1, 6, .inl n2)), (a_9, .inl (cy 1, 48, .inl f_6)), (a_10, .inl (cy 1, 30, .inl n3))] H) (hD : va_D A [(a_1, .inr (9, [.ref a_2, .int i_0])), (a_2, .inl (cy 0, 600, .inl f_0)), (a_0, .inr (7, [.ref a_1, .ref a_3, .int 0, .int i_2, .int i_3, .int i_4, .int i_5, .int i_6])), (a_3, .inr (0, [.int 0, .int 0, .int 0, .int 0, .int 0, .int 0, .int 0, .int 0, .ref a_4, .ref a_5, .ref a_6, .ref a_7, .ref a_8, .ref a_9, .ref a_10, .ref a_11, .ref a_12, .ref a_13])), (a_4, .inl (cy 1, 9, .inl f_1)), (a_5, .inl (cy 1, 9, .inl f_2)), (a_6, .inl (cy 1, 3, .inl n1)), (a_7, .inl (cy 1, 210, .inl f_4)), (a_8, .inl (cy 1, 6, .inl n2)), (a_9, .inl (cy 1, 48, .inl f_6)), (a_10, .inl (cy 1, 30, .inl n3))]) hS
  refine lv_aload_n hx hb dX7_copyDown_12 rfl (lv_at hl 0 rfl) ?_
  refine lv_iconst (v := (-1)) hx hb dX7_copyDown_13 (by decide) ?_
  refine va_put (D := G) (ci := 7) (v := .int (-1)) (ty := tyX7 3) (C := RX7) (T := TX7) (N := 8) hx hb hts (mm_i inlX7) tyX7 tyX7_ok nmX7 hown hK.1 hP hD hS 2 rfl rfl 3 (by decide) (mm_h hts mm_w66) (fun _ h9 => h9) rfl (tyX7_ok 3 (by decide)) rfl rfl (Nat.le_of_ble_eq_true rfl) dX7_copyDown_14 ?_
  clear hP hD hS
  clear H locs
  intro H locs (hP : va_P G vwCl [(a_1, .inr (9, [.ref a_2, .int i_0])), (a_2, .inl (cy 0, 600, .inl f_0)), (a_0, .inr (7, [.ref a_1, .ref a_3, .int 0, .int (-1), .int i_3, .int i_4, .int i_5, .int i_6])), (a_3, .inr (0, [.int 0, .int 0, .int 0, .int 0, .int 0, .int 0, .int 0, .int 0, .ref a_4, .ref a_5, .ref a_6, .ref a_7, .ref a_8, .ref a_9, .ref a_10, .ref a_11, .ref a_12, .ref a_13])), (a_4, .inl (cy 1, 9, .inl f_1)), (a_5, .inl (cy 1, 9, .inl f_2)), (a_6, .inl (cy 1, 3, .inl n1)), (a_7, .inl (cy 1, 210, .inl f_4)), (a_8, .inl (cy 1, 6, .inl n2)), (a_9, .inl (cy 1, 48, .inl f_6)), (a_10, .inl (cy 1, 30, .inl n3))] H) (hD : va_D A [(a_1, .inr (9, [.ref a_2, .int i_0])), (a_2, .inl (cy 0, 600, .inl f_0)), (a_0, .inr (7, [.ref a_1, .ref a_3, .int 0, .int (-1), .int i_3, .int i_4, .int i_5, .int i_6])), (a_3, .inr (0, [.int 0, .int 0, .int 0, .int 0, .int 0, .int 0, .int 0, .int 0, .ref a_4, .ref a_5, .ref a_6, .ref a_7, .ref a_8, .ref a_9, .ref a_10, .ref a_11, .ref a_12, .ref a_13])), (a_4, .inl (cy 1, 9, .inl f_1)), (a_5, .inl (cy 1, 9, .inl f_2)), (a_6, .inl (cy 1, 3, .inl n1)), (a_7, .inl (cy 1, 210, .inl f_4)), (a_8, .inl (cy 1, 6, .inl n2)), (a_9, .inl (cy 1, 48, .inl f_6)), (a_10, .inl (cy 1, 30, .inl n3))]) hS
  refine lv_aload_n hx hb dX7_copyDown_17 rfl (lv_at hl 0 rfl) ?_
  refine lv_iconst (v := 0) hx hb dX7_copyDown_18 (by decide) ?_
  refine va_put (D := G) (ci := 7) (v := .int 0) (ty := tyX7 6) (C := RX7) (T := TX7) (N := 8) hx hb hts (mm_i inlX7) tyX7 tyX7_ok nmX7 hown hK.1 hP hD hS 2 rfl rfl 6 (by decide) (mm_h hts mm_w206) (fun _ h9 => h9) rfl (tyX7_ok 6 (by decide)) rfl rfl (Nat.le_of_ble_eq_true rfl) dX7_copyDown_19 ?_
  clear hP hD hS
  clear H locs
  intro H locs (hP : va_P G vwCl [(a_1, .inr (9, [.ref a_2, .int i_0])), (a_2, .inl (cy 0, 600, .inl f_0)), (a_0, .inr (7, [.ref a_1, .ref a_3, .int 0, .int (-1), .int i_3, .int i_4, .int 0, .int i_6])), (a_3, .inr (0, [.int 0, .int 0, .int 0, .int 0, .int 0, .int 0, .int 0, .int 0, .ref a_4, .ref a_5, .ref a_6, .ref a_7, .ref a_8, .ref a_9, .ref a_10, .ref a_11, .ref a_12, .ref a_13])), (a_4, .inl (cy 1, 9, .inl f_1)), (a_5, .inl (cy 1, 9, .inl f_2)), (a_6, .inl (cy 1, 3, .inl n1)), (a_7, .inl (cy 1, 210, .inl f_4)), (a_8, .inl (cy 1, 6, .inl n2)), (a_9, .inl (cy 1, 48, .inl f_6)), (a_10, .inl (cy 1, 30, .inl n3))] H) (hD : va_D A [(a_1, .inr (9, [.ref a_2, .int i_0])), (a_2, .inl (cy 0, 600, .inl f_0)), (a_0, .inr (7, [.ref a_1, .ref a_3, .int 0, .int (-1), .int i_3, .int i_4, .int 0, .int i_6])), (a_3, .inr (0, [.int 0, .int 0, .int 0, .int 0, .int 0, .int 0, .int 0, .int 0, .ref a_4, .ref a_5, .ref a_6, .ref a_7, .ref a_8, .ref a_9, .ref a_10, .ref a_11, .ref a_12, .ref a_13])), (a_4, .inl (cy 1, 9, .inl f_1)), (a_5, .inl (cy 1, 9, .inl f_2)), (a_6, .inl (cy 1, 3, .inl n1)), (a_7, .inl (cy 1, 210, .inl f_4)), (a_8, .inl (cy 1, 6, .inl n2)), (a_9, .inl (cy 1, 48, .inl f_6)), (a_10, .inl (cy 1, 30, .inl n3))]) hS
  refine lv_aload_n hx hb dX7_copyDown_22 rfl (lv_at hl 0 rfl) ?_
  refine mm_finv (va_runV (As := []) (rest := []) ⟨hx, hb, hml, hown, hts⟩ (K9_X7_nextToken l G cy H.size a_0 a_1 a_2 i_0 f_0 a_3 0 (-1) i_3 i_4 0 i_6 h0 h1 h3 h4 (mm_wk mm_k0 (by decide))) (cwV 0 hts (mm_gV mm_w227 mm_w228 mm_w229 mm_w19 mm_w230) rfl rfl rfl hd_X7_nextToken ⟨by rw [hRf]; exact Nat.le_of_ble_eq_true rfl, by rw [hRl]; exact Nat.le_of_ble_eq_true rfl⟩) (mm_preV hK hZ hS hA hP hD [0, 1, 2] rfl rfl 2 rfl rfl rfl) rfl rfl hl.1 rfl (lv_room (Nat.le_of_ble_eq_true rfl)) dX7_copyDown_23 ⟨by rw [hRc]; exact Nat.le_of_ble_eq_true rfl, by rw [hRs]; exact Nat.le_of_ble_eq_true rfl⟩) hP hD hS hA (fun u : Int32 × Int32 × Int32 × Int32 => [(a_1, .inr (9, [.ref a_2, .int i_0])), (a_2, .inl (cy 0, 600, .inl f_0)), (a_0, .inr (7, [.ref a_1, .ref a_3, .int 0, .int (-1), .int u.1, .int u.2.1, .int u.2.2.1, .int u.2.2.2])), (a_3, .inr (0, [.int 0, .int 0, .int 0, .int 0, .int 0, .int 0, .int 0, .int 0, .ref a_4, .ref a_5, .ref a_6, .ref a_7, .ref a_8, .ref a_9, .ref a_10, .ref a_11, .ref a_12, .ref a_13])), (a_4, .inl (cy 1, 9, .inl f_1)), (a_5, .inl (cy 1, 9, .inl f_2)), (a_6, .inl (cy 1, 3, .inl n1)), (a_7, .inl (cy 1, 210, .inl f_4)), (a_8, .inl (cy 1, 6, .inl n2)), (a_9, .inl (cy 1, 48, .inl f_6)), (a_10, .inl (cy 1, 30, .inl n3))]) [0, 1, 2] [3, 4, 5, 6, 7, 8, 9, 10] (n := 11) (fun _ => rfl) (by decide +kernel) (by decide +kernel) rfl (fun _ => rfl) (wr := [(a_3, .inr (0, [.int 0, .int 0, .int 0, .int 0, .int 0, .int 0, .int 0, .int 0, .ref a_4, .ref a_5, .ref a_6, .ref a_7, .ref a_8, .ref a_9, .ref a_10, .ref a_11, .ref a_12, .ref a_13])), (a_4, .inl (cy 1, 9, .inl f_1)), (a_5, .inl (cy 1, 9, .inl f_2)), (a_6, .inl (cy 1, 3, .inl n1)), (a_7, .inl (cy 1, 210, .inl f_4)), (a_8, .inl (cy 1, 6, .inl n2)), (a_9, .inl (cy 1, 48, .inl f_6)), (a_10, .inl (cy 1, 30, .inl n3))]) rfl (fun _ => rfl) (fun _ => rfl) ?_
  clear hP hD hS
  clear H locs
  intro u
  obtain ⟨n7, n8, n9, n10⟩ := u
  intro H locs hw (hP : va_P G vwCl [(a_1, .inr (9, [.ref a_2, .int i_0])), (a_2, .inl (cy 0, 600, .inl f_0)), (a_0, .inr (7, [.ref a_1, .ref a_3, .int 0, .int (-1), .int n7, .int n8, .int n9, .int n10])), (a_3, .inr (0, [.int 0, .int 0, .int 0, .int 0, .int 0, .int 0, .int 0, .int 0, .ref a_4, .ref a_5, .ref a_6, .ref a_7, .ref a_8, .ref a_9, .ref a_10, .ref a_11, .ref a_12, .ref a_13])), (a_4, .inl (cy 1, 9, .inl f_1)), (a_5, .inl (cy 1, 9, .inl f_2)), (a_6, .inl (cy 1, 3, .inl n1)), (a_7, .inl (cy 1, 210, .inl f_4)), (a_8, .inl (cy 1, 6, .inl n2)), (a_9, .inl (cy 1, 48, .inl f_6)), (a_10, .inl (cy 1, 30, .inl n3))] H) (hD : va_D A [(a_1, .inr (9, [.ref a_2, .int i_0])), (a_2, .inl (cy 0, 600, .inl f_0)), (a_0, .inr (7, [.ref a_1, .ref a_3, .int 0, .int (-1), .int n7, .int n8, .int n9, .int n10])), (a_3, .inr (0, [.int 0, .int 0, .int 0, .int 0, .int 0, .int 0, .int 0, .int 0, .ref a_4, .ref a_5, .ref a_6, .ref a_7, .ref a_8, .ref a_9, .ref a_10, .ref a_11, .ref a_12, .ref a_13])), (a_4, .inl (cy 1, 9, .inl f_1)), (a_5, .inl (cy 1, 9, .inl f_2)), (a_6, .inl (cy 1, 3, .inl n1)), (a_7, .inl (cy 1, 210, .inl f_4)), (a_8, .inl (cy 1, 6, .inl n2)), (a_9, .inl (cy 1, 48, .inl f_6)), (a_10, .inl (cy 1, 30, .inl n3))]) hS
  obtain ⟨w11, w12, w13⟩ := hw
  refine lv_iconst (v := 0) hx hb dX7_copyDown_26 (by decide) ?_
  refine lv_istore_n (lv' := [(1, .int 0), (0, .ref a_0)]) hx hb dX7_copyDown_27 rfl hl (by decide) rfl ?_
  clear hl
  clear ls
  intro ls hl
  have L28_1478 : ∀ (n : Nat) (x28_1_1460 : Int32) (y28_2_2_1461 : Int32) (y28_2_3_1462 : Int32) (y28_2_4_1463 : Int32) (y28_2_5_1464 : Int32) (y28_2_6_1465 : Int32) (y28_2_7_1466 : Int32) (y28_3_0_1467 : Int32) (y28_3_1_1468 : Int32) (y28_3_2_1469 : Int32) (y28_3_4_1470 : Int32) (y28_3_5_1471 : Int32) (y28_3_6_1472 : Int32) (z28_4_1473 : Nat → Int32) (z28_5_1474 : Nat → Int32) (z28_6_1475 : Nat → Int32) (z28_7_1476 : Nat → Int32) (z28_8_1477 : Nat → Int32) (z28_9_1478 : Nat → Int32), mm_rg x28_1_1460 0 600 → mm_rg y28_2_2_1461 0 3 → mm_rg y28_2_4_1463 0 5 → mm_rg y28_2_5_1464 0 600 → mm_rg y28_2_6_1465 0 600 → mm_rg y28_3_1_1468 0 10 → mm_rg y28_3_2_1469 0 99 → mm_rg y28_3_4_1470 0 9 → mm_rg y28_3_5_1471 0 3 → mm_rg y28_3_6_1472 0 6 → mm_ar z28_4_1473 (-1) 4 → mm_ar z28_5_1474 0 99 → mm_ar z28_6_1475 0 7 → mm_ar z28_7_1476 0 9 → mm_ar z28_8_1477 0 8 → mm_ar z28_9_1478 0 9 → (600 - x28_1_1460.toInt).toNat < n → ∀ (H : Heap) (locs : List Loc), va_P G vwCl [(a_1, .inr (9, [.ref a_2, .int i_0])), (a_2, .inl (cy 0, 600, .inl f_0)), (a_0, .inr (7, [.ref a_1, .ref a_3, .int y28_2_2_1461, .int y28_2_3_1462, .int y28_2_4_1463, .int y28_2_5_1464, .int y28_2_6_1465, .int y28_2_7_1466])), (a_3, .inr (0, [.int y28_3_0_1467, .int y28_3_1_1468, .int y28_3_2_1469, .int 0, .int y28_3_4_1470, .int y28_3_5_1471, .int y28_3_6_1472, .int 0, .ref a_4, .ref a_5, .ref a_6, .ref a_7, .ref a_8, .ref a_9, .ref a_10, .ref a_11, .ref a_12, .ref a_13])), (a_4, .inl (cy 1, 9, .inl z28_4_1473)), (a_5, .inl (cy 1, 9, .inl z28_5_1474)), (a_6, .inl (cy 1, 3, .inl z28_6_1475)), (a_7, .inl (cy 1, 210, .inl z28_7_1476)), (a_8, .inl (cy 1, 6, .inl z28_8_1477)), (a_9, .inl (cy 1, 48, .inl z28_9_1478)), (a_10, .inl (cy 1, 30, .inl n3))] H → va_D A [(a_1, .inr (9, [.ref a_2, .int i_0])), (a_2, .inl (cy 0, 600, .inl f_0)), (a_0, .inr (7, [.ref a_1, .ref a_3, .int y28_2_2_1461, .int y28_2_3_1462, .int y28_2_4_1463, .int y28_2_5_1464, .int y28_2_6_1465, .int y28_2_7_1466])), (a_3, .inr (0, [.int y28_3_0_1467, .int y28_3_1_1468, .int y28_3_2_1469, .int 0, .int y28_3_4_1470, .int y28_3_5_1471, .int y28_3_6_1472, .int 0, .ref a_4, .ref a_5, .ref a_6, .ref a_7, .ref a_8, .ref a_9, .ref a_10, .ref a_11, .ref a_12, .ref a_13])), (a_4, .inl (cy 1, 9, .inl z28_4_1473)), (a_5, .inl (cy 1, 9, .inl z28_5_1474)), (a_6, .inl (cy 1, 3, .inl z28_6_1475)), (a_7, .inl (cy 1, 210, .inl z28_7_1476)), (a_8, .inl (cy 1, 6, .inl z28_8_1477)), (a_9, .inl (cy 1, 48, .inl z28_9_1478)), (a_10, .inl (cy 1, 30, .inl n3))] → va_S A s.heap H locs → ∀ (ls : Array Slot), lv_has ls 2 [(1, .int x28_1_1460), (0, .ref a_0)] → W p l e R s m args below meth c H locs 0 0 Q (F0 m 28 ls []) := by
    intro n
    induction n with
    | zero => intro x28_1_1460 y28_2_2_1461 y28_2_3_1462 y28_2_4_1463 y28_2_5_1464 y28_2_6_1465 y28_2_7_1466 y28_3_0_1467 y28_3_1_1468 y28_3_2_1469 y28_3_4_1470 y28_3_5_1471 y28_3_6_1472 z28_4_1473 z28_5_1474 z28_6_1475 z28_7_1476 z28_8_1477 z28_9_1478 rx28_1_1460 ry28_2_2_1461 ry28_2_4_1463 ry28_2_5_1464 ry28_2_6_1465 ry28_3_1_1468 ry28_3_2_1469 ry28_3_4_1470 ry28_3_5_1471 ry28_3_6_1472 rz28_4_1473 rz28_5_1474 rz28_6_1475 rz28_7_1476 rz28_8_1477 rz28_9_1478 hm; exact absurd hm (Nat.not_lt_zero _)
    | succ n ih28 =>
      intro x28_1_1460 y28_2_2_1461 y28_2_3_1462 y28_2_4_1463 y28_2_5_1464 y28_2_6_1465 y28_2_7_1466 y28_3_0_1467 y28_3_1_1468 y28_3_2_1469 y28_3_4_1470 y28_3_5_1471 y28_3_6_1472 z28_4_1473 z28_5_1474 z28_6_1475 z28_7_1476 z28_8_1477 z28_9_1478 rx28_1_1460 ry28_2_2_1461 ry28_2_4_1463 ry28_2_5_1464 ry28_2_6_1465 ry28_3_1_1468 ry28_3_2_1469 ry28_3_4_1470 ry28_3_5_1471 ry28_3_6_1472 rz28_4_1473 rz28_5_1474 rz28_6_1475 rz28_7_1476 rz28_8_1477 rz28_9_1478 hm28 H locs hP hD hS ls hl
      refine lv_iload_n hx hb dX7_copyDown_28 rfl (lv_at hl 0 rfl) ?_
      refine lv_sipush (v := 600) hx hb dX7_copyDown_29 (by decide) ?_
      refine lv_icmp_ge (tgt := 89) hx hb dX7_copyDown_32 (by decide) (fun c1480 => ?_) (fun c1480 => ?_)
      · have q1481 := mm_leR (mm_le c1480) mm_k600 rx28_1_1460
        refine lv_aload_n hx hb dX7_copyDown_89 rfl (lv_at hl 1 rfl) ?_
        refine va_get (D := G) (ci := 7) (v := .ref a_3) (C := RX7) (T := TX7) (N := 8) hx hb hts (mm_i inlX7) hown hK.1 hP 2 rfl rfl 1 (by decide) (mm_h hts mm_w65) (fun _ h9 => h9) rfl dX7_copyDown_90 ?_
        refine lv_aload_n hx hb dX7_copyDown_93 rfl (lv_at hl 1 rfl) ?_
        refine va_get (D := G) (ci := 7) (v := .ref a_3) (C := RX7) (T := TX7) (N := 8) hx hb hts (mm_i inlX7) hown hK.1 hP 2 rfl rfl 1 (by decide) (mm_h hts mm_w65) (fun _ h9 => h9) rfl dX7_copyDown_94 ?_
        refine va_get (D := G) (ci := 0) (v := .int y28_3_2_1469) (C := RX0) (T := TX0) (N := 18) hx hb hts (mm_i inlX0) hown hK.1 hP 3 rfl rfl 2 (by decide) (mm_h hts mm_w209) (fun _ h9 => h9) rfl dX7_copyDown_97 ?_
        refine va_put (D := G) (ci := 0) (v := .int y28_3_2_1469) (ty := tyX0 3) (C := RX0) (T := TX0) (N := 18) hx hb hts (mm_i inlX0) tyX0 tyX0_ok nmX0 hown hK.1 hP hD hS 3 rfl rfl 3 (by decide) (mm_h hts mm_w210) (fun _ h9 => h9) rfl (tyX0_ok 3 (by decide)) rfl rfl (Nat.le_of_ble_eq_true rfl) dX7_copyDown_100 ?_
        clear hP hD hS
        clear H locs
        intro H locs (hP : va_P G vwCl [(a_1, .inr (9, [.ref a_2, .int i_0])), (a_2, .inl (cy 0, 600, .inl f_0)), (a_0, .inr (7, [.ref a_1, .ref a_3, .int y28_2_2_1461, .int y28_2_3_1462, .int y28_2_4_1463, .int y28_2_5_1464, .int y28_2_6_1465, .int y28_2_7_1466])), (a_3, .inr (0, [.int y28_3_0_1467, .int y28_3_1_1468, .int y28_3_2_1469, .int y28_3_2_1469, .int y28_3_4_1470, .int y28_3_5_1471, .int y28_3_6_1472, .int 0, .ref a_4, .ref a_5, .ref a_6, .ref a_7, .ref a_8, .ref a_9, .ref a_10, .ref a_11, .ref a_12, .ref a_13])), (a_4, .inl (cy 1, 9, .inl z28_4_1473)), (a_5, .inl (cy 1, 9, .inl z28_5_1474)), (a_6, .inl (cy 1, 3, .inl z28_6_1475)), (a_7, .inl (cy 1, 210, .inl z28_7_1476)), (a_8, .inl (cy 1, 6, .inl z28_8_1477)), (a_9, .inl (cy 1, 48, .inl z28_9_1478)), (a_10, .inl (cy 1, 30, .inl n3))] H) (hD : va_D A [(a_1, .inr (9, [.ref a_2, .int i_0])), (a_2, .inl (cy 0, 600, .inl f_0)), (a_0, .inr (7, [.ref a_1, .ref a_3, .int y28_2_2_1461, .int y28_2_3_1462, .int y28_2_4_1463, .int y28_2_5_1464, .int y28_2_6_1465, .int y28_2_7_1466])), (a_3, .inr (0, [.int y28_3_0_1467, .int y28_3_1_1468, .int y28_3_2_1469, .int y28_3_2_1469, .int y28_3_4_1470, .int y28_3_5_1471, .int y28_3_6_1472, .int 0, .ref a_4, .ref a_5, .ref a_6, .ref a_7, .ref a_8, .ref a_9, .ref a_10, .ref a_11, .ref a_12, .ref a_13])), (a_4, .inl (cy 1, 9, .inl z28_4_1473)), (a_5, .inl (cy 1, 9, .inl z28_5_1474)), (a_6, .inl (cy 1, 3, .inl z28_6_1475)), (a_7, .inl (cy 1, 210, .inl z28_7_1476)), (a_8, .inl (cy 1, 6, .inl z28_8_1477)), (a_9, .inl (cy 1, 48, .inl z28_9_1478)), (a_10, .inl (cy 1, 30, .inl n3))]) hS
        refine lv_aload_n hx hb dX7_copyDown_103 rfl (lv_at hl 1 rfl) ?_
        refine va_get (D := G) (ci := 7) (v := .int y28_2_2_1461) (C := RX7) (T := TX7) (N := 8) hx hb hts (mm_i inlX7) hown hK.1 hP 2 rfl rfl 2 (by decide) (mm_h hts mm_w205) (fun _ h9 => h9) rfl dX7_copyDown_104 ?_
        refine lv_if_ne (tgt := 114) hx hb dX7_copyDown_107 (by decide) (fun c1482 => ?_) (fun c1482 => ?_)
        · have q1483 := mm_neL (lo := 1) (mm_ne c1482) ry28_2_2_1461 mm_k0 (by decide) (by decide)
          refine lv_iconst (v := 0) hx hb dX7_copyDown_114 (by decide) ?_
          subst hAe
          rw [hQ]
          exact W.zret (v := 0) hx hb hr rfl (fun t ht hW => ⟨⟨0, (y28_2_2_1461, y28_2_3_1462, y28_2_4_1463, y28_2_5_1464, y28_2_6_1465, y28_2_7_1466, y28_3_0_1467, y28_3_1_1468, y28_3_2_1469, y28_3_2_1469, y28_3_4_1470, y28_3_5_1471, y28_3_6_1472, z28_4_1473, z28_5_1474, z28_6_1475, z28_7_1476, z28_8_1477, z28_9_1478, n3), rfl, ⟨(mm_wk q1483 (by decide)), ry28_2_4_1463, ry28_2_5_1464, ry28_2_6_1465, ry28_3_1_1468, ry28_3_2_1469, ry28_3_2_1469, ry28_3_4_1470, ry28_3_5_1471, ry28_3_6_1472, rz28_4_1473, rz28_5_1474, rz28_6_1475, rz28_7_1476, rz28_8_1477, rz28_9_1478, w6, (Or.inl rfl)⟩, by rw [ht]; exact hP, hK.warm hW, hD⟩, hS.F ht⟩) hS.2.2 dX7_copyDown_115
        · have q1484 := mm_eqI (lo := 0) (hi := 0) c1482 ry28_2_2_1461 mm_k0 (by decide)
          refine lv_iconst (v := 1) hx hb dX7_copyDown_110 (by decide) ?_
          refine lv_goto (tgt := 115) hx hb dX7_copyDown_111 (by decide) ?_
          subst hAe
          rw [hQ]
          exact W.zret (v := 1) hx hb hr rfl (fun t ht hW => ⟨⟨1, (y28_2_2_1461, y28_2_3_1462, y28_2_4_1463, y28_2_5_1464, y28_2_6_1465, y28_2_7_1466, y28_3_0_1467, y28_3_1_1468, y28_3_2_1469, y28_3_2_1469, y28_3_4_1470, y28_3_5_1471, y28_3_6_1472, z28_4_1473, z28_5_1474, z28_6_1475, z28_7_1476, z28_8_1477, z28_9_1478, n3), rfl, ⟨(mm_wk q1484 (by decide)), ry28_2_4_1463, ry28_2_5_1464, ry28_2_6_1465, ry28_3_1_1468, ry28_3_2_1469, ry28_3_2_1469, ry28_3_4_1470, ry28_3_5_1471, ry28_3_6_1472, rz28_4_1473, rz28_5_1474, rz28_6_1475, rz28_7_1476, rz28_8_1477, rz28_9_1478, w6, (Or.inr rfl)⟩, by rw [ht]; exact hP, hK.warm hW, hD⟩, hS.F ht⟩) hS.2.2 dX7_copyDown_115
      · have q1485 := mm_ltL (h := 599) (mm_nle c1480) rx28_1_1460 mm_k600 (by decide)
        refine lv_aload_n hx hb dX7_copyDown_35 rfl (lv_at hl 1 rfl) ?_
        refine va_get (D := G) (ci := 7) (v := .int y28_2_2_1461) (C := RX7) (T := TX7) (N := 8) hx hb hts (mm_i inlX7) hown hK.1 hP 2 rfl rfl 2 (by decide) (mm_h hts mm_w205) (fun _ h9 => h9) rfl dX7_copyDown_36 ?_
        refine lv_if_ne (tgt := 89) hx hb dX7_copyDown_39 (by decide) (fun c1486 => ?_) (fun c1486 => ?_)
        · have q1487 := mm_neL (lo := 1) (mm_ne c1486) ry28_2_2_1461 mm_k0 (by decide) (by decide)
          refine lv_aload_n hx hb dX7_copyDown_89 rfl (lv_at hl 1 rfl) ?_
          refine va_get (D := G) (ci := 7) (v := .ref a_3) (C := RX7) (T := TX7) (N := 8) hx hb hts (mm_i inlX7) hown hK.1 hP 2 rfl rfl 1 (by decide) (mm_h hts mm_w65) (fun _ h9 => h9) rfl dX7_copyDown_90 ?_
          refine lv_aload_n hx hb dX7_copyDown_93 rfl (lv_at hl 1 rfl) ?_
          refine va_get (D := G) (ci := 7) (v := .ref a_3) (C := RX7) (T := TX7) (N := 8) hx hb hts (mm_i inlX7) hown hK.1 hP 2 rfl rfl 1 (by decide) (mm_h hts mm_w65) (fun _ h9 => h9) rfl dX7_copyDown_94 ?_
          refine va_get (D := G) (ci := 0) (v := .int y28_3_2_1469) (C := RX0) (T := TX0) (N := 18) hx hb hts (mm_i inlX0) hown hK.1 hP 3 rfl rfl 2 (by decide) (mm_h hts mm_w209) (fun _ h9 => h9) rfl dX7_copyDown_97 ?_
          refine va_put (D := G) (ci := 0) (v := .int y28_3_2_1469) (ty := tyX0 3) (C := RX0) (T := TX0) (N := 18) hx hb hts (mm_i inlX0) tyX0 tyX0_ok nmX0 hown hK.1 hP hD hS 3 rfl rfl 3 (by decide) (mm_h hts mm_w210) (fun _ h9 => h9) rfl (tyX0_ok 3 (by decide)) rfl rfl (Nat.le_of_ble_eq_true rfl) dX7_copyDown_100 ?_
          clear hP hD hS
          clear H locs
          intro H locs (hP : va_P G vwCl [(a_1, .inr (9, [.ref a_2, .int i_0])), (a_2, .inl (cy 0, 600, .inl f_0)), (a_0, .inr (7, [.ref a_1, .ref a_3, .int y28_2_2_1461, .int y28_2_3_1462, .int y28_2_4_1463, .int y28_2_5_1464, .int y28_2_6_1465, .int y28_2_7_1466])), (a_3, .inr (0, [.int y28_3_0_1467, .int y28_3_1_1468, .int y28_3_2_1469, .int y28_3_2_1469, .int y28_3_4_1470, .int y28_3_5_1471, .int y28_3_6_1472, .int 0, .ref a_4, .ref a_5, .ref a_6, .ref a_7, .ref a_8, .ref a_9, .ref a_10, .ref a_11, .ref a_12, .ref a_13])), (a_4, .inl (cy 1, 9, .inl z28_4_1473)), (a_5, .inl (cy 1, 9, .inl z28_5_1474)), (a_6, .inl (cy 1, 3, .inl z28_6_1475)), (a_7, .inl (cy 1, 210, .inl z28_7_1476)), (a_8, .inl (cy 1, 6, .inl z28_8_1477)), (a_9, .inl (cy 1, 48, .inl z28_9_1478)), (a_10, .inl (cy 1, 30, .inl n3))] H) (hD : va_D A [(a_1, .inr (9, [.ref a_2, .int i_0])), (a_2, .inl (cy 0, 600, .inl f_0)), (a_0, .inr (7, [.ref a_1, .ref a_3, .int y28_2_2_1461, .int y28_2_3_1462, .int y28_2_4_1463, .int y28_2_5_1464, .int y28_2_6_1465, .int y28_2_7_1466])), (a_3, .inr (0, [.int y28_3_0_1467, .int y28_3_1_1468, .int y28_3_2_1469, .int y28_3_2_1469, .int y28_3_4_1470, .int y28_3_5_1471, .int y28_3_6_1472, .int 0, .ref a_4, .ref a_5, .ref a_6, .ref a_7, .ref a_8, .ref a_9, .ref a_10, .ref a_11, .ref a_12, .ref a_13])), (a_4, .inl (cy 1, 9, .inl z28_4_1473)), (a_5, .inl (cy 1, 9, .inl z28_5_1474)), (a_6, .inl (cy 1, 3, .inl z28_6_1475)), (a_7, .inl (cy 1, 210, .inl z28_7_1476)), (a_8, .inl (cy 1, 6, .inl z28_8_1477)), (a_9, .inl (cy 1, 48, .inl z28_9_1478)), (a_10, .inl (cy 1, 30, .inl n3))]) hS
          refine lv_aload_n hx hb dX7_copyDown_103 rfl (lv_at hl 1 rfl) ?_
          refine va_get (D := G) (ci := 7) (v := .int y28_2_2_1461) (C := RX7) (T := TX7) (N := 8) hx hb hts (mm_i inlX7) hown hK.1 hP 2 rfl rfl 2 (by decide) (mm_h hts mm_w205) (fun _ h9 => h9) rfl dX7_copyDown_104 ?_
          refine lv_if_ne (tgt := 114) hx hb dX7_copyDown_107 (by decide) (fun c1488 => ?_) (fun c1488 => ?_)
          · refine lv_iconst (v := 0) hx hb dX7_copyDown_114 (by decide) ?_
            subst hAe
            rw [hQ]
            exact W.zret (v := 0) hx hb hr rfl (fun t ht hW => ⟨⟨0, (y28_2_2_1461, y28_2_3_1462, y28_2_4_1463, y28_2_5_1464, y28_2_6_1465, y28_2_7_1466, y28_3_0_1467, y28_3_1_1468, y28_3_2_1469, y28_3_2_1469, y28_3_4_1470, y28_3_5_1471, y28_3_6_1472, z28_4_1473, z28_5_1474, z28_6_1475, z28_7_1476, z28_8_1477, z28_9_1478, n3), rfl, ⟨(mm_wk q1487 (by decide)), ry28_2_4_1463, ry28_2_5_1464, ry28_2_6_1465, ry28_3_1_1468, ry28_3_2_1469, ry28_3_2_1469, ry28_3_4_1470, ry28_3_5_1471, ry28_3_6_1472, rz28_4_1473, rz28_5_1474, rz28_6_1475, rz28_7_1476, rz28_8_1477, rz28_9_1478, w6, (Or.inl rfl)⟩, by rw [ht]; exact hP, hK.warm hW, hD⟩, hS.F ht⟩) hS.2.2 dX7_copyDown_115
          · exact mm_eqN c1488.symm mm_k0 q1487 (by decide)
        · have q1489 := mm_eqI (lo := 0) (hi := 0) c1486 ry28_2_2_1461 mm_k0 (by decide)
          refine lv_aload_n hx hb dX7_copyDown_42 rfl (lv_at hl 1 rfl) ?_
          refine va_get (D := G) (ci := 7) (v := .int y28_2_4_1463) (C := RX7) (T := TX7) (N := 8) hx hb hts (mm_i inlX7) hown hK.1 hP 2 rfl rfl 4 (by decide) (mm_h hts mm_w207) (fun _ h9 => h9) rfl dX7_copyDown_43 ?_
          refine lv_if_eq (tgt := 89) hx hb dX7_copyDown_46 (by decide) (fun c1490 => ?_) (fun c1490 => ?_)
          · have q1491 := mm_eqI (lo := 0) (hi := 0) c1490 ry28_2_4_1463 mm_k0 (by decide)
            refine lv_aload_n hx hb dX7_copyDown_89 rfl (lv_at hl 1 rfl) ?_
            refine va_get (D := G) (ci := 7) (v := .ref a_3) (C := RX7) (T := TX7) (N := 8) hx hb hts (mm_i inlX7) hown hK.1 hP 2 rfl rfl 1 (by decide) (mm_h hts mm_w65) (fun _ h9 => h9) rfl dX7_copyDown_90 ?_
            refine lv_aload_n hx hb dX7_copyDown_93 rfl (lv_at hl 1 rfl) ?_
            refine va_get (D := G) (ci := 7) (v := .ref a_3) (C := RX7) (T := TX7) (N := 8) hx hb hts (mm_i inlX7) hown hK.1 hP 2 rfl rfl 1 (by decide) (mm_h hts mm_w65) (fun _ h9 => h9) rfl dX7_copyDown_94 ?_
            refine va_get (D := G) (ci := 0) (v := .int y28_3_2_1469) (C := RX0) (T := TX0) (N := 18) hx hb hts (mm_i inlX0) hown hK.1 hP 3 rfl rfl 2 (by decide) (mm_h hts mm_w209) (fun _ h9 => h9) rfl dX7_copyDown_97 ?_
            refine va_put (D := G) (ci := 0) (v := .int y28_3_2_1469) (ty := tyX0 3) (C := RX0) (T := TX0) (N := 18) hx hb hts (mm_i inlX0) tyX0 tyX0_ok nmX0 hown hK.1 hP hD hS 3 rfl rfl 3 (by decide) (mm_h hts mm_w210) (fun _ h9 => h9) rfl (tyX0_ok 3 (by decide)) rfl rfl (Nat.le_of_ble_eq_true rfl) dX7_copyDown_100 ?_
            clear hP hD hS
            clear H locs
            intro H locs (hP : va_P G vwCl [(a_1, .inr (9, [.ref a_2, .int i_0])), (a_2, .inl (cy 0, 600, .inl f_0)), (a_0, .inr (7, [.ref a_1, .ref a_3, .int y28_2_2_1461, .int y28_2_3_1462, .int y28_2_4_1463, .int y28_2_5_1464, .int y28_2_6_1465, .int y28_2_7_1466])), (a_3, .inr (0, [.int y28_3_0_1467, .int y28_3_1_1468, .int y28_3_2_1469, .int y28_3_2_1469, .int y28_3_4_1470, .int y28_3_5_1471, .int y28_3_6_1472, .int 0, .ref a_4, .ref a_5, .ref a_6, .ref a_7, .ref a_8, .ref a_9, .ref a_10, .ref a_11, .ref a_12, .ref a_13])), (a_4, .inl (cy 1, 9, .inl z28_4_1473)), (a_5, .inl (cy 1, 9, .inl z28_5_1474)), (a_6, .inl (cy 1, 3, .inl z28_6_1475)), (a_7, .inl (cy 1, 210, .inl z28_7_1476)), (a_8, .inl (cy 1, 6, .inl z28_8_1477)), (a_9, .inl (cy 1, 48, .inl z28_9_1478)), (a_10, .inl (cy 1, 30, .inl n3))] H) (hD : va_D A [(a_1, .inr (9, [.ref a_2, .int i_0])), (a_2, .inl (cy 0, 600, .inl f_0)), (a_0, .inr (7, [.ref a_1, .ref a_3, .int y28_2_2_1461, .int y28_2_3_1462, .int y28_2_4_1463, .int y28_2_5_1464, .int y28_2_6_1465, .int y28_2_7_1466])), (a_3, .inr (0, [.int y28_3_0_1467, .int y28_3_1_1468, .int y28_3_2_1469, .int y28_3_2_1469, .int y28_3_4_1470, .int y28_3_5_1471, .int y28_3_6_1472, .int 0, .ref a_4, .ref a_5, .ref a_6, .ref a_7, .ref a_8, .ref a_9, .ref a_10, .ref a_11, .ref a_12, .ref a_13])), (a_4, .inl (cy 1, 9, .inl z28_4_1473)), (a_5, .inl (cy 1, 9, .inl z28_5_1474)), (a_6, .inl (cy 1, 3, .inl z28_6_1475)), (a_7, .inl (cy 1, 210, .inl z28_7_1476)), (a_8, .inl (cy 1, 6, .inl z28_8_1477)), (a_9, .inl (cy 1, 48, .inl z28_9_1478)), (a_10, .inl (cy 1, 30, .inl n3))]) hS
            refine lv_aload_n hx hb dX7_copyDown_103 rfl (lv_at hl 1 rfl) ?_
            refine va_get (D := G) (ci := 7) (v := .int y28_2_2_1461) (C := RX7) (T := TX7) (N := 8) hx hb hts (mm_i inlX7) hown hK.1 hP 2 rfl rfl 2 (by decide) (mm_h hts mm_w205) (fun _ h9 => h9) rfl dX7_copyDown_104 ?_
            refine lv_if_ne (tgt := 114) hx hb dX7_copyDown_107 (by decide) (fun c1492 => ?_) (fun c1492 => ?_)
            · have q1493 := mm_neL (lo := 1) (mm_ne c1492) q1489 mm_k0 (by decide) (by decide)
              exact mm_no q1493 (by decide)
            · refine lv_iconst (v := 1) hx hb dX7_copyDown_110 (by decide) ?_
              refine lv_goto (tgt := 115) hx hb dX7_copyDown_111 (by decide) ?_
              subst hAe
              rw [hQ]
              exact W.zret (v := 1) hx hb hr rfl (fun t ht hW => ⟨⟨1, (y28_2_2_1461, y28_2_3_1462, y28_2_4_1463, y28_2_5_1464, y28_2_6_1465, y28_2_7_1466, y28_3_0_1467, y28_3_1_1468, y28_3_2_1469, y28_3_2_1469, y28_3_4_1470, y28_3_5_1471, y28_3_6_1472, z28_4_1473, z28_5_1474, z28_6_1475, z28_7_1476, z28_8_1477, z28_9_1478, n3), rfl, ⟨(mm_wk q1489 (by decide)), (mm_wk q1491 (by decide)), ry28_2_5_1464, ry28_2_6_1465, ry28_3_1_1468, ry28_3_2_1469, ry28_3_2_1469, ry28_3_4_1470, ry28_3_5_1471, ry28_3_6_1472, rz28_4_1473, rz28_5_1474, rz28_6_1475, rz28_7_1476, rz28_8_1477, rz28_9_1478, w6, (Or.inr rfl)⟩, by rw [ht]; exact hP, hK.warm hW, hD⟩, hS.F ht⟩) hS.2.2 dX7_copyDown_115
          · have q1494 := mm_neL (lo := 1) (mm_ne c1490) ry28_2_4_1463 mm_k0 (by decide) (by decide)
            refine lv_aload_n hx hb dX7_copyDown_49 rfl (lv_at hl 1 rfl) ?_
            refine mm_finv (va_runV (As := []) (rest := []) ⟨hx, hb, hml, hown, hts⟩ (K320_X7_takeLine l G cy H.size a_0 a_1 a_2 i_0 f_0 a_3 y28_2_2_1461 y28_2_3_1462 y28_2_4_1463 y28_2_5_1464 y28_2_6_1465 y28_2_7_1466 y28_3_0_1467 y28_3_1_1468 y28_3_2_1469 0 y28_3_4_1470 y28_3_5_1471 y28_3_6_1472 0 a_4 a_5 a_6 a_7 a_8 a_9 a_10 a_11 a_12 a_13 z28_4_1473 z28_5_1474 z28_6_1475 z28_7_1476 z28_8_1477 z28_9_1478 h0 h1 (mm_wk q1489 (by decide)) (mm_wk q1494 (by decide)) ry28_2_5_1464 ry28_2_6_1465 ry28_3_1_1468 ry28_3_2_1469 ry28_3_4_1470 ry28_3_5_1471 ry28_3_6_1472 rz28_4_1473 rz28_5_1474 rz28_6_1475 rz28_7_1476 rz28_8_1477 rz28_9_1478) (cwV 0 hts (mm_gV mm_w244 mm_w245 mm_w246 mm_w19 mm_w247) rfl rfl rfl hd_X7_takeLine ⟨by rw [hRf]; exact Nat.le_of_ble_eq_true rfl, by rw [hRl]; exact Nat.le_of_ble_eq_true rfl⟩) (mm_preV hK hZ hS hA hP hD [0, 1, 2, 3, 4, 5, 6, 7, 8, 9] rfl rfl 2 rfl rfl rfl) rfl rfl hl.1 rfl (lv_room (Nat.le_of_ble_eq_true rfl)) dX7_copyDown_50 ⟨by rw [hRc]; exact Nat.le_of_ble_eq_true rfl, by rw [hRs]; exact Nat.le_of_ble_eq_true rfl⟩) hP hD hS hA (fun u : Int32 × Int32 × Int32 × Int32 × Int32 × Int32 × Int32 × Int32 × Int32 × Int32 × Int32 × (Nat → Int32) × (Nat → Int32) × (Nat → Int32) × (Nat → Int32) × (Nat → Int32) × (Nat → Int32) => [(a_1, .inr (9, [.ref a_2, .int i_0])), (a_2, .inl (cy 0, 600, .inl f_0)), (a_0, .inr (7, [.ref a_1, .ref a_3, .int u.1, .int u.2.1, .int u.2.2.1, .int u.2.2.2.1, .int u.2.2.2.2.1, .int u.2.2.2.2.2.1])), (a_3, .inr (0, [.int y28_3_0_1467, .int u.2.2.2.2.2.2.1, .int u.2.2.2.2.2.2.2.1, .int 0, .int u.2.2.2.2.2.2.2.2.1, .int u.2.2.2.2.2.2.2.2.2.1, .int u.2.2.2.2.2.2.2.2.2.2.1, .int 0, .ref a_4, .ref a_5, .ref a_6, .ref a_7, .ref a_8, .ref a_9, .ref a_10, .ref a_11, .ref a_12, .ref a_13])), (a_4, .inl (cy 1, 9, .inl u.2.2.2.2.2.2.2.2.2.2.2.1)), (a_5, .inl (cy 1, 9, .inl u.2.2.2.2.2.2.2.2.2.2.2.2.1)), (a_6, .inl (cy 1, 3, .inl u.2.2.2.2.2.2.2.2.2.2.2.2.2.1)), (a_7, .inl (cy 1, 210, .inl u.2.2.2.2.2.2.2.2.2.2.2.2.2.2.1)), (a_8, .inl (cy 1, 6, .inl u.2.2.2.2.2.2.2.2.2.2.2.2.2.2.2.1)), (a_9, .inl (cy 1, 48, .inl u.2.2.2.2.2.2.2.2.2.2.2.2.2.2.2.2)), (a_10, .inl (cy 1, 30, .inl n3))]) [0, 1, 2, 3, 4, 5, 6, 7, 8, 9] [10] (n := 11) (fun _ => rfl) (by decide +kernel) (by decide +kernel) rfl (fun _ => rfl) (wr := [(a_10, .inl (cy 1, 30, .inl n3))]) rfl (fun _ => rfl) (fun _ => rfl) ?_
            clear hP hD hS
            clear H locs
            intro u
            obtain ⟨n1495, n1496, n1497, n1498, n1499, n1500, n1501, n1502, n1503, n1504, n1505, n1506, n1507, n1508, n1509, n1510, n1511⟩ := u
            intro H locs hw (hP : va_P G vwCl [(a_1, .inr (9, [.ref a_2, .int i_0])), (a_2, .inl (cy 0, 600, .inl f_0)), (a_0, .inr (7, [.ref a_1, .ref a_3, .int n1495, .int n1496, .int n1497, .int n1498, .int n1499, .int n1500])), (a_3, .inr (0, [.int y28_3_0_1467, .int n1501, .int n1502, .int 0, .int n1503, .int n1504, .int n1505, .int 0, .ref a_4, .ref a_5, .ref a_6, .ref a_7, .ref a_8, .ref a_9, .ref a_10, .ref a_11, .ref a_12, .ref a_13])), (a_4, .inl (cy 1, 9, .inl n1506)), (a_5, .inl (cy 1, 9, .inl n1507)), (a_6, .inl (cy 1, 3, .inl n1508)), (a_7, .inl (cy 1, 210, .inl n1509)), (a_8, .inl (cy 1, 6, .inl n1510)), (a_9, .inl (cy 1, 48, .inl n1511)), (a_10, .inl (cy 1, 30, .inl n3))] H) (hD : va_D A [(a_1, .inr (9, [.ref a_2, .int i_0])), (a_2, .inl (cy 0, 600, .inl f_0)), (a_0, .inr (7, [.ref a_1, .ref a_3, .int n1495, .int n1496, .int n1497, .int n1498, .int n1499, .int n1500])), (a_3, .inr (0, [.int y28_3_0_1467, .int n1501, .int n1502, .int 0, .int n1503, .int n1504, .int n1505, .int 0, .ref a_4, .ref a_5, .ref a_6, .ref a_7, .ref a_8, .ref a_9, .ref a_10, .ref a_11, .ref a_12, .ref a_13])), (a_4, .inl (cy 1, 9, .inl n1506)), (a_5, .inl (cy 1, 9, .inl n1507)), (a_6, .inl (cy 1, 3, .inl n1508)), (a_7, .inl (cy 1, 210, .inl n1509)), (a_8, .inl (cy 1, 6, .inl n1510)), (a_9, .inl (cy 1, 48, .inl n1511)), (a_10, .inl (cy 1, 30, .inl n3))]) hS
            obtain ⟨w1512, w1513, w1514, w1515, w1516, w1517, w1518, w1519, w1520, w1521, w1522, w1523, w1524, w1525, w1526⟩ := hw
            refine lv_aload_n hx hb dX7_copyDown_53 rfl (lv_at hl 1 rfl) ?_
            refine lv_aload_n hx hb dX7_copyDown_54 rfl (lv_at hl 1 rfl) ?_
            refine va_get (D := G) (ci := 7) (v := .int n1497) (C := RX7) (T := TX7) (N := 8) hx hb hts (mm_i inlX7) hown hK.1 hP 2 rfl rfl 4 (by decide) (mm_h hts mm_w207) (fun _ h9 => h9) rfl dX7_copyDown_55 ?_
            refine lv_iconst (v := 4) hx hb dX7_copyDown_58 (by decide) ?_
            refine lv_icmp_ne (tgt := 66) hx hb dX7_copyDown_59 (by decide) (fun c1527 => ?_) (fun c1527 => ?_)
            · refine lv_iconst (v := 0) hx hb dX7_copyDown_66 (by decide) ?_
              refine mm_finv (va_runV (As := [.int 0]) (rest := []) ⟨hx, hb, hml, hown, hts⟩ (K169_X7_takeIf l G cy H.size a_0 a_1 a_3 n1495 n1496 n1497 n1498 n1499 n1500 w1512 w1514) (cwV 1 hts (mm_gV mm_w307 mm_w308 mm_w309 mm_w19 mm_w310) rfl rfl rfl hd_X7_takeIf ⟨by rw [hRf]; exact Nat.le_of_ble_eq_true rfl, by rw [hRl]; exact Nat.le_of_ble_eq_true rfl⟩) (mm_preV hK hZ hS hA hP hD [2] rfl rfl 2 rfl rfl rfl) rfl rfl hl.1 rfl (lv_room (Nat.le_of_ble_eq_true rfl)) dX7_copyDown_67 ⟨by rw [hRc]; exact Nat.le_of_ble_eq_true rfl, by rw [hRs]; exact Nat.le_of_ble_eq_true rfl⟩) hP hD hS hA (fun u : Int32 × Int32 => [(a_1, .inr (9, [.ref a_2, .int i_0])), (a_2, .inl (cy 0, 600, .inl f_0)), (a_0, .inr (7, [.ref a_1, .ref a_3, .int u.1, .int u.2, .int n1497, .int n1498, .int n1499, .int n1500])), (a_3, .inr (0, [.int y28_3_0_1467, .int n1501, .int n1502, .int 0, .int n1503, .int n1504, .int n1505, .int 0, .ref a_4, .ref a_5, .ref a_6, .ref a_7, .ref a_8, .ref a_9, .ref a_10, .ref a_11, .ref a_12, .ref a_13])), (a_4, .inl (cy 1, 9, .inl n1506)), (a_5, .inl (cy 1, 9, .inl n1507)), (a_6, .inl (cy 1, 3, .inl n1508)), (a_7, .inl (cy 1, 210, .inl n1509)), (a_8, .inl (cy 1, 6, .inl n1510)), (a_9, .inl (cy 1, 48, .inl n1511)), (a_10, .inl (cy 1, 30, .inl n3))]) [2] [0, 1, 3, 4, 5, 6, 7, 8, 9, 10] (n := 11) (fun _ => rfl) (by decide +kernel) (by decide +kernel) rfl (fun _ => rfl) (wr := [(a_1, .inr (9, [.ref a_2, .int i_0])), (a_2, .inl (cy 0, 600, .inl f_0)), (a_3, .inr (0, [.int y28_3_0_1467, .int n1501, .int n1502, .int 0, .int n1503, .int n1504, .int n1505, .int 0, .ref a_4, .ref a_5, .ref a_6, .ref a_7, .ref a_8, .ref a_9, .ref a_10, .ref a_11, .ref a_12, .ref a_13])), (a_4, .inl (cy 1, 9, .inl n1506)), (a_5, .inl (cy 1, 9, .inl n1507)), (a_6, .inl (cy 1, 3, .inl n1508)), (a_7, .inl (cy 1, 210, .inl n1509)), (a_8, .inl (cy 1, 6, .inl n1510)), (a_9, .inl (cy 1, 48, .inl n1511)), (a_10, .inl (cy 1, 30, .inl n3))]) rfl (fun _ => rfl) (fun _ => rfl) ?_
              clear hP hD hS
              clear H locs
              intro u
              obtain ⟨n1528, n1529⟩ := u
              intro H locs hw (hP : va_P G vwCl [(a_1, .inr (9, [.ref a_2, .int i_0])), (a_2, .inl (cy 0, 600, .inl f_0)), (a_0, .inr (7, [.ref a_1, .ref a_3, .int n1528, .int n1529, .int n1497, .int n1498, .int n1499, .int n1500])), (a_3, .inr (0, [.int y28_3_0_1467, .int n1501, .int n1502, .int 0, .int n1503, .int n1504, .int n1505, .int 0, .ref a_4, .ref a_5, .ref a_6, .ref a_7, .ref a_8, .ref a_9, .ref a_10, .ref a_11, .ref a_12, .ref a_13])), (a_4, .inl (cy 1, 9, .inl n1506)), (a_5, .inl (cy 1, 9, .inl n1507)), (a_6, .inl (cy 1, 3, .inl n1508)), (a_7, .inl (cy 1, 210, .inl n1509)), (a_8, .inl (cy 1, 6, .inl n1510)), (a_9, .inl (cy 1, 48, .inl n1511)), (a_10, .inl (cy 1, 30, .inl n3))] H) (hD : va_D A [(a_1, .inr (9, [.ref a_2, .int i_0])), (a_2, .inl (cy 0, 600, .inl f_0)), (a_0, .inr (7, [.ref a_1, .ref a_3, .int n1528, .int n1529, .int n1497, .int n1498, .int n1499, .int n1500])), (a_3, .inr (0, [.int y28_3_0_1467, .int n1501, .int n1502, .int 0, .int n1503, .int n1504, .int n1505, .int 0, .ref a_4, .ref a_5, .ref a_6, .ref a_7, .ref a_8, .ref a_9, .ref a_10, .ref a_11, .ref a_12, .ref a_13])), (a_4, .inl (cy 1, 9, .inl n1506)), (a_5, .inl (cy 1, 9, .inl n1507)), (a_6, .inl (cy 1, 3, .inl n1508)), (a_7, .inl (cy 1, 210, .inl n1509)), (a_8, .inl (cy 1, 6, .inl n1510)), (a_9, .inl (cy 1, 48, .inl n1511)), (a_10, .inl (cy 1, 30, .inl n3))]) hS
              have w1530 := hw
              refine lv_aload_n hx hb dX7_copyDown_70 rfl (lv_at hl 1 rfl) ?_
              refine va_get (D := G) (ci := 7) (v := .ref a_3) (C := RX7) (T := TX7) (N := 8) hx hb hts (mm_i inlX7) hown hK.1 hP 2 rfl rfl 1 (by decide) (mm_h hts mm_w65) (fun _ h9 => h9) rfl dX7_copyDown_71 ?_
              refine lv_dup hx hb dX7_copyDown_74 rfl ?_
              refine va_get (D := G) (ci := 0) (v := .int y28_3_0_1467) (C := RX0) (T := TX0) (N := 18) hx hb hts (mm_i inlX0) hown hK.1 hP 3 rfl rfl 0 (by decide) (mm_h hts mm_w208) (fun _ h9 => h9) rfl dX7_copyDown_75 ?_
              refine lv_iconst (v := 1) hx hb dX7_copyDown_78 (by decide) ?_
              refine lv_iadd hx hb dX7_copyDown_79 ?_
              refine lv_topi (fun v1531 ev1531 => ?_)
              refine va_put (D := G) (ci := 0) (v := .int v1531) (ty := tyX0 0) (C := RX0) (T := TX0) (N := 18) hx hb hts (mm_i inlX0) tyX0 tyX0_ok nmX0 hown hK.1 hP hD hS 3 rfl rfl 0 (by decide) (mm_h hts mm_w208) (fun _ h9 => h9) rfl (tyX0_ok 0 (by decide)) rfl rfl (Nat.le_of_ble_eq_true rfl) dX7_copyDown_80 ?_
              clear hP hD hS
              clear H locs
              intro H locs (hP : va_P G vwCl [(a_1, .inr (9, [.ref a_2, .int i_0])), (a_2, .inl (cy 0, 600, .inl f_0)), (a_0, .inr (7, [.ref a_1, .ref a_3, .int n1528, .int n1529, .int n1497, .int n1498, .int n1499, .int n1500])), (a_3, .inr (0, [.int v1531, .int n1501, .int n1502, .int 0, .int n1503, .int n1504, .int n1505, .int 0, .ref a_4, .ref a_5, .ref a_6, .ref a_7, .ref a_8, .ref a_9, .ref a_10, .ref a_11, .ref a_12, .ref a_13])), (a_4, .inl (cy 1, 9, .inl n1506)), (a_5, .inl (cy 1, 9, .inl n1507)), (a_6, .inl (cy 1, 3, .inl n1508)), (a_7, .inl (cy 1, 210, .inl n1509)), (a_8, .inl (cy 1, 6, .inl n1510)), (a_9, .inl (cy 1, 48, .inl n1511)), (a_10, .inl (cy 1, 30, .inl n3))] H) (hD : va_D A [(a_1, .inr (9, [.ref a_2, .int i_0])), (a_2, .inl (cy 0, 600, .inl f_0)), (a_0, .inr (7, [.ref a_1, .ref a_3, .int n1528, .int n1529, .int n1497, .int n1498, .int n1499, .int n1500])), (a_3, .inr (0, [.int v1531, .int n1501, .int n1502, .int 0, .int n1503, .int n1504, .int n1505, .int 0, .ref a_4, .ref a_5, .ref a_6, .ref a_7, .ref a_8, .ref a_9, .ref a_10, .ref a_11, .ref a_12, .ref a_13])), (a_4, .inl (cy 1, 9, .inl n1506)), (a_5, .inl (cy 1, 9, .inl n1507)), (a_6, .inl (cy 1, 3, .inl n1508)), (a_7, .inl (cy 1, 210, .inl n1509)), (a_8, .inl (cy 1, 6, .inl n1510)), (a_9, .inl (cy 1, 48, .inl n1511)), (a_10, .inl (cy 1, 30, .inl n3))]) hS
              obtain ⟨v1532, ev1532⟩ : ∃ y : Int32, y = x28_1_1460 + 1 := ⟨_, rfl⟩
              refine lv_iinc (v := v1532) (lv' := [(1, .int v1532), (0, .ref a_0)]) hx hb dX7_copyDown_83 hl (k := 0) rfl (by rw [ev1532]; rfl) (by decide) rfl ?_
              clear hl
              clear ls
              intro ls hl
              have rv1532 : mm_rg v1532 1 600 := mm_add ev1532 q1485 mm_k1 (by decide) (by decide)
              have tv1532 := mm_addEc ev1532 q1485 mm_k1 (by decide) (k := 1) (by decide)
              refine lv_goto (tgt := 28) hx hb dX7_copyDown_86 (by decide) ?_
              exact ih28 v1532 n1528 n1529 n1497 n1498 n1499 n1500 v1531 n1501 n1502 n1503 n1504 n1505 n1506 n1507 n1508 n1509 n1510 n1511 (mm_wk rv1532 (by decide)) (mm_wk w1530 (by decide)) w1513 w1514 w1515 w1516 w1517 w1518 w1519 w1520 w1521 w1522 w1523 w1524 w1525 w1526 (mm_mu hm28 tv1532 (by decide) (rv1532).2 (by decide)) H locs hP hD hS ls (lv_sub hl [0, 1] rfl)
            · have q1533 := mm_eqI (lo := 4) (hi := 4) c1527 w1513 mm_k4 (by decide)
              refine lv_iconst (v := 1) hx hb dX7_copyDown_62 (by decide) ?_
              refine lv_goto (tgt := 67) hx hb dX7_copyDown_63 (by decide) ?_
              refine mm_finv (va_runV (As := [.int 1]) (rest := []) ⟨hx, hb, hml, hown, hts⟩ (K170_X7_takeIf l G cy H.size a_0 a_1 a_2 i_0 f_0 a_3 n1495 n1496 n1497 n1498 n1499 n1500 h0 h1 w1512 (mm_wk q1533 (by decide)) w1514 w1515) (cwV 1 hts (mm_gV mm_w307 mm_w308 mm_w309 mm_w19 mm_w310) rfl rfl rfl hd_X7_takeIf ⟨by rw [hRf]; exact Nat.le_of_ble_eq_true rfl, by rw [hRl]; exact Nat.le_of_ble_eq_true rfl⟩) (mm_preV hK hZ hS hA hP hD [0, 1, 2] rfl rfl 2 rfl rfl rfl) rfl rfl hl.1 rfl (lv_room (Nat.le_of_ble_eq_true rfl)) dX7_copyDown_67 ⟨by rw [hRc]; exact Nat.le_of_ble_eq_true rfl, by rw [hRs]; exact Nat.le_of_ble_eq_true rfl⟩) hP hD hS hA (fun u : Int32 × Int32 × Int32 × Int32 => [(a_1, .inr (9, [.ref a_2, .int i_0])), (a_2, .inl (cy 0, 600, .inl f_0)), (a_0, .inr (7, [.ref a_1, .ref a_3, .int n1495, .int n1496, .int u.1, .int u.2.1, .int u.2.2.1, .int u.2.2.2])), (a_3, .inr (0, [.int y28_3_0_1467, .int n1501, .int n1502, .int 0, .int n1503, .int n1504, .int n1505, .int 0, .ref a_4, .ref a_5, .ref a_6, .ref a_7, .ref a_8, .ref a_9, .ref a_10, .ref a_11, .ref a_12, .ref a_13])), (a_4, .inl (cy 1, 9, .inl n1506)), (a_5, .inl (cy 1, 9, .inl n1507)), (a_6, .inl (cy 1, 3, .inl n1508)), (a_7, .inl (cy 1, 210, .inl n1509)), (a_8, .inl (cy 1, 6, .inl n1510)), (a_9, .inl (cy 1, 48, .inl n1511)), (a_10, .inl (cy 1, 30, .inl n3))]) [0, 1, 2] [3, 4, 5, 6, 7, 8, 9, 10] (n := 11) (fun _ => rfl) (by decide +kernel) (by decide +kernel) rfl (fun _ => rfl) (wr := [(a_3, .inr (0, [.int y28_3_0_1467, .int n1501, .int n1502, .int 0, .int n1503, .int n1504, .int n1505, .int 0, .ref a_4, .ref a_5, .ref a_6, .ref a_7, .ref a_8, .ref a_9, .ref a_10, .ref a_11, .ref a_12, .ref a_13])), (a_4, .inl (cy 1, 9, .inl n1506)), (a_5, .inl (cy 1, 9, .inl n1507)), (a_6, .inl (cy 1, 3, .inl n1508)), (a_7, .inl (cy 1, 210, .inl n1509)), (a_8, .inl (cy 1, 6, .inl n1510)), (a_9, .inl (cy 1, 48, .inl n1511)), (a_10, .inl (cy 1, 30, .inl n3))]) rfl (fun _ => rfl) (fun _ => rfl) ?_
              clear hP hD hS
              clear H locs
              intro u
              obtain ⟨n1534, n1535, n1536, n1537⟩ := u
              intro H locs hw (hP : va_P G vwCl [(a_1, .inr (9, [.ref a_2, .int i_0])), (a_2, .inl (cy 0, 600, .inl f_0)), (a_0, .inr (7, [.ref a_1, .ref a_3, .int n1495, .int n1496, .int n1534, .int n1535, .int n1536, .int n1537])), (a_3, .inr (0, [.int y28_3_0_1467, .int n1501, .int n1502, .int 0, .int n1503, .int n1504, .int n1505, .int 0, .ref a_4, .ref a_5, .ref a_6, .ref a_7, .ref a_8, .ref a_9, .ref a_10, .ref a_11, .ref a_12, .ref a_13])), (a_4, .inl (cy 1, 9, .inl n1506)), (a_5, .inl (cy 1, 9, .inl n1507)), (a_6, .inl (cy 1, 3, .inl n1508)), (a_7, .inl (cy 1, 210, .inl n1509)), (a_8, .inl (cy 1, 6, .inl n1510)), (a_9, .inl (cy 1, 48, .inl n1511)), (a_10, .inl (cy 1, 30, .inl n3))] H) (hD : va_D A [(a_1, .inr (9, [.ref a_2, .int i_0])), (a_2, .inl (cy 0, 600, .inl f_0)), (a_0, .inr (7, [.ref a_1, .ref a_3, .int n1495, .int n1496, .int n1534, .int n1535, .int n1536, .int n1537])), (a_3, .inr (0, [.int y28_3_0_1467, .int n1501, .int n1502, .int 0, .int n1503, .int n1504, .int n1505, .int 0, .ref a_4, .ref a_5, .ref a_6, .ref a_7, .ref a_8, .ref a_9, .ref a_10, .ref a_11, .ref a_12, .ref a_13])), (a_4, .inl (cy 1, 9, .inl n1506)), (a_5, .inl (cy 1, 9, .inl n1507)), (a_6, .inl (cy 1, 3, .inl n1508)), (a_7, .inl (cy 1, 210, .inl n1509)), (a_8, .inl (cy 1, 6, .inl n1510)), (a_9, .inl (cy 1, 48, .inl n1511)), (a_10, .inl (cy 1, 30, .inl n3))]) hS
              obtain ⟨w1538, w1539, w1540⟩ := hw
              refine lv_aload_n hx hb dX7_copyDown_70 rfl (lv_at hl 1 rfl) ?_
              refine va_get (D := G) (ci := 7) (v := .ref a_3) (C := RX7) (T := TX7) (N := 8) hx hb hts (mm_i inlX7) hown hK.1 hP 2 rfl rfl 1 (by decide) (mm_h hts mm_w65) (fun _ h9 => h9) rfl dX7_copyDown_71 ?_
              refine lv_dup hx hb dX7_copyDown_74 rfl ?_
              refine va_get (D := G) (ci := 0) (v := .int y28_3_0_1467) (C := RX0) (T := TX0) (N := 18) hx hb hts (mm_i inlX0) hown hK.1 hP 3 rfl rfl 0 (by decide) (mm_h hts mm_w208) (fun _ h9 => h9) rfl dX7_copyDown_75 ?_
              refine lv_iconst (v := 1) hx hb dX7_copyDown_78 (by decide) ?_
              refine lv_iadd hx hb dX7_copyDown_79 ?_
              refine lv_topi (fun v1541 ev1541 => ?_)
              refine va_put (D := G) (ci := 0) (v := .int v1541) (ty := tyX0 0) (C := RX0) (T := TX0) (N := 18) hx hb hts (mm_i inlX0) tyX0 tyX0_ok nmX0 hown hK.1 hP hD hS 3 rfl rfl 0 (by decide) (mm_h hts mm_w208) (fun _ h9 => h9) rfl (tyX0_ok 0 (by decide)) rfl rfl (Nat.le_of_ble_eq_true rfl) dX7_copyDown_80 ?_
              clear hP hD hS
              clear H locs
              intro H locs (hP : va_P G vwCl [(a_1, .inr (9, [.ref a_2, .int i_0])), (a_2, .inl (cy 0, 600, .inl f_0)), (a_0, .inr (7, [.ref a_1, .ref a_3, .int n1495, .int n1496, .int n1534, .int n1535, .int n1536, .int n1537])), (a_3, .inr (0, [.int v1541, .int n1501, .int n1502, .int 0, .int n1503, .int n1504, .int n1505, .int 0, .ref a_4, .ref a_5, .ref a_6, .ref a_7, .ref a_8, .ref a_9, .ref a_10, .ref a_11, .ref a_12, .ref a_13])), (a_4, .inl (cy 1, 9, .inl n1506)), (a_5, .inl (cy 1, 9, .inl n1507)), (a_6, .inl (cy 1, 3, .inl n1508)), (a_7, .inl (cy 1, 210, .inl n1509)), (a_8, .inl (cy 1, 6, .inl n1510)), (a_9, .inl (cy 1, 48, .inl n1511)), (a_10, .inl (cy 1, 30, .inl n3))] H) (hD : va_D A [(a_1, .inr (9, [.ref a_2, .int i_0])), (a_2, .inl (cy 0, 600, .inl f_0)), (a_0, .inr (7, [.ref a_1, .ref a_3, .int n1495, .int n1496, .int n1534, .int n1535, .int n1536, .int n1537])), (a_3, .inr (0, [.int v1541, .int n1501, .int n1502, .int 0, .int n1503, .int n1504, .int n1505, .int 0, .ref a_4, .ref a_5, .ref a_6, .ref a_7, .ref a_8, .ref a_9, .ref a_10, .ref a_11, .ref a_12, .ref a_13])), (a_4, .inl (cy 1, 9, .inl n1506)), (a_5, .inl (cy 1, 9, .inl n1507)), (a_6, .inl (cy 1, 3, .inl n1508)), (a_7, .inl (cy 1, 210, .inl n1509)), (a_8, .inl (cy 1, 6, .inl n1510)), (a_9, .inl (cy 1, 48, .inl n1511)), (a_10, .inl (cy 1, 30, .inl n3))]) hS
              obtain ⟨v1542, ev1542⟩ : ∃ y : Int32, y = x28_1_1460 + 1 := ⟨_, rfl⟩
              refine lv_iinc (v := v1542) (lv' := [(1, .int v1542), (0, .ref a_0)]) hx hb dX7_copyDown_83 hl (k := 0) rfl (by rw [ev1542]; rfl) (by decide) rfl ?_
              clear hl
              clear ls
              intro ls hl
              have rv1542 : mm_rg v1542 1 600 := mm_add ev1542 q1485 mm_k1 (by decide) (by decide)
              have tv1542 := mm_addEc ev1542 q1485 mm_k1 (by decide) (k := 1) (by decide)
              refine lv_goto (tgt := 28) hx hb dX7_copyDown_86 (by decide) ?_
              exact ih28 v1542 n1495 n1496 n1534 n1535 n1536 n1537 v1541 n1501 n1502 n1503 n1504 n1505 n1506 n1507 n1508 n1509 n1510 n1511 (mm_wk rv1542 (by decide)) w1512 w1538 w1539 w1540 w1516 w1517 w1518 w1519 w1520 w1521 w1522 w1523 w1524 w1525 w1526 (mm_mu hm28 tv1542 (by decide) (rv1542).2 (by decide)) H locs hP hD hS ls (lv_sub hl [0, 1] rfl)
  exact L28_1478 _ 0 0 (-1) n7 n8 n9 n10 0 0 0 0 0 0 f_1 f_2 n1 f_4 n2 f_6 (mm_wk mm_k0 (by decide)) (mm_wk mm_k0 (by decide)) w11 w12 w13 (mm_wk mm_k0 (by decide)) (mm_wk mm_k0 (by decide)) (mm_wk mm_k0 (by decide)) (mm_wk mm_k0 (by decide)) (mm_wk mm_k0 (by decide)) h13 h14 w4 h16 w5 h18 (Nat.lt_succ_self _) H locs hP hD hS ls (lv_sub hl [0, 1] rfl)

set_option maxHeartbeats 4000000 in
set_option maxRecDepth 100000 in
theorem K322_X0_copyRow (l : Launch) (G : va_G) (cy : Nat → ClassId) (sz : Nat) (a_0 : Nat) (a_1 : Nat) (f_0 : Nat → Int32) (f_1 : Nat → Int32) (h0 : mm_ar f_0 (-1) 4) (h1 : mm_ar f_1 (-1) 4)  : mm_CV l yX0_copyRow (mm_ws yX0_copyRow cX0_copyRow 2 (none)) ({ frames := 1, cells := 0, slots := 0, locals := 64 } : Room) G cy sz [(a_0, .inl (cy 1, 9, .inl f_0)), (a_1, .inl (cy 1, 9, .inl f_1))] [.ref a_0, .ref a_1] (fun u : Unit => [(a_0, .inl (cy 1, 9, .inl f_0)), (a_1, .inl (cy 1, 9, .inl f_0))]) (fun u : Unit => True) 0 0 := by
  refine mm_begin (lv := [(0, .ref a_0), (1, .ref a_1)]) (by decide) (Nat.le_of_ble_eq_true rfl) rfl ?_
  intro p e s m below meth c A ls R args Q H locs hRe hQ hAe hx hb hr hlocks hml hown hnm hts hsz hA hS hP hK hD hZ hl
  have hRf : R.frames = 1 := by rw [hRe]
  have hRl : R.locals = 64 := by rw [hRe]
  have hRc : R.cells = 0 := by rw [hRe]
  have hRs : R.slots = 0 := by rw [hRe]
  refine lv_aload_n hx hb dX0_copyRow_0 rfl (lv_at hl 0 rfl) ?_
  refine lv_iconst (v := 0) hx hb dX0_copyRow_1 (by decide) ?_
  refine lv_aload_n hx hb dX0_copyRow_2 rfl (lv_at hl 1 rfl) ?_
  refine lv_iconst (v := 0) hx hb dX0_copyRow_3 (by decide) ?_
  refine lv_aload_n hx hb dX0_copyRow_4 rfl (lv_at hl 0 rfl) ?_
  refine va_alen (v := 9) hx hb hK.1 hP 0 1 rfl rfl rfl dX0_copyRow_5 ?_
  refine lv_aload_n hx hb dX0_copyRow_6 rfl (lv_at hl 1 rfl) ?_
  refine va_alen (v := 9) hx hb hK.1 hP 1 1 rfl rfl rfl dX0_copyRow_7 ?_
  refine va_mmin hx hb (by rw [hml]; exact hl.1.symm) hown (mm_h hts mm_w384) (mm_h hts mm_w385) (mm_h hts mm_w346) (mm_h hts mm_w386) (by rw [hRf]; exact Nat.le_of_ble_eq_true rfl) (by rw [hRl]; exact Nat.le_of_ble_eq_true rfl) (by rw [hRc]; exact Nat.le_of_ble_eq_true rfl) (by rw [hRs]; exact Nat.le_of_ble_eq_true rfl) dX0_copyRow_8 ?_
  refine lv_topi (fun v1 ev1 => ?_)
  obtain rfl : v1 = 9 := ev1.trans (by decide)
  refine va_copyi hx hb (by rw [hml]; exact hl.1.symm) hown (mm_h hts mm_w387) (mm_h hts mm_w388) (mm_h hts mm_w389) (mm_h hts mm_w390) hK.1 hP hD hS 0 1 1 1 rfl rfl rfl rfl rfl (by decide) (by decide) (by decide) (by decide) (by decide) (fun _ _ => rfl) (by rw [hRf]; exact Nat.le_of_ble_eq_true rfl) (by rw [hRl]; exact Nat.le_of_ble_eq_true rfl) dX0_copyRow_11 ?_
  clear hP hD hS
  clear H locs
  obtain ⟨g2, eg2⟩ : ∃ z : Nat → Int32, z = va_cpy f_0 f_1 (0 : Int32).toNatClampNeg (0 : Int32).toNatClampNeg (9 : Int32).toNatClampNeg := ⟨_, rfl⟩
  rw [← eg2]
  intro H locs (hP : va_P G vwCl [(a_0, .inl (cy 1, 9, .inl f_0)), (a_1, .inl (cy 1, 9, .inl g2))] H) (hD : va_D A [(a_0, .inl (cy 1, 9, .inl f_0)), (a_1, .inl (cy 1, 9, .inl g2))]) hS
  have rg2 : mm_ar g2 (-1) 4 := by rw [eg2]; exact mm_ar_cpy (mm_ar_wk h0 (by decide)) (mm_ar_wk h1 (by decide)) _ _ _
  have hq := mm_recont hP hD 1 rfl (g := f_0) (by rw [eg2]; exact mm_cpyF (by decide))
  replace hP := hq.1
  replace hD := hq.2
  clear hq
  replace hP : va_P G vwCl [(a_0, .inl (cy 1, 9, .inl f_0)), (a_1, .inl (cy 1, 9, .inl f_0))] H := hP
  replace hD : va_D A [(a_0, .inl (cy 1, 9, .inl f_0)), (a_1, .inl (cy 1, 9, .inl f_0))] := hD
  subst hAe
  rw [hQ]
  exact W.vret hx hb hr (fun t ht hW => ⟨⟨(), rfl, trivial, by rw [ht]; exact hP, hK.warm hW, hD⟩, hS.F ht⟩) hS.2.2 dX0_copyRow_14

set_option maxHeartbeats 4000000 in
set_option maxRecDepth 100000 in
theorem K323_X0_copyRow (l : Launch) (G : va_G) (cy : Nat → ClassId) (sz : Nat) (a_0 : Nat) (a_1 : Nat) (f_0 : Nat → Int32) (f_1 : Nat → Int32) (h0 : mm_ar f_0 0 99) (h1 : mm_ar f_1 0 99)  : mm_CV l yX0_copyRow (mm_ws yX0_copyRow cX0_copyRow 2 (none)) ({ frames := 1, cells := 0, slots := 0, locals := 64 } : Room) G cy sz [(a_0, .inl (cy 1, 9, .inl f_0)), (a_1, .inl (cy 1, 9, .inl f_1))] [.ref a_0, .ref a_1] (fun u : Unit => [(a_0, .inl (cy 1, 9, .inl f_0)), (a_1, .inl (cy 1, 9, .inl f_0))]) (fun u : Unit => True) 0 0 := by
  refine mm_begin (lv := [(0, .ref a_0), (1, .ref a_1)]) (by decide) (Nat.le_of_ble_eq_true rfl) rfl ?_
  intro p e s m below meth c A ls R args Q H locs hRe hQ hAe hx hb hr hlocks hml hown hnm hts hsz hA hS hP hK hD hZ hl
  have hRf : R.frames = 1 := by rw [hRe]
  have hRl : R.locals = 64 := by rw [hRe]
  have hRc : R.cells = 0 := by rw [hRe]
  have hRs : R.slots = 0 := by rw [hRe]
  refine lv_aload_n hx hb dX0_copyRow_0 rfl (lv_at hl 0 rfl) ?_
  refine lv_iconst (v := 0) hx hb dX0_copyRow_1 (by decide) ?_
  refine lv_aload_n hx hb dX0_copyRow_2 rfl (lv_at hl 1 rfl) ?_
  refine lv_iconst (v := 0) hx hb dX0_copyRow_3 (by decide) ?_
  refine lv_aload_n hx hb dX0_copyRow_4 rfl (lv_at hl 0 rfl) ?_
  refine va_alen (v := 9) hx hb hK.1 hP 0 1 rfl rfl rfl dX0_copyRow_5 ?_
  refine lv_aload_n hx hb dX0_copyRow_6 rfl (lv_at hl 1 rfl) ?_
  refine va_alen (v := 9) hx hb hK.1 hP 1 1 rfl rfl rfl dX0_copyRow_7 ?_
  refine va_mmin hx hb (by rw [hml]; exact hl.1.symm) hown (mm_h hts mm_w384) (mm_h hts mm_w385) (mm_h hts mm_w346) (mm_h hts mm_w386) (by rw [hRf]; exact Nat.le_of_ble_eq_true rfl) (by rw [hRl]; exact Nat.le_of_ble_eq_true rfl) (by rw [hRc]; exact Nat.le_of_ble_eq_true rfl) (by rw [hRs]; exact Nat.le_of_ble_eq_true rfl) dX0_copyRow_8 ?_
  refine lv_topi (fun v1 ev1 => ?_)
  obtain rfl : v1 = 9 := ev1.trans (by decide)
  refine va_copyi hx hb (by rw [hml]; exact hl.1.symm) hown (mm_h hts mm_w387) (mm_h hts mm_w388) (mm_h hts mm_w389) (mm_h hts mm_w390) hK.1 hP hD hS 0 1 1 1 rfl rfl rfl rfl rfl (by decide) (by decide) (by decide) (by decide) (by decide) (fun _ _ => rfl) (by rw [hRf]; exact Nat.le_of_ble_eq_true rfl) (by rw [hRl]; exact Nat.le_of_ble_eq_true rfl) dX0_copyRow_11 ?_
  clear hP hD hS
  clear H locs
  obtain ⟨g2, eg2⟩ : ∃ z : Nat → Int32, z = va_cpy f_0 f_1 (0 : Int32).toNatClampNeg (0 : Int32).toNatClampNeg (9 : Int32).toNatClampNeg := ⟨_, rfl⟩
  rw [← eg2]
  intro H locs (hP : va_P G vwCl [(a_0, .inl (cy 1, 9, .inl f_0)), (a_1, .inl (cy 1, 9, .inl g2))] H) (hD : va_D A [(a_0, .inl (cy 1, 9, .inl f_0)), (a_1, .inl (cy 1, 9, .inl g2))]) hS
  have rg2 : mm_ar g2 0 99 := by rw [eg2]; exact mm_ar_cpy (mm_ar_wk h0 (by decide)) (mm_ar_wk h1 (by decide)) _ _ _
  have hq := mm_recont hP hD 1 rfl (g := f_0) (by rw [eg2]; exact mm_cpyF (by decide))
  replace hP := hq.1
  replace hD := hq.2
  clear hq
  replace hP : va_P G vwCl [(a_0, .inl (cy 1, 9, .inl f_0)), (a_1, .inl (cy 1, 9, .inl f_0))] H := hP
  replace hD : va_D A [(a_0, .inl (cy 1, 9, .inl f_0)), (a_1, .inl (cy 1, 9, .inl f_0))] := hD
  subst hAe
  rw [hQ]
  exact W.vret hx hb hr (fun t ht hW => ⟨⟨(), rfl, trivial, by rw [ht]; exact hP, hK.warm hW, hD⟩, hS.F ht⟩) hS.2.2 dX0_copyRow_14

set_option maxHeartbeats 4000000 in
set_option maxRecDepth 100000 in
theorem K324_X0_copyRow (l : Launch) (G : va_G) (cy : Nat → ClassId) (sz : Nat) (a_0 : Nat) (a_1 : Nat) (f_0 : Nat → Int32) (f_1 : Nat → Int32) (h0 : mm_ar f_0 0 7) (h1 : mm_ar f_1 0 7)  : mm_CV l yX0_copyRow (mm_ws yX0_copyRow cX0_copyRow 2 (none)) ({ frames := 1, cells := 0, slots := 0, locals := 64 } : Room) G cy sz [(a_0, .inl (cy 1, 3, .inl f_0)), (a_1, .inl (cy 1, 3, .inl f_1))] [.ref a_0, .ref a_1] (fun u : Unit => [(a_0, .inl (cy 1, 3, .inl f_0)), (a_1, .inl (cy 1, 3, .inl f_0))]) (fun u : Unit => True) 0 0 := by
  refine mm_begin (lv := [(0, .ref a_0), (1, .ref a_1)]) (by decide) (Nat.le_of_ble_eq_true rfl) rfl ?_
  intro p e s m below meth c A ls R args Q H locs hRe hQ hAe hx hb hr hlocks hml hown hnm hts hsz hA hS hP hK hD hZ hl
  have hRf : R.frames = 1 := by rw [hRe]
  have hRl : R.locals = 64 := by rw [hRe]
  have hRc : R.cells = 0 := by rw [hRe]
  have hRs : R.slots = 0 := by rw [hRe]
  refine lv_aload_n hx hb dX0_copyRow_0 rfl (lv_at hl 0 rfl) ?_
  refine lv_iconst (v := 0) hx hb dX0_copyRow_1 (by decide) ?_
  refine lv_aload_n hx hb dX0_copyRow_2 rfl (lv_at hl 1 rfl) ?_
  refine lv_iconst (v := 0) hx hb dX0_copyRow_3 (by decide) ?_
  refine lv_aload_n hx hb dX0_copyRow_4 rfl (lv_at hl 0 rfl) ?_
  refine va_alen (v := 3) hx hb hK.1 hP 0 1 rfl rfl rfl dX0_copyRow_5 ?_
  refine lv_aload_n hx hb dX0_copyRow_6 rfl (lv_at hl 1 rfl) ?_
  refine va_alen (v := 3) hx hb hK.1 hP 1 1 rfl rfl rfl dX0_copyRow_7 ?_
  refine va_mmin hx hb (by rw [hml]; exact hl.1.symm) hown (mm_h hts mm_w384) (mm_h hts mm_w385) (mm_h hts mm_w346) (mm_h hts mm_w386) (by rw [hRf]; exact Nat.le_of_ble_eq_true rfl) (by rw [hRl]; exact Nat.le_of_ble_eq_true rfl) (by rw [hRc]; exact Nat.le_of_ble_eq_true rfl) (by rw [hRs]; exact Nat.le_of_ble_eq_true rfl) dX0_copyRow_8 ?_
  refine lv_topi (fun v1 ev1 => ?_)
  obtain rfl : v1 = 3 := ev1.trans (by decide)
  refine va_copyi hx hb (by rw [hml]; exact hl.1.symm) hown (mm_h hts mm_w387) (mm_h hts mm_w388) (mm_h hts mm_w389) (mm_h hts mm_w390) hK.1 hP hD hS 0 1 1 1 rfl rfl rfl rfl rfl (by decide) (by decide) (by decide) (by decide) (by decide) (fun _ _ => rfl) (by rw [hRf]; exact Nat.le_of_ble_eq_true rfl) (by rw [hRl]; exact Nat.le_of_ble_eq_true rfl) dX0_copyRow_11 ?_
  clear hP hD hS
  clear H locs
  obtain ⟨g2, eg2⟩ : ∃ z : Nat → Int32, z = va_cpy f_0 f_1 (0 : Int32).toNatClampNeg (0 : Int32).toNatClampNeg (3 : Int32).toNatClampNeg := ⟨_, rfl⟩
  rw [← eg2]
  intro H locs (hP : va_P G vwCl [(a_0, .inl (cy 1, 3, .inl f_0)), (a_1, .inl (cy 1, 3, .inl g2))] H) (hD : va_D A [(a_0, .inl (cy 1, 3, .inl f_0)), (a_1, .inl (cy 1, 3, .inl g2))]) hS
  have rg2 : mm_ar g2 0 7 := by rw [eg2]; exact mm_ar_cpy (mm_ar_wk h0 (by decide)) (mm_ar_wk h1 (by decide)) _ _ _
  have hq := mm_recont hP hD 1 rfl (g := f_0) (by rw [eg2]; exact mm_cpyF (by decide))
  replace hP := hq.1
  replace hD := hq.2
  clear hq
  replace hP : va_P G vwCl [(a_0, .inl (cy 1, 3, .inl f_0)), (a_1, .inl (cy 1, 3, .inl f_0))] H := hP
  replace hD : va_D A [(a_0, .inl (cy 1, 3, .inl f_0)), (a_1, .inl (cy 1, 3, .inl f_0))] := hD
  subst hAe
  rw [hQ]
  exact W.vret hx hb hr (fun t ht hW => ⟨⟨(), rfl, trivial, by rw [ht]; exact hP, hK.warm hW, hD⟩, hS.F ht⟩) hS.2.2 dX0_copyRow_14

set_option maxHeartbeats 4000000 in
set_option maxRecDepth 100000 in
theorem K325_X0_copyRow (l : Launch) (G : va_G) (cy : Nat → ClassId) (sz : Nat) (a_0 : Nat) (a_1 : Nat) (f_0 : Nat → Int32) (f_1 : Nat → Int32) (h0 : mm_ar f_0 0 9) (h1 : mm_ar f_1 0 9)  : mm_CV l yX0_copyRow (mm_ws yX0_copyRow cX0_copyRow 2 (none)) ({ frames := 1, cells := 0, slots := 0, locals := 64 } : Room) G cy sz [(a_0, .inl (cy 1, 210, .inl f_0)), (a_1, .inl (cy 1, 210, .inl f_1))] [.ref a_0, .ref a_1] (fun u : Unit => [(a_0, .inl (cy 1, 210, .inl f_0)), (a_1, .inl (cy 1, 210, .inl f_0))]) (fun u : Unit => True) 0 0 := by
  refine mm_begin (lv := [(0, .ref a_0), (1, .ref a_1)]) (by decide) (Nat.le_of_ble_eq_true rfl) rfl ?_
  intro p e s m below meth c A ls R args Q H locs hRe hQ hAe hx hb hr hlocks hml hown hnm hts hsz hA hS hP hK hD hZ hl
  have hRf : R.frames = 1 := by rw [hRe]
  have hRl : R.locals = 64 := by rw [hRe]
  have hRc : R.cells = 0 := by rw [hRe]
  have hRs : R.slots = 0 := by rw [hRe]
  refine lv_aload_n hx hb dX0_copyRow_0 rfl (lv_at hl 0 rfl) ?_
  refine lv_iconst (v := 0) hx hb dX0_copyRow_1 (by decide) ?_
  refine lv_aload_n hx hb dX0_copyRow_2 rfl (lv_at hl 1 rfl) ?_
  refine lv_iconst (v := 0) hx hb dX0_copyRow_3 (by decide) ?_
  refine lv_aload_n hx hb dX0_copyRow_4 rfl (lv_at hl 0 rfl) ?_
  refine va_alen (v := 210) hx hb hK.1 hP 0 1 rfl rfl rfl dX0_copyRow_5 ?_
  refine lv_aload_n hx hb dX0_copyRow_6 rfl (lv_at hl 1 rfl) ?_
  refine va_alen (v := 210) hx hb hK.1 hP 1 1 rfl rfl rfl dX0_copyRow_7 ?_
  refine va_mmin hx hb (by rw [hml]; exact hl.1.symm) hown (mm_h hts mm_w384) (mm_h hts mm_w385) (mm_h hts mm_w346) (mm_h hts mm_w386) (by rw [hRf]; exact Nat.le_of_ble_eq_true rfl) (by rw [hRl]; exact Nat.le_of_ble_eq_true rfl) (by rw [hRc]; exact Nat.le_of_ble_eq_true rfl) (by rw [hRs]; exact Nat.le_of_ble_eq_true rfl) dX0_copyRow_8 ?_
  refine lv_topi (fun v1 ev1 => ?_)
  obtain rfl : v1 = 210 := ev1.trans (by decide)
  refine va_copyi hx hb (by rw [hml]; exact hl.1.symm) hown (mm_h hts mm_w387) (mm_h hts mm_w388) (mm_h hts mm_w389) (mm_h hts mm_w390) hK.1 hP hD hS 0 1 1 1 rfl rfl rfl rfl rfl (by decide) (by decide) (by decide) (by decide) (by decide) (fun _ _ => rfl) (by rw [hRf]; exact Nat.le_of_ble_eq_true rfl) (by rw [hRl]; exact Nat.le_of_ble_eq_true rfl) dX0_copyRow_11 ?_
  clear hP hD hS
  clear H locs
  obtain ⟨g2, eg2⟩ : ∃ z : Nat → Int32, z = va_cpy f_0 f_1 (0 : Int32).toNatClampNeg (0 : Int32).toNatClampNeg (210 : Int32).toNatClampNeg := ⟨_, rfl⟩
  rw [← eg2]
  intro H locs (hP : va_P G vwCl [(a_0, .inl (cy 1, 210, .inl f_0)), (a_1, .inl (cy 1, 210, .inl g2))] H) (hD : va_D A [(a_0, .inl (cy 1, 210, .inl f_0)), (a_1, .inl (cy 1, 210, .inl g2))]) hS
  have rg2 : mm_ar g2 0 9 := by rw [eg2]; exact mm_ar_cpy (mm_ar_wk h0 (by decide)) (mm_ar_wk h1 (by decide)) _ _ _
  have hq := mm_recont hP hD 1 rfl (g := f_0) (by rw [eg2]; exact mm_cpyF (by decide))
  replace hP := hq.1
  replace hD := hq.2
  clear hq
  replace hP : va_P G vwCl [(a_0, .inl (cy 1, 210, .inl f_0)), (a_1, .inl (cy 1, 210, .inl f_0))] H := hP
  replace hD : va_D A [(a_0, .inl (cy 1, 210, .inl f_0)), (a_1, .inl (cy 1, 210, .inl f_0))] := hD
  subst hAe
  rw [hQ]
  exact W.vret hx hb hr (fun t ht hW => ⟨⟨(), rfl, trivial, by rw [ht]; exact hP, hK.warm hW, hD⟩, hS.F ht⟩) hS.2.2 dX0_copyRow_14

set_option maxHeartbeats 4000000 in
set_option maxRecDepth 100000 in
theorem K326_X0_copyRow (l : Launch) (G : va_G) (cy : Nat → ClassId) (sz : Nat) (a_0 : Nat) (a_1 : Nat) (f_0 : Nat → Int32) (f_1 : Nat → Int32) (h0 : mm_ar f_0 0 8) (h1 : mm_ar f_1 0 8)  : mm_CV l yX0_copyRow (mm_ws yX0_copyRow cX0_copyRow 2 (none)) ({ frames := 1, cells := 0, slots := 0, locals := 64 } : Room) G cy sz [(a_0, .inl (cy 1, 6, .inl f_0)), (a_1, .inl (cy 1, 6, .inl f_1))] [.ref a_0, .ref a_1] (fun u : Unit => [(a_0, .inl (cy 1, 6, .inl f_0)), (a_1, .inl (cy 1, 6, .inl f_0))]) (fun u : Unit => True) 0 0 := by
  refine mm_begin (lv := [(0, .ref a_0), (1, .ref a_1)]) (by decide) (Nat.le_of_ble_eq_true rfl) rfl ?_
  intro p e s m below meth c A ls R args Q H locs hRe hQ hAe hx hb hr hlocks hml hown hnm hts hsz hA hS hP hK hD hZ hl
  have hRf : R.frames = 1 := by rw [hRe]
  have hRl : R.locals = 64 := by rw [hRe]
  have hRc : R.cells = 0 := by rw [hRe]
  have hRs : R.slots = 0 := by rw [hRe]
  refine lv_aload_n hx hb dX0_copyRow_0 rfl (lv_at hl 0 rfl) ?_
  refine lv_iconst (v := 0) hx hb dX0_copyRow_1 (by decide) ?_
  refine lv_aload_n hx hb dX0_copyRow_2 rfl (lv_at hl 1 rfl) ?_
  refine lv_iconst (v := 0) hx hb dX0_copyRow_3 (by decide) ?_
  refine lv_aload_n hx hb dX0_copyRow_4 rfl (lv_at hl 0 rfl) ?_
  refine va_alen (v := 6) hx hb hK.1 hP 0 1 rfl rfl rfl dX0_copyRow_5 ?_
  refine lv_aload_n hx hb dX0_copyRow_6 rfl (lv_at hl 1 rfl) ?_
  refine va_alen (v := 6) hx hb hK.1 hP 1 1 rfl rfl rfl dX0_copyRow_7 ?_
  refine va_mmin hx hb (by rw [hml]; exact hl.1.symm) hown (mm_h hts mm_w384) (mm_h hts mm_w385) (mm_h hts mm_w346) (mm_h hts mm_w386) (by rw [hRf]; exact Nat.le_of_ble_eq_true rfl) (by rw [hRl]; exact Nat.le_of_ble_eq_true rfl) (by rw [hRc]; exact Nat.le_of_ble_eq_true rfl) (by rw [hRs]; exact Nat.le_of_ble_eq_true rfl) dX0_copyRow_8 ?_
  refine lv_topi (fun v1 ev1 => ?_)
  obtain rfl : v1 = 6 := ev1.trans (by decide)
  refine va_copyi hx hb (by rw [hml]; exact hl.1.symm) hown (mm_h hts mm_w387) (mm_h hts mm_w388) (mm_h hts mm_w389) (mm_h hts mm_w390) hK.1 hP hD hS 0 1 1 1 rfl rfl rfl rfl rfl (by decide) (by decide) (by decide) (by decide) (by decide) (fun _ _ => rfl) (by rw [hRf]; exact Nat.le_of_ble_eq_true rfl) (by rw [hRl]; exact Nat.le_of_ble_eq_true rfl) dX0_copyRow_11 ?_
  clear hP hD hS
  clear H locs
  obtain ⟨g2, eg2⟩ : ∃ z : Nat → Int32, z = va_cpy f_0 f_1 (0 : Int32).toNatClampNeg (0 : Int32).toNatClampNeg (6 : Int32).toNatClampNeg := ⟨_, rfl⟩
  rw [← eg2]
  intro H locs (hP : va_P G vwCl [(a_0, .inl (cy 1, 6, .inl f_0)), (a_1, .inl (cy 1, 6, .inl g2))] H) (hD : va_D A [(a_0, .inl (cy 1, 6, .inl f_0)), (a_1, .inl (cy 1, 6, .inl g2))]) hS
  have rg2 : mm_ar g2 0 8 := by rw [eg2]; exact mm_ar_cpy (mm_ar_wk h0 (by decide)) (mm_ar_wk h1 (by decide)) _ _ _
  have hq := mm_recont hP hD 1 rfl (g := f_0) (by rw [eg2]; exact mm_cpyF (by decide))
  replace hP := hq.1
  replace hD := hq.2
  clear hq
  replace hP : va_P G vwCl [(a_0, .inl (cy 1, 6, .inl f_0)), (a_1, .inl (cy 1, 6, .inl f_0))] H := hP
  replace hD : va_D A [(a_0, .inl (cy 1, 6, .inl f_0)), (a_1, .inl (cy 1, 6, .inl f_0))] := hD
  subst hAe
  rw [hQ]
  exact W.vret hx hb hr (fun t ht hW => ⟨⟨(), rfl, trivial, by rw [ht]; exact hP, hK.warm hW, hD⟩, hS.F ht⟩) hS.2.2 dX0_copyRow_14

set_option maxHeartbeats 4000000 in
set_option maxRecDepth 100000 in
theorem K327_X0_copyRow (l : Launch) (G : va_G) (cy : Nat → ClassId) (sz : Nat) (a_0 : Nat) (a_1 : Nat) (f_0 : Nat → Int32) (f_1 : Nat → Int32) (h0 : mm_ar f_0 0 9) (h1 : mm_ar f_1 0 9)  : mm_CV l yX0_copyRow (mm_ws yX0_copyRow cX0_copyRow 2 (none)) ({ frames := 1, cells := 0, slots := 0, locals := 64 } : Room) G cy sz [(a_0, .inl (cy 1, 48, .inl f_0)), (a_1, .inl (cy 1, 48, .inl f_1))] [.ref a_0, .ref a_1] (fun u : Unit => [(a_0, .inl (cy 1, 48, .inl f_0)), (a_1, .inl (cy 1, 48, .inl f_0))]) (fun u : Unit => True) 0 0 := by
  refine mm_begin (lv := [(0, .ref a_0), (1, .ref a_1)]) (by decide) (Nat.le_of_ble_eq_true rfl) rfl ?_
  intro p e s m below meth c A ls R args Q H locs hRe hQ hAe hx hb hr hlocks hml hown hnm hts hsz hA hS hP hK hD hZ hl
  have hRf : R.frames = 1 := by rw [hRe]
  have hRl : R.locals = 64 := by rw [hRe]
  have hRc : R.cells = 0 := by rw [hRe]
  have hRs : R.slots = 0 := by rw [hRe]
  refine lv_aload_n hx hb dX0_copyRow_0 rfl (lv_at hl 0 rfl) ?_
  refine lv_iconst (v := 0) hx hb dX0_copyRow_1 (by decide) ?_
  refine lv_aload_n hx hb dX0_copyRow_2 rfl (lv_at hl 1 rfl) ?_
  refine lv_iconst (v := 0) hx hb dX0_copyRow_3 (by decide) ?_
  refine lv_aload_n hx hb dX0_copyRow_4 rfl (lv_at hl 0 rfl) ?_
  refine va_alen (v := 48) hx hb hK.1 hP 0 1 rfl rfl rfl dX0_copyRow_5 ?_
  refine lv_aload_n hx hb dX0_copyRow_6 rfl (lv_at hl 1 rfl) ?_
  refine va_alen (v := 48) hx hb hK.1 hP 1 1 rfl rfl rfl dX0_copyRow_7 ?_
  refine va_mmin hx hb (by rw [hml]; exact hl.1.symm) hown (mm_h hts mm_w384) (mm_h hts mm_w385) (mm_h hts mm_w346) (mm_h hts mm_w386) (by rw [hRf]; exact Nat.le_of_ble_eq_true rfl) (by rw [hRl]; exact Nat.le_of_ble_eq_true rfl) (by rw [hRc]; exact Nat.le_of_ble_eq_true rfl) (by rw [hRs]; exact Nat.le_of_ble_eq_true rfl) dX0_copyRow_8 ?_
  refine lv_topi (fun v1 ev1 => ?_)
  obtain rfl : v1 = 48 := ev1.trans (by decide)
  refine va_copyi hx hb (by rw [hml]; exact hl.1.symm) hown (mm_h hts mm_w387) (mm_h hts mm_w388) (mm_h hts mm_w389) (mm_h hts mm_w390) hK.1 hP hD hS 0 1 1 1 rfl rfl rfl rfl rfl (by decide) (by decide) (by decide) (by decide) (by decide) (fun _ _ => rfl) (by rw [hRf]; exact Nat.le_of_ble_eq_true rfl) (by rw [hRl]; exact Nat.le_of_ble_eq_true rfl) dX0_copyRow_11 ?_
  clear hP hD hS
  clear H locs
  obtain ⟨g2, eg2⟩ : ∃ z : Nat → Int32, z = va_cpy f_0 f_1 (0 : Int32).toNatClampNeg (0 : Int32).toNatClampNeg (48 : Int32).toNatClampNeg := ⟨_, rfl⟩
  rw [← eg2]
  intro H locs (hP : va_P G vwCl [(a_0, .inl (cy 1, 48, .inl f_0)), (a_1, .inl (cy 1, 48, .inl g2))] H) (hD : va_D A [(a_0, .inl (cy 1, 48, .inl f_0)), (a_1, .inl (cy 1, 48, .inl g2))]) hS
  have rg2 : mm_ar g2 0 9 := by rw [eg2]; exact mm_ar_cpy (mm_ar_wk h0 (by decide)) (mm_ar_wk h1 (by decide)) _ _ _
  have hq := mm_recont hP hD 1 rfl (g := f_0) (by rw [eg2]; exact mm_cpyF (by decide))
  replace hP := hq.1
  replace hD := hq.2
  clear hq
  replace hP : va_P G vwCl [(a_0, .inl (cy 1, 48, .inl f_0)), (a_1, .inl (cy 1, 48, .inl f_0))] H := hP
  replace hD : va_D A [(a_0, .inl (cy 1, 48, .inl f_0)), (a_1, .inl (cy 1, 48, .inl f_0))] := hD
  subst hAe
  rw [hQ]
  exact W.vret hx hb hr (fun t ht hW => ⟨⟨(), rfl, trivial, by rw [ht]; exact hP, hK.warm hW, hD⟩, hS.F ht⟩) hS.2.2 dX0_copyRow_14

set_option maxHeartbeats 4000000 in
set_option maxRecDepth 100000 in
theorem K328_X0_copyRow (l : Launch) (G : va_G) (cy : Nat → ClassId) (sz : Nat) (a_0 : Nat) (a_1 : Nat) (f_0 : Nat → Int32) (f_1 : Nat → Int32) (h0 : mm_ar f_0 0 9) (h1 : mm_ar f_1 0 9)  : mm_CV l yX0_copyRow (mm_ws yX0_copyRow cX0_copyRow 2 (none)) ({ frames := 1, cells := 0, slots := 0, locals := 64 } : Room) G cy sz [(a_0, .inl (cy 1, 30, .inl f_0)), (a_1, .inl (cy 1, 30, .inl f_1))] [.ref a_0, .ref a_1] (fun u : Unit => [(a_0, .inl (cy 1, 30, .inl f_0)), (a_1, .inl (cy 1, 30, .inl f_0))]) (fun u : Unit => True) 0 0 := by
  refine mm_begin (lv := [(0, .ref a_0), (1, .ref a_1)]) (by decide) (Nat.le_of_ble_eq_true rfl) rfl ?_
  intro p e s m below meth c A ls R args Q H locs hRe hQ hAe hx hb hr hlocks hml hown hnm hts hsz hA hS hP hK hD hZ hl
  have hRf : R.frames = 1 := by rw [hRe]
  have hRl : R.locals = 64 := by rw [hRe]
  have hRc : R.cells = 0 := by rw [hRe]
  have hRs : R.slots = 0 := by rw [hRe]
  refine lv_aload_n hx hb dX0_copyRow_0 rfl (lv_at hl 0 rfl) ?_
  refine lv_iconst (v := 0) hx hb dX0_copyRow_1 (by decide) ?_
  refine lv_aload_n hx hb dX0_copyRow_2 rfl (lv_at hl 1 rfl) ?_
  refine lv_iconst (v := 0) hx hb dX0_copyRow_3 (by decide) ?_
  refine lv_aload_n hx hb dX0_copyRow_4 rfl (lv_at hl 0 rfl) ?_
  refine va_alen (v := 30) hx hb hK.1 hP 0 1 rfl rfl rfl dX0_copyRow_5 ?_
  refine lv_aload_n hx hb dX0_copyRow_6 rfl (lv_at hl 1 rfl) ?_
  refine va_alen (v := 30) hx hb hK.1 hP 1 1 rfl rfl rfl dX0_copyRow_7 ?_
  refine va_mmin hx hb (by rw [hml]; exact hl.1.symm) hown (mm_h hts mm_w384) (mm_h hts mm_w385) (mm_h hts mm_w346) (mm_h hts mm_w386) (by rw [hRf]; exact Nat.le_of_ble_eq_true rfl) (by rw [hRl]; exact Nat.le_of_ble_eq_true rfl) (by rw [hRc]; exact Nat.le_of_ble_eq_true rfl) (by rw [hRs]; exact Nat.le_of_ble_eq_true rfl) dX0_copyRow_8 ?_
  refine lv_topi (fun v1 ev1 => ?_)
  obtain rfl : v1 = 30 := ev1.trans (by decide)
  refine va_copyi hx hb (by rw [hml]; exact hl.1.symm) hown (mm_h hts mm_w387) (mm_h hts mm_w388) (mm_h hts mm_w389) (mm_h hts mm_w390) hK.1 hP hD hS 0 1 1 1 rfl rfl rfl rfl rfl (by decide) (by decide) (by decide) (by decide) (by decide) (fun _ _ => rfl) (by rw [hRf]; exact Nat.le_of_ble_eq_true rfl) (by rw [hRl]; exact Nat.le_of_ble_eq_true rfl) dX0_copyRow_11 ?_
  clear hP hD hS
  clear H locs
  obtain ⟨g2, eg2⟩ : ∃ z : Nat → Int32, z = va_cpy f_0 f_1 (0 : Int32).toNatClampNeg (0 : Int32).toNatClampNeg (30 : Int32).toNatClampNeg := ⟨_, rfl⟩
  rw [← eg2]
  intro H locs (hP : va_P G vwCl [(a_0, .inl (cy 1, 30, .inl f_0)), (a_1, .inl (cy 1, 30, .inl g2))] H) (hD : va_D A [(a_0, .inl (cy 1, 30, .inl f_0)), (a_1, .inl (cy 1, 30, .inl g2))]) hS
  have rg2 : mm_ar g2 0 9 := by rw [eg2]; exact mm_ar_cpy (mm_ar_wk h0 (by decide)) (mm_ar_wk h1 (by decide)) _ _ _
  have hq := mm_recont hP hD 1 rfl (g := f_0) (by rw [eg2]; exact mm_cpyF (by decide))
  replace hP := hq.1
  replace hD := hq.2
  clear hq
  replace hP : va_P G vwCl [(a_0, .inl (cy 1, 30, .inl f_0)), (a_1, .inl (cy 1, 30, .inl f_0))] H := hP
  replace hD : va_D A [(a_0, .inl (cy 1, 30, .inl f_0)), (a_1, .inl (cy 1, 30, .inl f_0))] := hD
  subst hAe
  rw [hQ]
  exact W.vret hx hb hr (fun t ht hW => ⟨⟨(), rfl, trivial, by rw [ht]; exact hP, hK.warm hW, hD⟩, hS.F ht⟩) hS.2.2 dX0_copyRow_14

set_option maxHeartbeats 4000000 in
set_option maxRecDepth 100000 in
theorem K329_X0_copyRow (l : Launch) (G : va_G) (cy : Nat → ClassId) (sz : Nat) (a_0 : Nat) (a_1 : Nat) (f_0 : Nat → Int32) (f_1 : Nat → Int32) (h0 : mm_ar f_0 (-1) 2) (h1 : mm_ar f_1 (-1) 2)  : mm_CV l yX0_copyRow (mm_ws yX0_copyRow cX0_copyRow 2 (none)) ({ frames := 1, cells := 0, slots := 0, locals := 64 } : Room) G cy sz [(a_0, .inl (cy 1, 30, .inl f_0)), (a_1, .inl (cy 1, 30, .inl f_1))] [.ref a_0, .ref a_1] (fun u : Unit => [(a_0, .inl (cy 1, 30, .inl f_0)), (a_1, .inl (cy 1, 30, .inl f_0))]) (fun u : Unit => True) 0 0 := by
  refine mm_begin (lv := [(0, .ref a_0), (1, .ref a_1)]) (by decide) (Nat.le_of_ble_eq_true rfl) rfl ?_
  intro p e s m below meth c A ls R args Q H locs hRe hQ hAe hx hb hr hlocks hml hown hnm hts hsz hA hS hP hK hD hZ hl
  have hRf : R.frames = 1 := by rw [hRe]
  have hRl : R.locals = 64 := by rw [hRe]
  have hRc : R.cells = 0 := by rw [hRe]
  have hRs : R.slots = 0 := by rw [hRe]
  refine lv_aload_n hx hb dX0_copyRow_0 rfl (lv_at hl 0 rfl) ?_
  refine lv_iconst (v := 0) hx hb dX0_copyRow_1 (by decide) ?_
  refine lv_aload_n hx hb dX0_copyRow_2 rfl (lv_at hl 1 rfl) ?_
  refine lv_iconst (v := 0) hx hb dX0_copyRow_3 (by decide) ?_
  refine lv_aload_n hx hb dX0_copyRow_4 rfl (lv_at hl 0 rfl) ?_
  refine va_alen (v := 30) hx hb hK.1 hP 0 1 rfl rfl rfl dX0_copyRow_5 ?_
  refine lv_aload_n hx hb dX0_copyRow_6 rfl (lv_at hl 1 rfl) ?_
  refine va_alen (v := 30) hx hb hK.1 hP 1 1 rfl rfl rfl dX0_copyRow_7 ?_
  refine va_mmin hx hb (by rw [hml]; exact hl.1.symm) hown (mm_h hts mm_w384) (mm_h hts mm_w385) (mm_h hts mm_w346) (mm_h hts mm_w386) (by rw [hRf]; exact Nat.le_of_ble_eq_true rfl) (by rw [hRl]; exact Nat.le_of_ble_eq_true rfl) (by rw [hRc]; exact Nat.le_of_ble_eq_true rfl) (by rw [hRs]; exact Nat.le_of_ble_eq_true rfl) dX0_copyRow_8 ?_
  refine lv_topi (fun v1 ev1 => ?_)
  obtain rfl : v1 = 30 := ev1.trans (by decide)
  refine va_copyi hx hb (by rw [hml]; exact hl.1.symm) hown (mm_h hts mm_w387) (mm_h hts mm_w388) (mm_h hts mm_w389) (mm_h hts mm_w390) hK.1 hP hD hS 0 1 1 1 rfl rfl rfl rfl rfl (by decide) (by decide) (by decide) (by decide) (by decide) (fun _ _ => rfl) (by rw [hRf]; exact Nat.le_of_ble_eq_true rfl) (by rw [hRl]; exact Nat.le_of_ble_eq_true rfl) dX0_copyRow_11 ?_
  clear hP hD hS
  clear H locs
  obtain ⟨g2, eg2⟩ : ∃ z : Nat → Int32, z = va_cpy f_0 f_1 (0 : Int32).toNatClampNeg (0 : Int32).toNatClampNeg (30 : Int32).toNatClampNeg := ⟨_, rfl⟩
  rw [← eg2]
  intro H locs (hP : va_P G vwCl [(a_0, .inl (cy 1, 30, .inl f_0)), (a_1, .inl (cy 1, 30, .inl g2))] H) (hD : va_D A [(a_0, .inl (cy 1, 30, .inl f_0)), (a_1, .inl (cy 1, 30, .inl g2))]) hS
  have rg2 : mm_ar g2 (-1) 2 := by rw [eg2]; exact mm_ar_cpy (mm_ar_wk h0 (by decide)) (mm_ar_wk h1 (by decide)) _ _ _
  have hq := mm_recont hP hD 1 rfl (g := f_0) (by rw [eg2]; exact mm_cpyF (by decide))
  replace hP := hq.1
  replace hD := hq.2
  clear hq
  replace hP : va_P G vwCl [(a_0, .inl (cy 1, 30, .inl f_0)), (a_1, .inl (cy 1, 30, .inl f_0))] H := hP
  replace hD : va_D A [(a_0, .inl (cy 1, 30, .inl f_0)), (a_1, .inl (cy 1, 30, .inl f_0))] := hD
  subst hAe
  rw [hQ]
  exact W.vret hx hb hr (fun t ht hW => ⟨⟨(), rfl, trivial, by rw [ht]; exact hP, hK.warm hW, hD⟩, hS.F ht⟩) hS.2.2 dX0_copyRow_14

set_option maxHeartbeats 4000000 in
set_option maxRecDepth 100000 in
theorem K330_X0_copyRow (l : Launch) (G : va_G) (cy : Nat → ClassId) (sz : Nat) (a_0 : Nat) (a_1 : Nat) (f_0 : Nat → Int32) (f_1 : Nat → Int32) (h0 : mm_ar f_0 0 99) (h1 : mm_ar f_1 0 99)  : mm_CV l yX0_copyRow (mm_ws yX0_copyRow cX0_copyRow 2 (none)) ({ frames := 1, cells := 0, slots := 0, locals := 64 } : Room) G cy sz [(a_0, .inl (cy 1, 30, .inl f_0)), (a_1, .inl (cy 1, 30, .inl f_1))] [.ref a_0, .ref a_1] (fun u : Unit => [(a_0, .inl (cy 1, 30, .inl f_0)), (a_1, .inl (cy 1, 30, .inl f_0))]) (fun u : Unit => True) 0 0 := by
  refine mm_begin (lv := [(0, .ref a_0), (1, .ref a_1)]) (by decide) (Nat.le_of_ble_eq_true rfl) rfl ?_
  intro p e s m below meth c A ls R args Q H locs hRe hQ hAe hx hb hr hlocks hml hown hnm hts hsz hA hS hP hK hD hZ hl
  have hRf : R.frames = 1 := by rw [hRe]
  have hRl : R.locals = 64 := by rw [hRe]
  have hRc : R.cells = 0 := by rw [hRe]
  have hRs : R.slots = 0 := by rw [hRe]
  refine lv_aload_n hx hb dX0_copyRow_0 rfl (lv_at hl 0 rfl) ?_
  refine lv_iconst (v := 0) hx hb dX0_copyRow_1 (by decide) ?_
  refine lv_aload_n hx hb dX0_copyRow_2 rfl (lv_at hl 1 rfl) ?_
  refine lv_iconst (v := 0) hx hb dX0_copyRow_3 (by decide) ?_
  refine lv_aload_n hx hb dX0_copyRow_4 rfl (lv_at hl 0 rfl) ?_
  refine va_alen (v := 30) hx hb hK.1 hP 0 1 rfl rfl rfl dX0_copyRow_5 ?_
  refine lv_aload_n hx hb dX0_copyRow_6 rfl (lv_at hl 1 rfl) ?_
  refine va_alen (v := 30) hx hb hK.1 hP 1 1 rfl rfl rfl dX0_copyRow_7 ?_
  refine va_mmin hx hb (by rw [hml]; exact hl.1.symm) hown (mm_h hts mm_w384) (mm_h hts mm_w385) (mm_h hts mm_w346) (mm_h hts mm_w386) (by rw [hRf]; exact Nat.le_of_ble_eq_true rfl) (by rw [hRl]; exact Nat.le_of_ble_eq_true rfl) (by rw [hRc]; exact Nat.le_of_ble_eq_true rfl) (by rw [hRs]; exact Nat.le_of_ble_eq_true rfl) dX0_copyRow_8 ?_
  refine lv_topi (fun v1 ev1 => ?_)
  obtain rfl : v1 = 30 := ev1.trans (by decide)
  refine va_copyi hx hb (by rw [hml]; exact hl.1.symm) hown (mm_h hts mm_w387) (mm_h hts mm_w388) (mm_h hts mm_w389) (mm_h hts mm_w390) hK.1 hP hD hS 0 1 1 1 rfl rfl rfl rfl rfl (by decide) (by decide) (by decide) (by decide) (by decide) (fun _ _ => rfl) (by rw [hRf]; exact Nat.le_of_ble_eq_true rfl) (by rw [hRl]; exact Nat.le_of_ble_eq_true rfl) dX0_copyRow_11 ?_
  clear hP hD hS
  clear H locs
  obtain ⟨g2, eg2⟩ : ∃ z : Nat → Int32, z = va_cpy f_0 f_1 (0 : Int32).toNatClampNeg (0 : Int32).toNatClampNeg (30 : Int32).toNatClampNeg := ⟨_, rfl⟩
  rw [← eg2]
  intro H locs (hP : va_P G vwCl [(a_0, .inl (cy 1, 30, .inl f_0)), (a_1, .inl (cy 1, 30, .inl g2))] H) (hD : va_D A [(a_0, .inl (cy 1, 30, .inl f_0)), (a_1, .inl (cy 1, 30, .inl g2))]) hS
  have rg2 : mm_ar g2 0 99 := by rw [eg2]; exact mm_ar_cpy (mm_ar_wk h0 (by decide)) (mm_ar_wk h1 (by decide)) _ _ _
  have hq := mm_recont hP hD 1 rfl (g := f_0) (by rw [eg2]; exact mm_cpyF (by decide))
  replace hP := hq.1
  replace hD := hq.2
  clear hq
  replace hP : va_P G vwCl [(a_0, .inl (cy 1, 30, .inl f_0)), (a_1, .inl (cy 1, 30, .inl f_0))] H := hP
  replace hD : va_D A [(a_0, .inl (cy 1, 30, .inl f_0)), (a_1, .inl (cy 1, 30, .inl f_0))] := hD
  subst hAe
  rw [hQ]
  exact W.vret hx hb hr (fun t ht hW => ⟨⟨(), rfl, trivial, by rw [ht]; exact hP, hK.warm hW, hD⟩, hS.F ht⟩) hS.2.2 dX0_copyRow_14

set_option maxHeartbeats 4000000 in
set_option maxRecDepth 100000 in
theorem K331_X0_copyFrom (l : Launch) (G : va_G) (cy : Nat → ClassId) (sz : Nat) (a_0 : Nat) (a_1 : Nat) (i_0 : Int32) (i_1 : Int32) (i_2 : Int32) (i_3 : Int32) (i_4 : Int32) (i_5 : Int32) (i_6 : Int32) (i_7 : Int32) (a_2 : Nat) (a_3 : Nat) (a_4 : Nat) (a_5 : Nat) (a_6 : Nat) (a_7 : Nat) (a_8 : Nat) (a_9 : Nat) (a_10 : Nat) (a_11 : Nat) (f_0 : Nat → Int32) (f_1 : Nat → Int32) (f_2 : Nat → Int32) (f_3 : Nat → Int32) (f_4 : Nat → Int32) (f_5 : Nat → Int32) (f_6 : Nat → Int32) (f_7 : Nat → Int32) (f_8 : Nat → Int32) (f_9 : Nat → Int32) (i_8 : Int32) (i_9 : Int32) (i_10 : Int32) (i_11 : Int32) (i_12 : Int32) (i_13 : Int32) (i_14 : Int32) (i_15 : Int32) (a_12 : Nat) (a_13 : Nat) (a_14 : Nat) (a_15 : Nat) (a_16 : Nat) (a_17 : Nat) (a_18 : Nat) (a_19 : Nat) (a_20 : Nat) (a_21 : Nat) (f_10 : Nat → Int32) (f_11 : Nat → Int32) (f_12 : Nat → Int32) (f_13 : Nat → Int32) (f_14 : Nat → Int32) (f_15 : Nat → Int32) (f_16 : Nat → Int32) (f_17 : Nat → Int32) (f_18 : Nat → Int32) (f_19 : Nat → Int32) (h0 : mm_rg i_1 0 10) (h1 : mm_rg i_2 0 99) (h2 : mm_rg i_3 0 99) (h3 : mm_rg i_4 0 9) (h4 : mm_rg i_5 0 3) (h5 : mm_rg i_6 0 6) (h6 : mm_rg i_7 0 30) (h7 : mm_ar f_0 (-1) 4) (h8 : mm_ar f_1 0 99) (h9 : mm_ar f_2 0 7) (h10 : mm_ar f_3 0 9) (h11 : mm_ar f_4 0 8) (h12 : mm_ar f_5 0 9) (h13 : mm_ar f_6 0 9) (h14 : mm_ar f_7 (-1) 2) (h15 : mm_ar f_8 0 99) (h16 : mm_ar f_9 0 9) (h17 : mm_rg i_9 0 10) (h18 : mm_rg i_10 0 99) (h19 : mm_rg i_11 0 99) (h20 : mm_rg i_12 0 9) (h21 : mm_rg i_13 0 3) (h22 : mm_rg i_14 0 6) (h23 : mm_rg i_15 0 30) (h24 : mm_ar f_10 (-1) 4) (h25 : mm_ar f_11 0 99) (h26 : mm_ar f_12 0 7) (h27 : mm_ar f_13 0 9) (h28 : mm_ar f_14 0 8) (h29 : mm_ar f_15 0 9) (h30 : mm_ar f_16 0 9) (h31 : mm_ar f_17 (-1) 2) (h32 : mm_ar f_18 0 99) (h33 : mm_ar f_19 0 9) (h34 : mm_act f_7 f_8) (h35 : mm_act f_17 f_18)  : mm_CV l yX0_copyFrom (mm_ws yX0_copyFrom cX0_copyFrom 2 (none)) ({ frames := 2, cells := 0, slots := 0, locals := 85 } : Room) G cy sz [(a_1, .inr (0, [.int i_0, .int i_1, .int i_2, .int i_3, .int i_4, .int i_5, .int i_6, .int i_7, .ref a_2, .ref a_3, .ref a_4, .ref a_5, .ref a_6, .ref a_7, .ref a_8, .ref a_9, .ref a_10, .ref a_11])), (a_2, .inl (cy 1, 9, .inl f_0)), (a_3, .inl (cy 1, 9, .inl f_1)), (a_4, .inl (cy 1, 3, .inl f_2)), (a_5, .inl (cy 1, 210, .inl f_3)), (a_6, .inl (cy 1, 6, .inl f_4)), (a_7, .inl (cy 1, 48, .inl f_5)), (a_8, .inl (cy 1, 30, .inl f_6)), (a_9, .inl (cy 1, 30, .inl f_7)), (a_10, .inl (cy 1, 30, .inl f_8)), (a_11, .inl (cy 1, 30, .inl f_9)), (a_0, .inr (0, [.int i_8, .int i_9, .int i_10, .int i_11, .int i_12, .int i_13, .int i_14, .int i_15, .ref a_12, .ref a_13, .ref a_14, .ref a_15, .ref a_16, .ref a_17, .ref a_18, .ref a_19, .ref a_20, .ref a_21])), (a_12, .inl (cy 1, 9, .inl f_10)), (a_13, .inl (cy 1, 9, .inl f_11)), (a_14, .inl (cy 1, 3, .inl f_12)), (a_15, .inl (cy 1, 210, .inl f_13)), (a_16, .inl (cy 1, 6, .inl f_14)), (a_17, .inl (cy 1, 48, .inl f_15)), (a_18, .inl (cy 1, 30, .inl f_16)), (a_19, .inl (cy 1, 30, .inl f_17)), (a_20, .inl (cy 1, 30, .inl f_18)), (a_21, .inl (cy 1, 30, .inl f_19))] [.ref a_0, .ref a_1] (fun u : Unit => [(a_1, .inr (0, [.int i_0, .int i_1, .int i_2, .int i_3, .int i_4, .int i_5, .int i_6, .int i_7, .ref a_2, .ref a_3, .ref a_4, .ref a_5, .ref a_6, .ref a_7, .ref a_8, .ref a_9, .ref a_10, .ref a_11])), (a_2, .inl (cy 1, 9, .inl f_0)), (a_3, .inl (cy 1, 9, .inl f_1)), (a_4, .inl (cy 1, 3, .inl f_2)), (a_5, .inl (cy 1, 210, .inl f_3)), (a_6, .inl (cy 1, 6, .inl f_4)), (a_7, .inl (cy 1, 48, .inl f_5)), (a_8, .inl (cy 1, 30, .inl f_6)), (a_9, .inl (cy 1, 30, .inl f_7)), (a_10, .inl (cy 1, 30, .inl f_8)), (a_11, .inl (cy 1, 30, .inl f_9)), (a_0, .inr (0, [.int i_0, .int i_1, .int i_2, .int i_3, .int i_4, .int i_5, .int i_6, .int i_7, .ref a_12, .ref a_13, .ref a_14, .ref a_15, .ref a_16, .ref a_17, .ref a_18, .ref a_19, .ref a_20, .ref a_21])), (a_12, .inl (cy 1, 9, .inl f_0)), (a_13, .inl (cy 1, 9, .inl f_1)), (a_14, .inl (cy 1, 3, .inl f_2)), (a_15, .inl (cy 1, 210, .inl f_3)), (a_16, .inl (cy 1, 6, .inl f_4)), (a_17, .inl (cy 1, 48, .inl f_5)), (a_18, .inl (cy 1, 30, .inl f_6)), (a_19, .inl (cy 1, 30, .inl f_7)), (a_20, .inl (cy 1, 30, .inl f_8)), (a_21, .inl (cy 1, 30, .inl f_9))]) (fun u : Unit => True) 0 0 := by
  refine mm_begin (lv := [(0, .ref a_0), (1, .ref a_1)]) (by decide) (Nat.le_of_ble_eq_true rfl) rfl ?_
  intro p e s m below meth c A ls R args Q H locs hRe hQ hAe hx hb hr hlocks hml hown hnm hts hsz hA hS hP hK hD hZ hl
  have hRf : R.frames = 2 := by rw [hRe]
  have hRl : R.locals = 85 := by rw [hRe]
  have hRc : R.cells = 0 := by rw [hRe]
  have hRs : R.slots = 0 := by rw [hRe]
  refine lv_aload_n hx hb dX0_copyFrom_0 rfl (lv_at hl 0 rfl) ?_
  refine lv_aload_n hx hb dX0_copyFrom_1 rfl (lv_at hl 1 rfl) ?_
  refine va_get (D := G) (ci := 0) (v := .int i_0) (C := RX0) (T := TX0) (N := 18) hx hb hts (mm_i inlX0) hown hK.1 hP 0 rfl rfl 0 (by decide) (mm_h hts mm_w215) (fun _ h9 => h9) rfl dX0_copyFrom_2 ?_
  refine va_put (D := G) (ci := 0) (v := .int i_0) (ty := tyX0 0) (C := RX0) (T := TX0) (N := 18) hx hb hts (mm_i inlX0) tyX0 tyX0_ok nmX0 hown hK.1 hP hD hS 11 rfl rfl 0 (by decide) (mm_h hts mm_w215) (fun _ h9 => h9) rfl (tyX0_ok 0 (by decide)) rfl rfl (Nat.le_of_ble_eq_true rfl) dX0_copyFrom_5 ?_
  clear hP hD hS
  clear H locs
  intro H locs (hP : va_P G vwCl [(a_1, .inr (0, [.int i_0, .int i_1, .int i_2, .int i_3, .int i_4, .int i_5, .int i_6, .int i_7, .ref a_2, .ref a_3, .ref a_4, .ref a_5, .ref a_6, .ref a_7, .ref a_8, .ref a_9, .ref a_10, .ref a_11])), (a_2, .inl (cy 1, 9, .inl f_0)), (a_3, .inl (cy 1, 9, .inl f_1)), (a_4, .inl (cy 1, 3, .inl f_2)), (a_5, .inl (cy 1, 210, .inl f_3)), (a_6, .inl (cy 1, 6, .inl f_4)), (a_7, .inl (cy 1, 48, .inl f_5)), (a_8, .inl (cy 1, 30, .inl f_6)), (a_9, .inl (cy 1, 30, .inl f_7)), (a_10, .inl (cy 1, 30, .inl f_8)), (a_11, .inl (cy 1, 30, .inl f_9)), (a_0, .inr (0, [.int i_0, .int i_9, .int i_10, .int i_11, .int i_12, .int i_13, .int i_14, .int i_15, .ref a_12, .ref a_13, .ref a_14, .ref a_15, .ref a_16, .ref a_17, .ref a_18, .ref a_19, .ref a_20, .ref a_21])), (a_12, .inl (cy 1, 9, .inl f_10)), (a_13, .inl (cy 1, 9, .inl f_11)), (a_14, .inl (cy 1, 3, .inl f_12)), (a_15, .inl (cy 1, 210, .inl f_13)), (a_16, .inl (cy 1, 6, .inl f_14)), (a_17, .inl (cy 1, 48, .inl f_15)), (a_18, .inl (cy 1, 30, .inl f_16)), (a_19, .inl (cy 1, 30, .inl f_17)), (a_20, .inl (cy 1, 30, .inl f_18)), (a_21, .inl (cy 1, 30, .inl f_19))] H) (hD : va_D A [(a_1, .inr (0, [.int i_0, .int i_1, .int i_2, .int i_3, .int i_4, .int i_5, .int i_6, .int i_7, .ref a_2, .ref a_3, .ref a_4, .ref a_5, .ref a_6, .ref a_7, .ref a_8, .ref a_9, .ref a_10, .ref a_11])), (a_2, .inl (cy 1, 9, .inl f_0)), (a_3, .inl (cy 1, 9, .inl f_1)), (a_4, .inl (cy 1, 3, .inl f_2)), (a_5, .inl (cy 1, 210, .inl f_3)), (a_6, .inl (cy 1, 6, .inl f_4)), (a_7, .inl (cy 1, 48, .inl f_5)), (a_8, .inl (cy 1, 30, .inl f_6)), (a_9, .inl (cy 1, 30, .inl f_7)), (a_10, .inl (cy 1, 30, .inl f_8)), (a_11, .inl (cy 1, 30, .inl f_9)), (a_0, .inr (0, [.int i_0, .int i_9, .int i_10, .int i_11, .int i_12, .int i_13, .int i_14, .int i_15, .ref a_12, .ref a_13, .ref a_14, .ref a_15, .ref a_16, .ref a_17, .ref a_18, .ref a_19, .ref a_20, .ref a_21])), (a_12, .inl (cy 1, 9, .inl f_10)), (a_13, .inl (cy 1, 9, .inl f_11)), (a_14, .inl (cy 1, 3, .inl f_12)), (a_15, .inl (cy 1, 210, .inl f_13)), (a_16, .inl (cy 1, 6, .inl f_14)), (a_17, .inl (cy 1, 48, .inl f_15)), (a_18, .inl (cy 1, 30, .inl f_16)), (a_19, .inl (cy 1, 30, .inl f_17)), (a_20, .inl (cy 1, 30, .inl f_18)), (a_21, .inl (cy 1, 30, .inl f_19))]) hS
  refine lv_aload_n hx hb dX0_copyFrom_8 rfl (lv_at hl 0 rfl) ?_
  refine lv_aload_n hx hb dX0_copyFrom_9 rfl (lv_at hl 1 rfl) ?_
  refine va_get (D := G) (ci := 0) (v := .int i_1) (C := RX0) (T := TX0) (N := 18) hx hb hts (mm_i inlX0) hown hK.1 hP 0 rfl rfl 1 (by decide) (mm_h hts mm_w216) (fun _ h9 => h9) rfl dX0_copyFrom_10 ?_
  refine va_put (D := G) (ci := 0) (v := .int i_1) (ty := tyX0 1) (C := RX0) (T := TX0) (N := 18) hx hb hts (mm_i inlX0) tyX0 tyX0_ok nmX0 hown hK.1 hP hD hS 11 rfl rfl 1 (by decide) (mm_h hts mm_w216) (fun _ h9 => h9) rfl (tyX0_ok 1 (by decide)) rfl rfl (Nat.le_of_ble_eq_true rfl) dX0_copyFrom_13 ?_
  clear hP hD hS
  clear H locs
  intro H locs (hP : va_P G vwCl [(a_1, .inr (0, [.int i_0, .int i_1, .int i_2, .int i_3, .int i_4, .int i_5, .int i_6, .int i_7, .ref a_2, .ref a_3, .ref a_4, .ref a_5, .ref a_6, .ref a_7, .ref a_8, .ref a_9, .ref a_10, .ref a_11])), (a_2, .inl (cy 1, 9, .inl f_0)), (a_3, .inl (cy 1, 9, .inl f_1)), (a_4, .inl (cy 1, 3, .inl f_2)), (a_5, .inl (cy 1, 210, .inl f_3)), (a_6, .inl (cy 1, 6, .inl f_4)), (a_7, .inl (cy 1, 48, .inl f_5)), (a_8, .inl (cy 1, 30, .inl f_6)), (a_9, .inl (cy 1, 30, .inl f_7)), (a_10, .inl (cy 1, 30, .inl f_8)), (a_11, .inl (cy 1, 30, .inl f_9)), (a_0, .inr (0, [.int i_0, .int i_1, .int i_10, .int i_11, .int i_12, .int i_13, .int i_14, .int i_15, .ref a_12, .ref a_13, .ref a_14, .ref a_15, .ref a_16, .ref a_17, .ref a_18, .ref a_19, .ref a_20, .ref a_21])), (a_12, .inl (cy 1, 9, .inl f_10)), (a_13, .inl (cy 1, 9, .inl f_11)), (a_14, .inl (cy 1, 3, .inl f_12)), (a_15, .inl (cy 1, 210, .inl f_13)), (a_16, .inl (cy 1, 6, .inl f_14)), (a_17, .inl (cy 1, 48, .inl f_15)), (a_18, .inl (cy 1, 30, .inl f_16)), (a_19, .inl (cy 1, 30, .inl f_17)), (a_20, .inl (cy 1, 30, .inl f_18)), (a_21, .inl (cy 1, 30, .inl f_19))] H) (hD : va_D A [(a_1, .inr (0, [.int i_0, .int i_1, .int i_2, .int i_3, .int i_4, .int i_5, .int i_6, .int i_7, .ref a_2, .ref a_3, .ref a_4, .ref a_5, .ref a_6, .ref a_7, .ref a_8, .ref a_9, .ref a_10, .ref a_11])), (a_2, .inl (cy 1, 9, .inl f_0)), (a_3, .inl (cy 1, 9, .inl f_1)), (a_4, .inl (cy 1, 3, .inl f_2)), (a_5, .inl (cy 1, 210, .inl f_3)), (a_6, .inl (cy 1, 6, .inl f_4)), (a_7, .inl (cy 1, 48, .inl f_5)), (a_8, .inl (cy 1, 30, .inl f_6)), (a_9, .inl (cy 1, 30, .inl f_7)), (a_10, .inl (cy 1, 30, .inl f_8)), (a_11, .inl (cy 1, 30, .inl f_9)), (a_0, .inr (0, [.int i_0, .int i_1, .int i_10, .int i_11, .int i_12, .int i_13, .int i_14, .int i_15, .ref a_12, .ref a_13, .ref a_14, .ref a_15, .ref a_16, .ref a_17, .ref a_18, .ref a_19, .ref a_20, .ref a_21])), (a_12, .inl (cy 1, 9, .inl f_10)), (a_13, .inl (cy 1, 9, .inl f_11)), (a_14, .inl (cy 1, 3, .inl f_12)), (a_15, .inl (cy 1, 210, .inl f_13)), (a_16, .inl (cy 1, 6, .inl f_14)), (a_17, .inl (cy 1, 48, .inl f_15)), (a_18, .inl (cy 1, 30, .inl f_16)), (a_19, .inl (cy 1, 30, .inl f_17)), (a_20, .inl (cy 1, 30, .inl f_18)), (a_21, .inl (cy 1, 30, .inl f_19))]) hS
  refine lv_aload_n hx hb dX0_copyFrom_16 rfl (lv_at hl 0 rfl) ?_
  refine lv_aload_n hx hb dX0_copyFrom_17 rfl (lv_at hl 1 rfl) ?_
  refine va_get (D := G) (ci := 0) (v := .int i_2) (C := RX0) (T := TX0) (N := 18) hx hb hts (mm_i inlX0) hown hK.1 hP 0 rfl rfl 2 (by decide) (mm_h hts mm_w217) (fun _ h9 => h9) rfl dX0_copyFrom_18 ?_
  refine va_put (D := G) (ci := 0) (v := .int i_2) (ty := tyX0 2) (C := RX0) (T := TX0) (N := 18) hx hb hts (mm_i inlX0) tyX0 tyX0_ok nmX0 hown hK.1 hP hD hS 11 rfl rfl 2 (by decide) (mm_h hts mm_w217) (fun _ h9 => h9) rfl (tyX0_ok 2 (by decide)) rfl rfl (Nat.le_of_ble_eq_true rfl) dX0_copyFrom_21 ?_
  clear hP hD hS
  clear H locs
  intro H locs (hP : va_P G vwCl [(a_1, .inr (0, [.int i_0, .int i_1, .int i_2, .int i_3, .int i_4, .int i_5, .int i_6, .int i_7, .ref a_2, .ref a_3, .ref a_4, .ref a_5, .ref a_6, .ref a_7, .ref a_8, .ref a_9, .ref a_10, .ref a_11])), (a_2, .inl (cy 1, 9, .inl f_0)), (a_3, .inl (cy 1, 9, .inl f_1)), (a_4, .inl (cy 1, 3, .inl f_2)), (a_5, .inl (cy 1, 210, .inl f_3)), (a_6, .inl (cy 1, 6, .inl f_4)), (a_7, .inl (cy 1, 48, .inl f_5)), (a_8, .inl (cy 1, 30, .inl f_6)), (a_9, .inl (cy 1, 30, .inl f_7)), (a_10, .inl (cy 1, 30, .inl f_8)), (a_11, .inl (cy 1, 30, .inl f_9)), (a_0, .inr (0, [.int i_0, .int i_1, .int i_2, .int i_11, .int i_12, .int i_13, .int i_14, .int i_15, .ref a_12, .ref a_13, .ref a_14, .ref a_15, .ref a_16, .ref a_17, .ref a_18, .ref a_19, .ref a_20, .ref a_21])), (a_12, .inl (cy 1, 9, .inl f_10)), (a_13, .inl (cy 1, 9, .inl f_11)), (a_14, .inl (cy 1, 3, .inl f_12)), (a_15, .inl (cy 1, 210, .inl f_13)), (a_16, .inl (cy 1, 6, .inl f_14)), (a_17, .inl (cy 1, 48, .inl f_15)), (a_18, .inl (cy 1, 30, .inl f_16)), (a_19, .inl (cy 1, 30, .inl f_17)), (a_20, .inl (cy 1, 30, .inl f_18)), (a_21, .inl (cy 1, 30, .inl f_19))] H) (hD : va_D A [(a_1, .inr (0, [.int i_0, .int i_1, .int i_2, .int i_3, .int i_4, .int i_5, .int i_6, .int i_7, .ref a_2, .ref a_3, .ref a_4, .ref a_5, .ref a_6, .ref a_7, .ref a_8, .ref a_9, .ref a_10, .ref a_11])), (a_2, .inl (cy 1, 9, .inl f_0)), (a_3, .inl (cy 1, 9, .inl f_1)), (a_4, .inl (cy 1, 3, .inl f_2)), (a_5, .inl (cy 1, 210, .inl f_3)), (a_6, .inl (cy 1, 6, .inl f_4)), (a_7, .inl (cy 1, 48, .inl f_5)), (a_8, .inl (cy 1, 30, .inl f_6)), (a_9, .inl (cy 1, 30, .inl f_7)), (a_10, .inl (cy 1, 30, .inl f_8)), (a_11, .inl (cy 1, 30, .inl f_9)), (a_0, .inr (0, [.int i_0, .int i_1, .int i_2, .int i_11, .int i_12, .int i_13, .int i_14, .int i_15, .ref a_12, .ref a_13, .ref a_14, .ref a_15, .ref a_16, .ref a_17, .ref a_18, .ref a_19, .ref a_20, .ref a_21])), (a_12, .inl (cy 1, 9, .inl f_10)), (a_13, .inl (cy 1, 9, .inl f_11)), (a_14, .inl (cy 1, 3, .inl f_12)), (a_15, .inl (cy 1, 210, .inl f_13)), (a_16, .inl (cy 1, 6, .inl f_14)), (a_17, .inl (cy 1, 48, .inl f_15)), (a_18, .inl (cy 1, 30, .inl f_16)), (a_19, .inl (cy 1, 30, .inl f_17)), (a_20, .inl (cy 1, 30, .inl f_18)), (a_21, .inl (cy 1, 30, .inl f_19))]) hS
  refine lv_aload_n hx hb dX0_copyFrom_24 rfl (lv_at hl 0 rfl) ?_
  refine lv_aload_n hx hb dX0_copyFrom_25 rfl (lv_at hl 1 rfl) ?_
  refine va_get (D := G) (ci := 0) (v := .int i_3) (C := RX0) (T := TX0) (N := 18) hx hb hts (mm_i inlX0) hown hK.1 hP 0 rfl rfl 3 (by decide) (mm_h hts mm_w218) (fun _ h9 => h9) rfl dX0_copyFrom_26 ?_
  refine va_put (D := G) (ci := 0) (v := .int i_3) (ty := tyX0 3) (C := RX0) (T := TX0) (N := 18) hx hb hts (mm_i inlX0) tyX0 tyX0_ok nmX0 hown hK.1 hP hD hS 11 rfl rfl 3 (by decide) (mm_h hts mm_w218) (fun _ h9 => h9) rfl (tyX0_ok 3 (by decide)) rfl rfl (Nat.le_of_ble_eq_true rfl) dX0_copyFrom_29 ?_
  clear hP hD hS
  clear H locs
  intro H locs (hP : va_P G vwCl [(a_1, .inr (0, [.int i_0, .int i_1, .int i_2, .int i_3, .int i_4, .int i_5, .int i_6, .int i_7, .ref a_2, .ref a_3, .ref a_4, .ref a_5, .ref a_6, .ref a_7, .ref a_8, .ref a_9, .ref a_10, .ref a_11])), (a_2, .inl (cy 1, 9, .inl f_0)), (a_3, .inl (cy 1, 9, .inl f_1)), (a_4, .inl (cy 1, 3, .inl f_2)), (a_5, .inl (cy 1, 210, .inl f_3)), (a_6, .inl (cy 1, 6, .inl f_4)), (a_7, .inl (cy 1, 48, .inl f_5)), (a_8, .inl (cy 1, 30, .inl f_6)), (a_9, .inl (cy 1, 30, .inl f_7)), (a_10, .inl (cy 1, 30, .inl f_8)), (a_11, .inl (cy 1, 30, .inl f_9)), (a_0, .inr (0, [.int i_0, .int i_1, .int i_2, .int i_3, .int i_12, .int i_13, .int i_14, .int i_15, .ref a_12, .ref a_13, .ref a_14, .ref a_15, .ref a_16, .ref a_17, .ref a_18, .ref a_19, .ref a_20, .ref a_21])), (a_12, .inl (cy 1, 9, .inl f_10)), (a_13, .inl (cy 1, 9, .inl f_11)), (a_14, .inl (cy 1, 3, .inl f_12)), (a_15, .inl (cy 1, 210, .inl f_13)), (a_16, .inl (cy 1, 6, .inl f_14)), (a_17, .inl (cy 1, 48, .inl f_15)), (a_18, .inl (cy 1, 30, .inl f_16)), (a_19, .inl (cy 1, 30, .inl f_17)), (a_20, .inl (cy 1, 30, .inl f_18)), (a_21, .inl (cy 1, 30, .inl f_19))] H) (hD : va_D A [(a_1, .inr (0, [.int i_0, .int i_1, .int i_2, .int i_3, .int i_4, .int i_5, .int i_6, .int i_7, .ref a_2, .ref a_3, .ref a_4, .ref a_5, .ref a_6, .ref a_7, .ref a_8, .ref a_9, .ref a_10, .ref a_11])), (a_2, .inl (cy 1, 9, .inl f_0)), (a_3, .inl (cy 1, 9, .inl f_1)), (a_4, .inl (cy 1, 3, .inl f_2)), (a_5, .inl (cy 1, 210, .inl f_3)), (a_6, .inl (cy 1, 6, .inl f_4)), (a_7, .inl (cy 1, 48, .inl f_5)), (a_8, .inl (cy 1, 30, .inl f_6)), (a_9, .inl (cy 1, 30, .inl f_7)), (a_10, .inl (cy 1, 30, .inl f_8)), (a_11, .inl (cy 1, 30, .inl f_9)), (a_0, .inr (0, [.int i_0, .int i_1, .int i_2, .int i_3, .int i_12, .int i_13, .int i_14, .int i_15, .ref a_12, .ref a_13, .ref a_14, .ref a_15, .ref a_16, .ref a_17, .ref a_18, .ref a_19, .ref a_20, .ref a_21])), (a_12, .inl (cy 1, 9, .inl f_10)), (a_13, .inl (cy 1, 9, .inl f_11)), (a_14, .inl (cy 1, 3, .inl f_12)), (a_15, .inl (cy 1, 210, .inl f_13)), (a_16, .inl (cy 1, 6, .inl f_14)), (a_17, .inl (cy 1, 48, .inl f_15)), (a_18, .inl (cy 1, 30, .inl f_16)), (a_19, .inl (cy 1, 30, .inl f_17)), (a_20, .inl (cy 1, 30, .inl f_18)), (a_21, .inl (cy 1, 30, .inl f_19))]) hS
  refine lv_aload_n hx hb dX0_copyFrom_32 rfl (lv_at hl 0 rfl) ?_
  refine lv_aload_n hx hb dX0_copyFrom_33 rfl (lv_at hl 1 rfl) ?_
  refine va_get (D := G) (ci := 0) (v := .int i_4) (C := RX0) (T := TX0) (N := 18) hx hb hts (mm_i inlX0) hown hK.1 hP 0 rfl rfl 4 (by decide) (mm_h hts mm_w219) (fun _ h9 => h9) rfl dX0_copyFrom_34 ?_
  refine va_put (D := G) (ci := 0) (v := .int i_4) (ty := tyX0 4) (C := RX0) (T := TX0) (N := 18) hx hb hts (mm_i inlX0) tyX0 tyX0_ok nmX0 hown hK.1 hP hD hS 11 rfl rfl 4 (by decide) (mm_h hts mm_w219) (fun _ h9 => h9) rfl (tyX0_ok 4 (by decide)) rfl rfl (Nat.le_of_ble_eq_true rfl) dX0_copyFrom_37 ?_
  clear hP hD hS
  clear H locs
  intro H locs (hP : va_P G vwCl [(a_1, .inr (0, [.int i_0, .int i_1, .int i_2, .int i_3, .int i_4, .int i_5, .int i_6, .int i_7, .ref a_2, .ref a_3, .ref a_4, .ref a_5, .ref a_6, .ref a_7, .ref a_8, .ref a_9, .ref a_10, .ref a_11])), (a_2, .inl (cy 1, 9, .inl f_0)), (a_3, .inl (cy 1, 9, .inl f_1)), (a_4, .inl (cy 1, 3, .inl f_2)), (a_5, .inl (cy 1, 210, .inl f_3)), (a_6, .inl (cy 1, 6, .inl f_4)), (a_7, .inl (cy 1, 48, .inl f_5)), (a_8, .inl (cy 1, 30, .inl f_6)), (a_9, .inl (cy 1, 30, .inl f_7)), (a_10, .inl (cy 1, 30, .inl f_8)), (a_11, .inl (cy 1, 30, .inl f_9)), (a_0, .inr (0, [.int i_0, .int i_1, .int i_2, .int i_3, .int i_4, .int i_13, .int i_14, .int i_15, .ref a_12, .ref a_13, .ref a_14, .ref a_15, .ref a_16, .ref a_17, .ref a_18, .ref a_19, .ref a_20, .ref a_21])), (a_12, .inl (cy 1, 9, .inl f_10)), (a_13, .inl (cy 1, 9, .inl f_11)), (a_14, .inl (cy 1, 3, .inl f_12)), (a_15, .inl (cy 1, 210, .inl f_13)), (a_16, .inl (cy 1, 6, .inl f_14)), (a_17, .inl (cy 1, 48, .inl f_15)), (a_18, .inl (cy 1, 30, .inl f_16)), (a_19, .inl (cy 1, 30, .inl f_17)), (a_20, .inl (cy 1, 30, .inl f_18)), (a_21, .inl (cy 1, 30, .inl f_19))] H) (hD : va_D A [(a_1, .inr (0, [.int i_0, .int i_1, .int i_2, .int i_3, .int i_4, .int i_5, .int i_6, .int i_7, .ref a_2, .ref a_3, .ref a_4, .ref a_5, .ref a_6, .ref a_7, .ref a_8, .ref a_9, .ref a_10, .ref a_11])), (a_2, .inl (cy 1, 9, .inl f_0)), (a_3, .inl (cy 1, 9, .inl f_1)), (a_4, .inl (cy 1, 3, .inl f_2)), (a_5, .inl (cy 1, 210, .inl f_3)), (a_6, .inl (cy 1, 6, .inl f_4)), (a_7, .inl (cy 1, 48, .inl f_5)), (a_8, .inl (cy 1, 30, .inl f_6)), (a_9, .inl (cy 1, 30, .inl f_7)), (a_10, .inl (cy 1, 30, .inl f_8)), (a_11, .inl (cy 1, 30, .inl f_9)), (a_0, .inr (0, [.int i_0, .int i_1, .int i_2, .int i_3, .int i_4, .int i_13, .int i_14, .int i_15, .ref a_12, .ref a_13, .ref a_14, .ref a_15, .ref a_16, .ref a_17, .ref a_18, .ref a_19, .ref a_20, .ref a_21])), (a_12, .inl (cy 1, 9, .inl f_10)), (a_13, .inl (cy 1, 9, .inl f_11)), (a_14, .inl (cy 1, 3, .inl f_12)), (a_15, .inl (cy 1, 210, .inl f_13)), (a_16, .inl (cy 1, 6, .inl f_14)), (a_17, .inl (cy 1, 48, .inl f_15)), (a_18, .inl (cy 1, 30, .inl f_16)), (a_19, .inl (cy 1, 30, .inl f_17)), (a_20, .inl (cy 1, 30, .inl f_18)), (a_21, .inl (cy 1, 30, .inl f_19))]) hS
  refine lv_aload_n hx hb dX0_copyFrom_40 rfl (lv_at hl 0 rfl) ?_
  refine lv_aload_n hx hb dX0_copyFrom_41 rfl (lv_at hl 1 rfl) ?_
  refine va_get (D := G) (ci := 0) (v := .int i_5) (C := RX0) (T := TX0) (N := 18) hx hb hts (mm_i inlX0) hown hK.1 hP 0 rfl rfl 5 (by decide) (mm_h hts mm_w220) (fun _ h9 => h9) rfl dX0_copyFrom_42 ?_
  refine va_put (D := G) (ci := 0) (v := .int i_5) (ty := tyX0 5) (C := RX0) (T := TX0) (N := 18) hx hb hts (mm_i inlX0) tyX0 tyX0_ok nmX0 hown hK.1 hP hD hS 11 rfl rfl 5 (by decide) (mm_h hts mm_w220) (fun _ h9 => h9) rfl (tyX0_ok 5 (by decide)) rfl rfl (Nat.le_of_ble_eq_true rfl) dX0_copyFrom_45 ?_
  clear hP hD hS
  clear H locs
  intro H locs (hP : va_P G vwCl [(a_1, .inr (0, [.int i_0, .int i_1, .int i_2, .int i_3, .int i_4, .int i_5, .int i_6, .int i_7, .ref a_2, .ref a_3, .ref a_4, .ref a_5, .ref a_6, .ref a_7, .ref a_8, .ref a_9, .ref a_10, .ref a_11])), (a_2, .inl (cy 1, 9, .inl f_0)), (a_3, .inl (cy 1, 9, .inl f_1)), (a_4, .inl (cy 1, 3, .inl f_2)), (a_5, .inl (cy 1, 210, .inl f_3)), (a_6, .inl (cy 1, 6, .inl f_4)), (a_7, .inl (cy 1, 48, .inl f_5)), (a_8, .inl (cy 1, 30, .inl f_6)), (a_9, .inl (cy 1, 30, .inl f_7)), (a_10, .inl (cy 1, 30, .inl f_8)), (a_11, .inl (cy 1, 30, .inl f_9)), (a_0, .inr (0, [.int i_0, .int i_1, .int i_2, .int i_3, .int i_4, .int i_5, .int i_14, .int i_15, .ref a_12, .ref a_13, .ref a_14, .ref a_15, .ref a_16, .ref a_17, .ref a_18, .ref a_19, .ref a_20, .ref a_21])), (a_12, .inl (cy 1, 9, .inl f_10)), (a_13, .inl (cy 1, 9, .inl f_11)), (a_14, .inl (cy 1, 3, .inl f_12)), (a_15, .inl (cy 1, 210, .inl f_13)), (a_16, .inl (cy 1, 6, .inl f_14)), (a_17, .inl (cy 1, 48, .inl f_15)), (a_18, .inl (cy 1, 30, .inl f_16)), (a_19, .inl (cy 1, 30, .inl f_17)), (a_20, .inl (cy 1, 30, .inl f_18)), (a_21, .inl (cy 1, 30, .inl f_19))] H) (hD : va_D A [(a_1, .inr (0, [.int i_0, .int i_1, .int i_2, .int i_3, .int i_4, .int i_5, .int i_6, .int i_7, .ref a_2, .ref a_3, .ref a_4, .ref a_5, .ref a_6, .ref a_7, .ref a_8, .ref a_9, .ref a_10, .ref a_11])), (a_2, .inl (cy 1, 9, .inl f_0)), (a_3, .inl (cy 1, 9, .inl f_1)), (a_4, .inl (cy 1, 3, .inl f_2)), (a_5, .inl (cy 1, 210, .inl f_3)), (a_6, .inl (cy 1, 6, .inl f_4)), (a_7, .inl (cy 1, 48, .inl f_5)), (a_8, .inl (cy 1, 30, .inl f_6)), (a_9, .inl (cy 1, 30, .inl f_7)), (a_10, .inl (cy 1, 30, .inl f_8)), (a_11, .inl (cy 1, 30, .inl f_9)), (a_0, .inr (0, [.int i_0, .int i_1, .int i_2, .int i_3, .int i_4, .int i_5, .int i_14, .int i_15, .ref a_12, .ref a_13, .ref a_14, .ref a_15, .ref a_16, .ref a_17, .ref a_18, .ref a_19, .ref a_20, .ref a_21])), (a_12, .inl (cy 1, 9, .inl f_10)), (a_13, .inl (cy 1, 9, .inl f_11)), (a_14, .inl (cy 1, 3, .inl f_12)), (a_15, .inl (cy 1, 210, .inl f_13)), (a_16, .inl (cy 1, 6, .inl f_14)), (a_17, .inl (cy 1, 48, .inl f_15)), (a_18, .inl (cy 1, 30, .inl f_16)), (a_19, .inl (cy 1, 30, .inl f_17)), (a_20, .inl (cy 1, 30, .inl f_18)), (a_21, .inl (cy 1, 30, .inl f_19))]) hS
  refine lv_aload_n hx hb dX0_copyFrom_48 rfl (lv_at hl 0 rfl) ?_
  refine lv_aload_n hx hb dX0_copyFrom_49 rfl (lv_at hl 1 rfl) ?_
  refine va_get (D := G) (ci := 0) (v := .int i_6) (C := RX0) (T := TX0) (N := 18) hx hb hts (mm_i inlX0) hown hK.1 hP 0 rfl rfl 6 (by decide) (mm_h hts mm_w221) (fun _ h9 => h9) rfl dX0_copyFrom_50 ?_
  refine va_put (D := G) (ci := 0) (v := .int i_6) (ty := tyX0 6) (C := RX0) (T := TX0) (N := 18) hx hb hts (mm_i inlX0) tyX0 tyX0_ok nmX0 hown hK.1 hP hD hS 11 rfl rfl 6 (by decide) (mm_h hts mm_w221) (fun _ h9 => h9) rfl (tyX0_ok 6 (by decide)) rfl rfl (Nat.le_of_ble_eq_true rfl) dX0_copyFrom_53 ?_
  clear hP hD hS
  clear H locs
  intro H locs (hP : va_P G vwCl [(a_1, .inr (0, [.int i_0, .int i_1, .int i_2, .int i_3, .int i_4, .int i_5, .int i_6, .int i_7, .ref a_2, .ref a_3, .ref a_4, .ref a_5, .ref a_6, .ref a_7, .ref a_8, .ref a_9, .ref a_10, .ref a_11])), (a_2, .inl (cy 1, 9, .inl f_0)), (a_3, .inl (cy 1, 9, .inl f_1)), (a_4, .inl (cy 1, 3, .inl f_2)), (a_5, .inl (cy 1, 210, .inl f_3)), (a_6, .inl (cy 1, 6, .inl f_4)), (a_7, .inl (cy 1, 48, .inl f_5)), (a_8, .inl (cy 1, 30, .inl f_6)), (a_9, .inl (cy 1, 30, .inl f_7)), (a_10, .inl (cy 1, 30, .inl f_8)), (a_11, .inl (cy 1, 30, .inl f_9)), (a_0, .inr (0, [.int i_0, .int i_1, .int i_2, .int i_3, .int i_4, .int i_5, .int i_6, .int i_15, .ref a_12, .ref a_13, .ref a_14, .ref a_15, .ref a_16, .ref a_17, .ref a_18, .ref a_19, .ref a_20, .ref a_21])), (a_12, .inl (cy 1, 9, .inl f_10)), (a_13, .inl (cy 1, 9, .inl f_11)), (a_14, .inl (cy 1, 3, .inl f_12)), (a_15, .inl (cy 1, 210, .inl f_13)), (a_16, .inl (cy 1, 6, .inl f_14)), (a_17, .inl (cy 1, 48, .inl f_15)), (a_18, .inl (cy 1, 30, .inl f_16)), (a_19, .inl (cy 1, 30, .inl f_17)), (a_20, .inl (cy 1, 30, .inl f_18)), (a_21, .inl (cy 1, 30, .inl f_19))] H) (hD : va_D A [(a_1, .inr (0, [.int i_0, .int i_1, .int i_2, .int i_3, .int i_4, .int i_5, .int i_6, .int i_7, .ref a_2, .ref a_3, .ref a_4, .ref a_5, .ref a_6, .ref a_7, .ref a_8, .ref a_9, .ref a_10, .ref a_11])), (a_2, .inl (cy 1, 9, .inl f_0)), (a_3, .inl (cy 1, 9, .inl f_1)), (a_4, .inl (cy 1, 3, .inl f_2)), (a_5, .inl (cy 1, 210, .inl f_3)), (a_6, .inl (cy 1, 6, .inl f_4)), (a_7, .inl (cy 1, 48, .inl f_5)), (a_8, .inl (cy 1, 30, .inl f_6)), (a_9, .inl (cy 1, 30, .inl f_7)), (a_10, .inl (cy 1, 30, .inl f_8)), (a_11, .inl (cy 1, 30, .inl f_9)), (a_0, .inr (0, [.int i_0, .int i_1, .int i_2, .int i_3, .int i_4, .int i_5, .int i_6, .int i_15, .ref a_12, .ref a_13, .ref a_14, .ref a_15, .ref a_16, .ref a_17, .ref a_18, .ref a_19, .ref a_20, .ref a_21])), (a_12, .inl (cy 1, 9, .inl f_10)), (a_13, .inl (cy 1, 9, .inl f_11)), (a_14, .inl (cy 1, 3, .inl f_12)), (a_15, .inl (cy 1, 210, .inl f_13)), (a_16, .inl (cy 1, 6, .inl f_14)), (a_17, .inl (cy 1, 48, .inl f_15)), (a_18, .inl (cy 1, 30, .inl f_16)), (a_19, .inl (cy 1, 30, .inl f_17)), (a_20, .inl (cy 1, 30, .inl f_18)), (a_21, .inl (cy 1, 30, .inl f_19))]) hS
  refine lv_aload_n hx hb dX0_copyFrom_56 rfl (lv_at hl 0 rfl) ?_
  refine lv_aload_n hx hb dX0_copyFrom_57 rfl (lv_at hl 1 rfl) ?_
  refine va_get (D := G) (ci := 0) (v := .int i_7) (C := RX0) (T := TX0) (N := 18) hx hb hts (mm_i inlX0) hown hK.1 hP 0 rfl rfl 7 (by decide) (mm_h hts mm_w222) (fun _ h9 => h9) rfl dX0_copyFrom_58 ?_
  refine va_put (D := G) (ci := 0) (v := .int i_7) (ty := tyX0 7) (C := RX0) (T := TX0) (N := 18) hx hb hts (mm_i inlX0) tyX0 tyX0_ok nmX0 hown hK.1 hP hD hS 11 rfl rfl 7 (by decide) (mm_h hts mm_w222) (fun _ h9 => h9) rfl (tyX0_ok 7 (by decide)) rfl rfl (Nat.le_of_ble_eq_true rfl) dX0_copyFrom_61 ?_
  clear hP hD hS
  clear H locs
  intro H locs (hP : va_P G vwCl [(a_1, .inr (0, [.int i_0, .int i_1, .int i_2, .int i_3, .int i_4, .int i_5, .int i_6, .int i_7, .ref a_2, .ref a_3, .ref a_4, .ref a_5, .ref a_6, .ref a_7, .ref a_8, .ref a_9, .ref a_10, .ref a_11])), (a_2, .inl (cy 1, 9, .inl f_0)), (a_3, .inl (cy 1, 9, .inl f_1)), (a_4, .inl (cy 1, 3, .inl f_2)), (a_5, .inl (cy 1, 210, .inl f_3)), (a_6, .inl (cy 1, 6, .inl f_4)), (a_7, .inl (cy 1, 48, .inl f_5)), (a_8, .inl (cy 1, 30, .inl f_6)), (a_9, .inl (cy 1, 30, .inl f_7)), (a_10, .inl (cy 1, 30, .inl f_8)), (a_11, .inl (cy 1, 30, .inl f_9)), (a_0, .inr (0, [.int i_0, .int i_1, .int i_2, .int i_3, .int i_4, .int i_5, .int i_6, .int i_7, .ref a_12, .ref a_13, .ref a_14, .ref a_15, .ref a_16, .ref a_17, .ref a_18, .ref a_19, .ref a_20, .ref a_21])), (a_12, .inl (cy 1, 9, .inl f_10)), (a_13, .inl (cy 1, 9, .inl f_11)), (a_14, .inl (cy 1, 3, .inl f_12)), (a_15, .inl (cy 1, 210, .inl f_13)), (a_16, .inl (cy 1, 6, .inl f_14)), (a_17, .inl (cy 1, 48, .inl f_15)), (a_18, .inl (cy 1, 30, .inl f_16)), (a_19, .inl (cy 1, 30, .inl f_17)), (a_20, .inl (cy 1, 30, .inl f_18)), (a_21, .inl (cy 1, 30, .inl f_19))] H) (hD : va_D A [(a_1, .inr (0, [.int i_0, .int i_1, .int i_2, .int i_3, .int i_4, .int i_5, .int i_6, .int i_7, .ref a_2, .ref a_3, .ref a_4, .ref a_5, .ref a_6, .ref a_7, .ref a_8, .ref a_9, .ref a_10, .ref a_11])), (a_2, .inl (cy 1, 9, .inl f_0)), (a_3, .inl (cy 1, 9, .inl f_1)), (a_4, .inl (cy 1, 3, .inl f_2)), (a_5, .inl (cy 1, 210, .inl f_3)), (a_6, .inl (cy 1, 6, .inl f_4)), (a_7, .inl (cy 1, 48, .inl f_5)), (a_8, .inl (cy 1, 30, .inl f_6)), (a_9, .inl (cy 1, 30, .inl f_7)), (a_10, .inl (cy 1, 30, .inl f_8)), (a_11, .inl (cy 1, 30, .inl f_9)), (a_0, .inr (0, [.int i_0, .int i_1, .int i_2, .int i_3, .int i_4, .int i_5, .int i_6, .int i_7, .ref a_12, .ref a_13, .ref a_14, .ref a_15, .ref a_16, .ref a_17, .ref a_18, .ref a_19, .ref a_20, .ref a_21])), (a_12, .inl (cy 1, 9, .inl f_10)), (a_13, .inl (cy 1, 9, .inl f_11)), (a_14, .inl (cy 1, 3, .inl f_12)), (a_15, .inl (cy 1, 210, .inl f_13)), (a_16, .inl (cy 1, 6, .inl f_14)), (a_17, .inl (cy 1, 48, .inl f_15)), (a_18, .inl (cy 1, 30, .inl f_16)), (a_19, .inl (cy 1, 30, .inl f_17)), (a_20, .inl (cy 1, 30, .inl f_18)), (a_21, .inl (cy 1, 30, .inl f_19))]) hS
  refine lv_aload_n hx hb dX0_copyFrom_64 rfl (lv_at hl 1 rfl) ?_
  refine va_get (D := G) (ci := 0) (v := .ref a_2) (C := RX0) (T := TX0) (N := 18) hx hb hts (mm_i inlX0) hown hK.1 hP 0 rfl rfl 8 (by decide) (mm_h hts mm_w72) (fun _ h9 => h9) rfl dX0_copyFrom_65 ?_
  refine lv_aload_n hx hb dX0_copyFrom_68 rfl (lv_at hl 0 rfl) ?_
  refine va_get (D := G) (ci := 0) (v := .ref a_12) (C := RX0) (T := TX0) (N := 18) hx hb hts (mm_i inlX0) hown hK.1 hP 11 rfl rfl 8 (by decide) (mm_h hts mm_w72) (fun _ h9 => h9) rfl dX0_copyFrom_69 ?_
  refine mm_finv (va_runS (As := [.ref a_2, .ref a_12]) (rest := []) ⟨hx, hb, hml, hown, hts⟩ (K322_X0_copyRow l G cy H.size a_2 a_12 f_0 f_10 h7 h24) (va_cwS 2 hts (mm_gS mm_w381 mm_w382 mm_w28 mm_w383) rfl rfl rfl hs_X0_copyRow ⟨by rw [hRf]; exact Nat.le_of_ble_eq_true rfl, by rw [hRl]; exact Nat.le_of_ble_eq_true rfl⟩) (mm_preS hK hZ hS hA hP hD [1, 12] rfl rfl) rfl rfl hl.1 rfl (lv_room (Nat.le_of_ble_eq_true rfl)) dX0_copyFrom_72 ⟨by rw [hRc]; exact Nat.le_of_ble_eq_true rfl, by rw [hRs]; exact Nat.le_of_ble_eq_true rfl⟩) hP hD hS hA (fun u : Unit => [(a_1, .inr (0, [.int i_0, .int i_1, .int i_2, .int i_3, .int i_4, .int i_5, .int i_6, .int i_7, .ref a_2, .ref a_3, .ref a_4, .ref a_5, .ref a_6, .ref a_7, .ref a_8, .ref a_9, .ref a_10, .ref a_11])), (a_2, .inl (cy 1, 9, .inl f_0)), (a_3, .inl (cy 1, 9, .inl f_1)), (a_4, .inl (cy 1, 3, .inl f_2)), (a_5, .inl (cy 1, 210, .inl f_3)), (a_6, .inl (cy 1, 6, .inl f_4)), (a_7, .inl (cy 1, 48, .inl f_5)), (a_8, .inl (cy 1, 30, .inl f_6)), (a_9, .inl (cy 1, 30, .inl f_7)), (a_10, .inl (cy 1, 30, .inl f_8)), (a_11, .inl (cy 1, 30, .inl f_9)), (a_0, .inr (0, [.int i_0, .int i_1, .int i_2, .int i_3, .int i_4, .int i_5, .int i_6, .int i_7, .ref a_12, .ref a_13, .ref a_14, .ref a_15, .ref a_16, .ref a_17, .ref a_18, .ref a_19, .ref a_20, .ref a_21])), (a_12, .inl (cy 1, 9, .inl f_0)), (a_13, .inl (cy 1, 9, .inl f_11)), (a_14, .inl (cy 1, 3, .inl f_12)), (a_15, .inl (cy 1, 210, .inl f_13)), (a_16, .inl (cy 1, 6, .inl f_14)), (a_17, .inl (cy 1, 48, .inl f_15)), (a_18, .inl (cy 1, 30, .inl f_16)), (a_19, .inl (cy 1, 30, .inl f_17)), (a_20, .inl (cy 1, 30, .inl f_18)), (a_21, .inl (cy 1, 30, .inl f_19))]) [1, 12] [0, 2, 3, 4, 5, 6, 7, 8, 9, 10, 11, 13, 14, 15, 16, 17, 18, 19, 20, 21] (n := 22) (fun _ => rfl) (by decide +kernel) (by decide +kernel) rfl (fun _ => rfl) (wr := [(a_1, .inr (0, [.int i_0, .int i_1, .int i_2, .int i_3, .int i_4, .int i_5, .int i_6, .int i_7, .ref a_2, .ref a_3, .ref a_4, .ref a_5, .ref a_6, .ref a_7, .ref a_8, .ref a_9, .ref a_10, .ref a_11])), (a_3, .inl (cy 1, 9, .inl f_1)), (a_4, .inl (cy 1, 3, .inl f_2)), (a_5, .inl (cy 1, 210, .inl f_3)), (a_6, .inl (cy 1, 6, .inl f_4)), (a_7, .inl (cy 1, 48, .inl f_5)), (a_8, .inl (cy 1, 30, .inl f_6)), (a_9, .inl (cy 1, 30, .inl f_7)), (a_10, .inl (cy 1, 30, .inl f_8)), (a_11, .inl (cy 1, 30, .inl f_9)), (a_0, .inr (0, [.int i_0, .int i_1, .int i_2, .int i_3, .int i_4, .int i_5, .int i_6, .int i_7, .ref a_12, .ref a_13, .ref a_14, .ref a_15, .ref a_16, .ref a_17, .ref a_18, .ref a_19, .ref a_20, .ref a_21])), (a_13, .inl (cy 1, 9, .inl f_11)), (a_14, .inl (cy 1, 3, .inl f_12)), (a_15, .inl (cy 1, 210, .inl f_13)), (a_16, .inl (cy 1, 6, .inl f_14)), (a_17, .inl (cy 1, 48, .inl f_15)), (a_18, .inl (cy 1, 30, .inl f_16)), (a_19, .inl (cy 1, 30, .inl f_17)), (a_20, .inl (cy 1, 30, .inl f_18)), (a_21, .inl (cy 1, 30, .inl f_19))]) rfl (fun _ => rfl) (fun _ => rfl) ?_
  clear hP hD hS
  clear H locs
  intro _u H locs hw (hP : va_P G vwCl [(a_1, .inr (0, [.int i_0, .int i_1, .int i_2, .int i_3, .int i_4, .int i_5, .int i_6, .int i_7, .ref a_2, .ref a_3, .ref a_4, .ref a_5, .ref a_6, .ref a_7, .ref a_8, .ref a_9, .ref a_10, .ref a_11])), (a_2, .inl (cy 1, 9, .inl f_0)), (a_3, .inl (cy 1, 9, .inl f_1)), (a_4, .inl (cy 1, 3, .inl f_2)), (a_5, .inl (cy 1, 210, .inl f_3)), (a_6, .inl (cy 1, 6, .inl f_4)), (a_7, .inl (cy 1, 48, .inl f_5)), (a_8, .inl (cy 1, 30, .inl f_6)), (a_9, .inl (cy 1, 30, .inl f_7)), (a_10, .inl (cy 1, 30, .inl f_8)), (a_11, .inl (cy 1, 30, .inl f_9)), (a_0, .inr (0, [.int i_0, .int i_1, .int i_2, .int i_3, .int i_4, .int i_5, .int i_6, .int i_7, .ref a_12, .ref a_13, .ref a_14, .ref a_15, .ref a_16, .ref a_17, .ref a_18, .ref a_19, .ref a_20, .ref a_21])), (a_12, .inl (cy 1, 9, .inl f_0)), (a_13, .inl (cy 1, 9, .inl f_11)), (a_14, .inl (cy 1, 3, .inl f_12)), (a_15, .inl (cy 1, 210, .inl f_13)), (a_16, .inl (cy 1, 6, .inl f_14)), (a_17, .inl (cy 1, 48, .inl f_15)), (a_18, .inl (cy 1, 30, .inl f_16)), (a_19, .inl (cy 1, 30, .inl f_17)), (a_20, .inl (cy 1, 30, .inl f_18)), (a_21, .inl (cy 1, 30, .inl f_19))] H) (hD : va_D A [(a_1, .inr (0, [.int i_0, .int i_1, .int i_2, .int i_3, .int i_4, .int i_5, .int i_6, .int i_7, .ref a_2, .ref a_3, .ref a_4, .ref a_5, .ref a_6, .ref a_7, .ref a_8, .ref a_9, .ref a_10, .ref a_11])), (a_2, .inl (cy 1, 9, .inl f_0)), (a_3, .inl (cy 1, 9, .inl f_1)), (a_4, .inl (cy 1, 3, .inl f_2)), (a_5, .inl (cy 1, 210, .inl f_3)), (a_6, .inl (cy 1, 6, .inl f_4)), (a_7, .inl (cy 1, 48, .inl f_5)), (a_8, .inl (cy 1, 30, .inl f_6)), (a_9, .inl (cy 1, 30, .inl f_7)), (a_10, .inl (cy 1, 30, .inl f_8)), (a_11, .inl (cy 1, 30, .inl f_9)), (a_0, .inr (0, [.int i_0, .int i_1, .int i_2, .int i_3, .int i_4, .int i_5, .int i_6, .int i_7, .ref a_12, .ref a_13, .ref a_14, .ref a_15, .ref a_16, .ref a_17, .ref a_18, .ref a_19, .ref a_20, .ref a_21])), (a_12, .inl (cy 1, 9, .inl f_0)), (a_13, .inl (cy 1, 9, .inl f_11)), (a_14, .inl (cy 1, 3, .inl f_12)), (a_15, .inl (cy 1, 210, .inl f_13)), (a_16, .inl (cy 1, 6, .inl f_14)), (a_17, .inl (cy 1, 48, .inl f_15)), (a_18, .inl (cy 1, 30, .inl f_16)), (a_19, .inl (cy 1, 30, .inl f_17)), (a_20, .inl (cy 1, 30, .inl f_18)), (a_21, .inl (cy 1, 30, .inl f_19))]) hS
  refine lv_aload_n hx hb dX0_copyFrom_75 rfl (lv_at hl 1 rfl) ?_
  refine va_get (D := G) (ci := 0) (v := .ref a_3) (C := RX0) (T := TX0) (N := 18) hx hb hts (mm_i inlX0) hown hK.1 hP 0 rfl rfl 9 (by decide) (mm_h hts mm_w73) (fun _ h9 => h9) rfl dX0_copyFrom_76 ?_
  refine lv_aload_n hx hb dX0_copyFrom_79 rfl (lv_at hl 0 rfl) ?_
  refine va_get (D := G) (ci := 0) (v := .ref a_13) (C := RX0) (T := TX0) (N := 18) hx hb hts (mm_i inlX0) hown hK.1 hP 11 rfl rfl 9 (by decide) (mm_h hts mm_w73) (fun _ h9 => h9) rfl dX0_copyFrom_80 ?_
  refine mm_finv (va_runS (As := [.ref a_3, .ref a_13]) (rest := []) ⟨hx, hb, hml, hown, hts⟩ (K323_X0_copyRow l G cy H.size a_3 a_13 f_1 f_11 h8 h25) (va_cwS 2 hts (mm_gS mm_w381 mm_w382 mm_w28 mm_w383) rfl rfl rfl hs_X0_copyRow ⟨by rw [hRf]; exact Nat.le_of_ble_eq_true rfl, by rw [hRl]; exact Nat.le_of_ble_eq_true rfl⟩) (mm_preS hK hZ hS hA hP hD [2, 13] rfl rfl) rfl rfl hl.1 rfl (lv_room (Nat.le_of_ble_eq_true rfl)) dX0_copyFrom_83 ⟨by rw [hRc]; exact Nat.le_of_ble_eq_true rfl, by rw [hRs]; exact Nat.le_of_ble_eq_true rfl⟩) hP hD hS hA (fun u : Unit => [(a_1, .inr (0, [.int i_0, .int i_1, .int i_2, .int i_3, .int i_4, .int i_5, .int i_6, .int i_7, .ref a_2, .ref a_3, .ref a_4, .ref a_5, .ref a_6, .ref a_7, .ref a_8, .ref a_9, .ref a_10, .ref a_11])), (a_2, .inl (cy 1, 9, .inl f_0)), (a_3, .inl (cy 1, 9, .inl f_1)), (a_4, .inl (cy 1, 3, .inl f_2)), (a_5, .inl (cy 1, 210, .inl f_3)), (a_6, .inl (cy 1, 6, .inl f_4)), (a_7, .inl (cy 1, 48, .inl f_5)), (a_8, .inl (cy 1, 30, .inl f_6)), (a_9, .inl (cy 1, 30, .inl f_7)), (a_10, .inl (cy 1, 30, .inl f_8)), (a_11, .inl (cy 1, 30, .inl f_9)), (a_0, .inr (0, [.int i_0, .int i_1, .int i_2, .int i_3, .int i_4, .int i_5, .int i_6, .int i_7, .ref a_12, .ref a_13, .ref a_14, .ref a_15, .ref a_16, .ref a_17, .ref a_18, .ref a_19, .ref a_20, .ref a_21])), (a_12, .inl (cy 1, 9, .inl f_0)), (a_13, .inl (cy 1, 9, .inl f_1)), (a_14, .inl (cy 1, 3, .inl f_12)), (a_15, .inl (cy 1, 210, .inl f_13)), (a_16, .inl (cy 1, 6, .inl f_14)), (a_17, .inl (cy 1, 48, .inl f_15)), (a_18, .inl (cy 1, 30, .inl f_16)), (a_19, .inl (cy 1, 30, .inl f_17)), (a_20, .inl (cy 1, 30, .inl f_18)), (a_21, .inl (cy 1, 30, .inl f_19))]) [2, 13] [0, 1, 3, 4, 5, 6, 7, 8, 9, 10, 11, 12, 14, 15, 16, 17, 18, 19, 20, 21] (n := 22) (fun _ => rfl) (by decide +kernel) (by decide +kernel) rfl (fun _ => rfl) (wr := [(a_1, .inr (0, [.int i_0, .int i_1, .int i_2, .int i_3, .int i_4, .int i_5, .int i_6, .int i_7, .ref a_2, .ref a_3, .ref a_4, .ref a_5, .ref a_6, .ref a_7, .ref a_8, .ref a_9, .ref a_10, .ref a_11])), (a_2, .inl (cy 1, 9, .inl f_0)), (a_4, .inl (cy 1, 3, .inl f_2)), (a_5, .inl (cy 1, 210, .inl f_3)), (a_6, .inl (cy 1, 6, .inl f_4)), (a_7, .inl (cy 1, 48, .inl f_5)), (a_8, .inl (cy 1, 30, .inl f_6)), (a_9, .inl (cy 1, 30, .inl f_7)), (a_10, .inl (cy 1, 30, .inl f_8)), (a_11, .inl (cy 1, 30, .inl f_9)), (a_0, .inr (0, [.int i_0, .int i_1, .int i_2, .int i_3, .int i_4, .int i_5, .int i_6, .int i_7, .ref a_12, .ref a_13, .ref a_14, .ref a_15, .ref a_16, .ref a_17, .ref a_18, .ref a_19, .ref a_20, .ref a_21])), (a_12, .inl (cy 1, 9, .inl f_0)), (a_14, .inl (cy 1, 3, .inl f_12)), (a_15, .inl (cy 1, 210, .inl f_13)), (a_16, .inl (cy 1, 6, .inl f_14)), (a_17, .inl (cy 1, 48, .inl f_15)), (a_18, .inl (cy 1, 30, .inl f_16)), (a_19, .inl (cy 1, 30, .inl f_17)), (a_20, .inl (cy 1, 30, .inl f_18)), (a_21, .inl (cy 1, 30, .inl f_19))]) rfl (fun _ => rfl) (fun _ => rfl) ?_
  clear hP hD hS
  clear H locs
  intro _u H locs hw (hP : va_P G vwCl [(a_1, .inr (0, [.int i_0, .int i_1, .int i_2, .int i_3, .int i_4, .int i_5, .int i_6, .int i_7, .ref a_2, .ref a_3, .ref a_4, .ref a_5, .ref a_6, .ref a_7, .ref a_8, .ref a_9, .ref a_10, .ref a_11])), (a_2, .inl (cy 1, 9, .inl f_0)), (a_3, .inl (cy 1, 9, .inl f_1)), (a_4, .inl (cy 1, 3, .inl f_2)), (a_5, .inl (cy 1, 210, .inl f_3)), (a_6, .inl (cy 1, 6, .inl f_4)), (a_7, .inl (cy 1, 48, .inl f_5)), (a_8, .inl (cy 1, 30, .inl f_6)), (a_9, .inl (cy 1, 30, .inl f_7)), (a_10, .inl (cy 1, 30, .inl f_8)), (a_11, .inl (cy 1, 30, .inl f_9)), (a_0, .inr (0, [.int i_0, .int i_1, .int i_2, .int i_3, .int i_4, .int i_5, .int i_6, .int i_7, .ref a_12, .ref a_13, .ref a_14, .ref a_15, .ref a_16, .ref a_17, .ref a_18, .ref a_19, .ref a_20, .ref a_21])), (a_12, .inl (cy 1, 9, .inl f_0)), (a_13, .inl (cy 1, 9, .inl f_1)), (a_14, .inl (cy 1, 3, .inl f_12)), (a_15, .inl (cy 1, 210, .inl f_13)), (a_16, .inl (cy 1, 6, .inl f_14)), (a_17, .inl (cy 1, 48, .inl f_15)), (a_18, .inl (cy 1, 30, .inl f_16)), (a_19, .inl (cy 1, 30, .inl f_17)), (a_20, .inl (cy 1, 30, .inl f_18)), (a_21, .inl (cy 1, 30, .inl f_19))] H) (hD : va_D A [(a_1, .inr (0, [.int i_0, .int i_1, .int i_2, .int i_3, .int i_4, .int i_5, .int i_6, .int i_7, .ref a_2, .ref a_3, .ref a_4, .ref a_5, .ref a_6, .ref a_7, .ref a_8, .ref a_9, .ref a_10, .ref a_11])), (a_2, .inl (cy 1, 9, .inl f_0)), (a_3, .inl (cy 1, 9, .inl f_1)), (a_4, .inl (cy 1, 3, .inl f_2)), (a_5, .inl (cy 1, 210, .inl f_3)), (a_6, .inl (cy 1, 6, .inl f_4)), (a_7, .inl (cy 1, 48, .inl f_5)), (a_8, .inl (cy 1, 30, .inl f_6)), (a_9, .inl (cy 1, 30, .inl f_7)), (a_10, .inl (cy 1, 30, .inl f_8)), (a_11, .inl (cy 1, 30, .inl f_9)), (a_0, .inr (0, [.int i_0, .int i_1, .int i_2, .int i_3, .int i_4, .int i_5, .int i_6, .int i_7, .ref a_12, .ref a_13, .ref a_14, .ref a_15, .ref a_16, .ref a_17, .ref a_18, .ref a_19, .ref a_20, .ref a_21])), (a_12, .inl (cy 1, 9, .inl f_0)), (a_13, .inl (cy 1, 9, .inl f_1)), (a_14, .inl (cy 1, 3, .inl f_12)), (a_15, .inl (cy 1, 210, .inl f_13)), (a_16, .inl (cy 1, 6, .inl f_14)), (a_17, .inl (cy 1, 48, .inl f_15)), (a_18, .inl (cy 1, 30, .inl f_16)), (a_19, .inl (cy 1, 30, .inl f_17)), (a_20, .inl (cy 1, 30, .inl f_18)), (a_21, .inl (cy 1, 30, .inl f_19))]) hS
  refine lv_aload_n hx hb dX0_copyFrom_86 rfl (lv_at hl 1 rfl) ?_
  refine va_get (D := G) (ci := 0) (v := .ref a_4) (C := RX0) (T := TX0) (N := 18) hx hb hts (mm_i inlX0) hown hK.1 hP 0 rfl rfl 10 (by decide) (mm_h hts mm_w74) (fun _ h9 => h9) rfl dX0_copyFrom_87 ?_
  refine lv_aload_n hx hb dX0_copyFrom_90 rfl (lv_at hl 0 rfl) ?_
  refine va_get (D := G) (ci := 0) (v := .ref a_14) (C := RX0) (T := TX0) (N := 18) hx hb hts (mm_i inlX0) hown hK.1 hP 11 rfl rfl 10 (by decide) (mm_h hts mm_w74) (fun _ h9 => h9) rfl dX0_copyFrom_91 ?_
  refine mm_finv (va_runS (As := [.ref a_4, .ref a_14]) (rest := []) ⟨hx, hb, hml, hown, hts⟩ (K324_X0_copyRow l G cy H.size a_4 a_14 f_2 f_12 h9 h26) (va_cwS 2 hts (mm_gS mm_w381 mm_w382 mm_w28 mm_w383) rfl rfl rfl hs_X0_copyRow ⟨by rw [hRf]; exact Nat.le_of_ble_eq_true rfl, by rw [hRl]; exact Nat.le_of_ble_eq_true rfl⟩) (mm_preS hK hZ hS hA hP hD [3, 14] rfl rfl) rfl rfl hl.1 rfl (lv_room (Nat.le_of_ble_eq_true rfl)) dX0_copyFrom_94 ⟨by rw [hRc]; exact Nat.le_of_ble_eq_true rfl, by rw [hRs]; exact Nat.le_of_ble_eq_true rfl⟩) hP hD hS hA (fun u : Unit => [(a_1, .inr (0, [.int i_0, .int i_1, .int i_2, .int i_3, .int i_4, .int i_5, .int i_6, .int i_7, .ref a_2, .ref a_3, .ref a_4, .ref a_5, .ref a_6, .ref a_7, .ref a_8, .ref a_9, .ref a_10, .ref a_11])), (a_2, .inl (cy 1, 9, .inl f_0)), (a_3, .inl (cy 1, 9, .inl f_1)), (a_4, .inl (cy 1, 3, .inl f_2)), (a_5, .inl (cy 1, 210, .inl f_3)), (a_6, .inl (cy 1, 6, .inl f_4)), (a_7, .inl (cy 1, 48, .inl f_5)), (a_8, .inl (cy 1, 30, .inl f_6)), (a_9, .inl (cy 1, 30, .inl f_7)), (a_10, .inl (cy 1, 30, .inl f_8)), (a_11, .inl (cy 1, 30, .inl f_9)), (a_0, .inr (0, [.int i_0, .int i_1, .int i_2, .int i_3, .int i_4, .int i_5, .int i_6, .int i_7, .ref a_12, .ref a_13, .ref a_14, .ref a_15, .ref a_16, .ref a_17, .ref a_18, .ref a_19, .ref a_20, .ref a_21])), (a_12, .inl (cy 1, 9, .inl f_0)), (a_13, .inl (cy 1, 9, .inl f_1)), (a_14, .inl (cy 1, 3, .inl f_2)), (a_15, .inl (cy 1, 210, .inl f_13)), (a_16, .inl (cy 1, 6, .inl f_14)), (a_17, .inl (cy 1, 48, .inl f_15)), (a_18, .inl (cy 1, 30, .inl f_16)), (a_19, .inl (cy 1, 30, .inl f_17)), (a_20, .inl (cy 1, 30, .inl f_18)), (a_21, .inl (cy 1, 30, .inl f_19))]) [3, 14] [0, 1, 2, 4, 5, 6, 7, 8, 9, 10, 11, 12, 13, 15, 16, 17, 18, 19, 20, 21] (n := 22) (fun _ => rfl) (by decide +kernel) (by decide +kernel) rfl (fun _ => rfl) (wr := [(a_1, .inr (0, [.int i_0, .int i_1, .int i_2, .int i_3, .int i_4, .int i_5, .int i_6, .int i_7, .ref a_2, .ref a_3, .ref a_4, .ref a_5, .ref a_6, .ref a_7, .ref a_8, .ref a_9, .ref a_10, .ref a_11])), (a_2, .inl (cy 1, 9, .inl f_0)), (a_3, .inl (cy 1, 9, .inl f_1)), (a_5, .inl (cy 1, 210, .inl f_3)), (a_6, .inl (cy 1, 6, .inl f_4)), (a_7, .inl (cy 1, 48, .inl f_5)), (a_8, .inl (cy 1, 30, .inl f_6)), (a_9, .inl (cy 1, 30, .inl f_7)), (a_10, .inl (cy 1, 30, .inl f_8)), (a_11, .inl (cy 1, 30, .inl f_9)), (a_0, .inr (0, [.int i_0, .int i_1, .int i_2, .int i_3, .int i_4, .int i_5, .int i_6, .int i_7, .ref a_12, .ref a_13, .ref a_14, .ref a_15, .ref a_16, .ref a_17, .ref a_18, .ref a_19, .ref a_20, .ref a_21])), (a_12, .inl (cy 1, 9, .inl f_0)), (a_13, .inl (cy 1, 9, .inl f_1)), (a_15, .inl (cy 1, 210, .inl f_13)), (a_16, .inl (cy 1, 6, .inl f_14)), (a_17, .inl (cy 1, 48, .inl f_15)), (a_18, .inl (cy 1, 30, .inl f_16)), (a_19, .inl (cy 1, 30, .inl f_17)), (a_20, .inl (cy 1, 30, .inl f_18)), (a_21, .inl (cy 1, 30, .inl f_19))]) rfl (fun _ => rfl) (fun _ => rfl) ?_
  clear hP hD hS
  clear H locs
  intro _u H locs hw (hP : va_P G vwCl [(a_1, .inr (0, [.int i_0, .int i_1, .int i_2, .int i_3, .int i_4, .int i_5, .int i_6, .int i_7, .ref a_2, .ref a_3, .ref a_4, .ref a_5, .ref a_6, .ref a_7, .ref a_8, .ref a_9, .ref a_10, .ref a_11])), (a_2, .inl (cy 1, 9, .inl f_0)), (a_3, .inl (cy 1, 9, .inl f_1)), (a_4, .inl (cy 1, 3, .inl f_2)), (a_5, .inl (cy 1, 210, .inl f_3)), (a_6, .inl (cy 1, 6, .inl f_4)), (a_7, .inl (cy 1, 48, .inl f_5)), (a_8, .inl (cy 1, 30, .inl f_6)), (a_9, .inl (cy 1, 30, .inl f_7)), (a_10, .inl (cy 1, 30, .inl f_8)), (a_11, .inl (cy 1, 30, .inl f_9)), (a_0, .inr (0, [.int i_0, .int i_1, .int i_2, .int i_3, .int i_4, .int i_5, .int i_6, .int i_7, .ref a_12, .ref a_13, .ref a_14, .ref a_15, .ref a_16, .ref a_17, .ref a_18, .ref a_19, .ref a_20, .ref a_21])), (a_12, .inl (cy 1, 9, .inl f_0)), (a_13, .inl (cy 1, 9, .inl f_1)), (a_14, .inl (cy 1, 3, .inl f_2)), (a_15, .inl (cy 1, 210, .inl f_13)), (a_16, .inl (cy 1, 6, .inl f_14)), (a_17, .inl (cy 1, 48, .inl f_15)), (a_18, .inl (cy 1, 30, .inl f_16)), (a_19, .inl (cy 1, 30, .inl f_17)), (a_20, .inl (cy 1, 30, .inl f_18)), (a_21, .inl (cy 1, 30, .inl f_19))] H) (hD : va_D A [(a_1, .inr (0, [.int i_0, .int i_1, .int i_2, .int i_3, .int i_4, .int i_5, .int i_6, .int i_7, .ref a_2, .ref a_3, .ref a_4, .ref a_5, .ref a_6, .ref a_7, .ref a_8, .ref a_9, .ref a_10, .ref a_11])), (a_2, .inl (cy 1, 9, .inl f_0)), (a_3, .inl (cy 1, 9, .inl f_1)), (a_4, .inl (cy 1, 3, .inl f_2)), (a_5, .inl (cy 1, 210, .inl f_3)), (a_6, .inl (cy 1, 6, .inl f_4)), (a_7, .inl (cy 1, 48, .inl f_5)), (a_8, .inl (cy 1, 30, .inl f_6)), (a_9, .inl (cy 1, 30, .inl f_7)), (a_10, .inl (cy 1, 30, .inl f_8)), (a_11, .inl (cy 1, 30, .inl f_9)), (a_0, .inr (0, [.int i_0, .int i_1, .int i_2, .int i_3, .int i_4, .int i_5, .int i_6, .int i_7, .ref a_12, .ref a_13, .ref a_14, .ref a_15, .ref a_16, .ref a_17, .ref a_18, .ref a_19, .ref a_20, .ref a_21])), (a_12, .inl (cy 1, 9, .inl f_0)), (a_13, .inl (cy 1, 9, .inl f_1)), (a_14, .inl (cy 1, 3, .inl f_2)), (a_15, .inl (cy 1, 210, .inl f_13)), (a_16, .inl (cy 1, 6, .inl f_14)), (a_17, .inl (cy 1, 48, .inl f_15)), (a_18, .inl (cy 1, 30, .inl f_16)), (a_19, .inl (cy 1, 30, .inl f_17)), (a_20, .inl (cy 1, 30, .inl f_18)), (a_21, .inl (cy 1, 30, .inl f_19))]) hS
  refine lv_aload_n hx hb dX0_copyFrom_97 rfl (lv_at hl 1 rfl) ?_
  refine va_get (D := G) (ci := 0) (v := .ref a_5) (C := RX0) (T := TX0) (N := 18) hx hb hts (mm_i inlX0) hown hK.1 hP 0 rfl rfl 11 (by decide) (mm_h hts mm_w75) (fun _ h9 => h9) rfl dX0_copyFrom_98 ?_
  refine lv_aload_n hx hb dX0_copyFrom_101 rfl (lv_at hl 0 rfl) ?_
  refine va_get (D := G) (ci := 0) (v := .ref a_15) (C := RX0) (T := TX0) (N := 18) hx hb hts (mm_i inlX0) hown hK.1 hP 11 rfl rfl 11 (by decide) (mm_h hts mm_w75) (fun _ h9 => h9) rfl dX0_copyFrom_102 ?_
  refine mm_finv (va_runS (As := [.ref a_5, .ref a_15]) (rest := []) ⟨hx, hb, hml, hown, hts⟩ (K325_X0_copyRow l G cy H.size a_5 a_15 f_3 f_13 h10 h27) (va_cwS 2 hts (mm_gS mm_w381 mm_w382 mm_w28 mm_w383) rfl rfl rfl hs_X0_copyRow ⟨by rw [hRf]; exact Nat.le_of_ble_eq_true rfl, by rw [hRl]; exact Nat.le_of_ble_eq_true rfl⟩) (mm_preS hK hZ hS hA hP hD [4, 15] rfl rfl) rfl rfl hl.1 rfl (lv_room (Nat.le_of_ble_eq_true rfl)) dX0_copyFrom_105 ⟨by rw [hRc]; exact Nat.le_of_ble_eq_true rfl, by rw [hRs]; exact Nat.le_of_ble_eq_true rfl⟩) hP hD hS hA (fun u : Unit => [(a_1, .inr (0, [.int i_0, .int i_1, .int i_2, .int i_3, .int i_4, .int i_5, .int i_6, .int i_7, .ref a_2, .ref a_3, .ref a_4, .ref a_5, .ref a_6, .ref a_7, .ref a_8, .ref a_9, .ref a_10, .ref a_11])), (a_2, .inl (cy 1, 9, .inl f_0)), (a_3, .inl (cy 1, 9, .inl f_1)), (a_4, .inl (cy 1, 3, .inl f_2)), (a_5, .inl (cy 1, 210, .inl f_3)), (a_6, .inl (cy 1, 6, .inl f_4)), (a_7, .inl (cy 1, 48, .inl f_5)), (a_8, .inl (cy 1, 30, .inl f_6)), (a_9, .inl (cy 1, 30, .inl f_7)), (a_10, .inl (cy 1, 30, .inl f_8)), (a_11, .inl (cy 1, 30, .inl f_9)), (a_0, .inr (0, [.int i_0, .int i_1, .int i_2, .int i_3, .int i_4, .int i_5, .int i_6, .int i_7, .ref a_12, .ref a_13, .ref a_14, .ref a_15, .ref a_16, .ref a_17, .ref a_18, .ref a_19, .ref a_20, .ref a_21])), (a_12, .inl (cy 1, 9, .inl f_0)), (a_13, .inl (cy 1, 9, .inl f_1)), (a_14, .inl (cy 1, 3, .inl f_2)), (a_15, .inl (cy 1, 210, .inl f_3)), (a_16, .inl (cy 1, 6, .inl f_14)), (a_17, .inl (cy 1, 48, .inl f_15)), (a_18, .inl (cy 1, 30, .inl f_16)), (a_19, .inl (cy 1, 30, .inl f_17)), (a_20, .inl (cy 1, 30, .inl f_18)), (a_21, .inl (cy 1, 30, .inl f_19))]) [4, 15] [0, 1, 2, 3, 5, 6, 7, 8, 9, 10, 11, 12, 13, 14, 16, 17, 18, 19, 20, 21] (n := 22) (fun _ => rfl) (by decide +kernel) (by decide +kernel) rfl (fun _ => rfl) (wr := [(a_1, .inr (0, [.int i_0, .int i_1, .int i_2, .int i_3, .int i_4, .int i_5, .int i_6, .int i_7, .ref a_2, .ref a_3, .ref a_4, .ref a_5, .ref a_6, .ref a_7, .ref a_8, .ref a_9, .ref a_10, .ref a_11])), (a_2, .inl (cy 1, 9, .inl f_0)), (a_3, .inl (cy 1, 9, .inl f_1)), (a_4, .inl (cy 1, 3, .inl f_2)), (a_6, .inl (cy 1, 6, .inl f_4)), (a_7, .inl (cy 1, 48, .inl f_5)), (a_8, .inl (cy 1, 30, .inl f_6)), (a_9, .inl (cy 1, 30, .inl f_7)), (a_10, .inl (cy 1, 30, .inl f_8)), (a_11, .inl (cy 1, 30, .inl f_9)), (a_0, .inr (0, [.int i_0, .int i_1, .int i_2, .int i_3, .int i_4, .int i_5, .int i_6, .int i_7, .ref a_12, .ref a_13, .ref a_14, .ref a_15, .ref a_16, .ref a_17, .ref a_18, .ref a_19, .ref a_20, .ref a_21])), (a_12, .inl (cy 1, 9, .inl f_0)), (a_13, .inl (cy 1, 9, .inl f_1)), (a_14, .inl (cy 1, 3, .inl f_2)), (a_16, .inl (cy 1, 6, .inl f_14)), (a_17, .inl (cy 1, 48, .inl f_15)), (a_18, .inl (cy 1, 30, .inl f_16)), (a_19, .inl (cy 1, 30, .inl f_17)), (a_20, .inl (cy 1, 30, .inl f_18)), (a_21, .inl (cy 1, 30, .inl f_19))]) rfl (fun _ => rfl) (fun _ => rfl) ?_
  clear hP hD hS
  clear H locs
  intro _u H locs hw (hP : va_P G vwCl [(a_1, .inr (0, [.int i_0, .int i_1, .int i_2, .int i_3, .int i_4, .int i_5, .int i_6, .int i_7, .ref a_2, .ref a_3, .ref a_4, .ref a_5, .ref a_6, .ref a_7, .ref a_8, .ref a_9, .ref a_10, .ref a_11])), (a_2, .inl (cy 1, 9, .inl f_0)), (a_3, .inl (cy 1, 9, .inl f_1)), (a_4, .inl (cy 1, 3, .inl f_2)), (a_5, .inl (cy 1, 210, .inl f_3)), (a_6, .inl (cy 1, 6, .inl f_4)), (a_7, .inl (cy 1, 48, .inl f_5)), (a_8, .inl (cy 1, 30, .inl f_6)), (a_9, .inl (cy 1, 30, .inl f_7)), (a_10, .inl (cy 1, 30, .inl f_8)), (a_11, .inl (cy 1, 30, .inl f_9)), (a_0, .inr (0, [.int i_0, .int i_1, .int i_2, .int i_3, .int i_4, .int i_5, .int i_6, .int i_7, .ref a_12, .ref a_13, .ref a_14, .ref a_15, .ref a_16, .ref a_17, .ref a_18, .ref a_19, .ref a_20, .ref a_21])), (a_12, .inl (cy 1, 9, .inl f_0)), (a_13, .inl (cy 1, 9, .inl f_1)), (a_14, .inl (cy 1, 3, .inl f_2)), (a_15, .inl (cy 1, 210, .inl f_3)), (a_16, .inl (cy 1, 6, .inl f_14)), (a_17, .inl (cy 1, 48, .inl f_15)), (a_18, .inl (cy 1, 30, .inl f_16)), (a_19, .inl (cy 1, 30, .inl f_17)), (a_20, .inl (cy 1, 30, .inl f_18)), (a_21, .inl (cy 1, 30, .inl f_19))] H) (hD : va_D A [(a_1, .inr (0, [.int i_0, .int i_1, .int i_2, .int i_3, .int i_4, .int i_5, .int i_6, .int i_7, .ref a_2, .ref a_3, .ref a_4, .ref a_5, .ref a_6, .ref a_7, .ref a_8, .ref a_9, .ref a_10, .ref a_11])), (a_2, .inl (cy 1, 9, .inl f_0)), (a_3, .inl (cy 1, 9, .inl f_1)), (a_4, .inl (cy 1, 3, .inl f_2)), (a_5, .inl (cy 1, 210, .inl f_3)), (a_6, .inl (cy 1, 6, .inl f_4)), (a_7, .inl (cy 1, 48, .inl f_5)), (a_8, .inl (cy 1, 30, .inl f_6)), (a_9, .inl (cy 1, 30, .inl f_7)), (a_10, .inl (cy 1, 30, .inl f_8)), (a_11, .inl (cy 1, 30, .inl f_9)), (a_0, .inr (0, [.int i_0, .int i_1, .int i_2, .int i_3, .int i_4, .int i_5, .int i_6, .int i_7, .ref a_12, .ref a_13, .ref a_14, .ref a_15, .ref a_16, .ref a_17, .ref a_18, .ref a_19, .ref a_20, .ref a_21])), (a_12, .inl (cy 1, 9, .inl f_0)), (a_13, .inl (cy 1, 9, .inl f_1)), (a_14, .inl (cy 1, 3, .inl f_2)), (a_15, .inl (cy 1, 210, .inl f_3)), (a_16, .inl (cy 1, 6, .inl f_14)), (a_17, .inl (cy 1, 48, .inl f_15)), (a_18, .inl (cy 1, 30, .inl f_16)), (a_19, .inl (cy 1, 30, .inl f_17)), (a_20, .inl (cy 1, 30, .inl f_18)), (a_21, .inl (cy 1, 30, .inl f_19))]) hS
  refine lv_aload_n hx hb dX0_copyFrom_108 rfl (lv_at hl 1 rfl) ?_
  refine va_get (D := G) (ci := 0) (v := .ref a_6) (C := RX0) (T := TX0) (N := 18) hx hb hts (mm_i inlX0) hown hK.1 hP 0 rfl rfl 12 (by decide) (mm_h hts mm_w76) (fun _ h9 => h9) rfl dX0_copyFrom_109 ?_
  refine lv_aload_n hx hb dX0_copyFrom_112 rfl (lv_at hl 0 rfl) ?_
  refine va_get (D := G) (ci := 0) (v := .ref a_16) (C := RX0) (T := TX0) (N := 18) hx hb hts (mm_i inlX0) hown hK.1 hP 11 rfl rfl 12 (by decide) (mm_h hts mm_w76) (fun _ h9 => h9) rfl dX0_copyFrom_113 ?_
  refine mm_finv (va_runS (As := [.ref a_6, .ref a_16]) (rest := []) ⟨hx, hb, hml, hown, hts⟩ (K326_X0_copyRow l G cy H.size a_6 a_16 f_4 f_14 h11 h28) (va_cwS 2 hts (mm_gS mm_w381 mm_w382 mm_w28 mm_w383) rfl rfl rfl hs_X0_copyRow ⟨by rw [hRf]; exact Nat.le_of_ble_eq_true rfl, by rw [hRl]; exact Nat.le_of_ble_eq_true rfl⟩) (mm_preS hK hZ hS hA hP hD [5, 16] rfl rfl) rfl rfl hl.1 rfl (lv_room (Nat.le_of_ble_eq_true rfl)) dX0_copyFrom_116 ⟨by rw [hRc]; exact Nat.le_of_ble_eq_true rfl, by rw [hRs]; exact Nat.le_of_ble_eq_true rfl⟩) hP hD hS hA (fun u : Unit => [(a_1, .inr (0, [.int i_0, .int i_1, .int i_2, .int i_3, .int i_4, .int i_5, .int i_6, .int i_7, .ref a_2, .ref a_3, .ref a_4, .ref a_5, .ref a_6, .ref a_7, .ref a_8, .ref a_9, .ref a_10, .ref a_11])), (a_2, .inl (cy 1, 9, .inl f_0)), (a_3, .inl (cy 1, 9, .inl f_1)), (a_4, .inl (cy 1, 3, .inl f_2)), (a_5, .inl (cy 1, 210, .inl f_3)), (a_6, .inl (cy 1, 6, .inl f_4)), (a_7, .inl (cy 1, 48, .inl f_5)), (a_8, .inl (cy 1, 30, .inl f_6)), (a_9, .inl (cy 1, 30, .inl f_7)), (a_10, .inl (cy 1, 30, .inl f_8)), (a_11, .inl (cy 1, 30, .inl f_9)), (a_0, .inr (0, [.int i_0, .int i_1, .int i_2, .int i_3, .int i_4, .int i_5, .int i_6, .int i_7, .ref a_12, .ref a_13, .ref a_14, .ref a_15, .ref a_16, .ref a_17, .ref a_18, .ref a_19, .ref a_20, .ref a_21])), (a_12, .inl (cy 1, 9, .inl f_0)), (a_13, .inl (cy 1, 9, .inl f_1)), (a_14, .inl (cy 1, 3, .inl f_2)), (a_15, .inl (cy 1, 210, .inl f_3)), (a_16, .inl (cy 1, 6, .inl f_4)), (a_17, .inl (cy 1, 48, .inl f_15)), (a_18, .inl (cy 1, 30, .inl f_16)), (a_19, .inl (cy 1, 30, .inl f_17)), (a_20, .inl (cy 1, 30, .inl f_18)), (a_21, .inl (cy 1, 30, .inl f_19))]) [5, 16] [0, 1, 2, 3, 4, 6, 7, 8, 9, 10, 11, 12, 13, 14, 15, 17, 18, 19, 20, 21] (n := 22) (fun _ => rfl) (by decide +kernel) (by decide +kernel) rfl (fun _ => rfl) (wr := [(a_1, .inr (0, [.int i_0, .int i_1, .int i_2, .int i_3, .int i_4, .int i_5, .int i_6, .int i_7, .ref a_2, .ref a_3, .ref a_4, .ref a_5, .ref a_6, .ref a_7, .ref a_8, .ref a_9, .ref a_10, .ref a_11])), (a_2, .inl (cy 1, 9, .inl f_0)), (a_3, .inl (cy 1, 9, .inl f_1)), (a_4, .inl (cy 1, 3, .inl f_2)), (a_5, .inl (cy 1, 210, .inl f_3)), (a_7, .inl (cy 1, 48, .inl f_5)), (a_8, .inl (cy 1, 30, .inl f_6)), (a_9, .inl (cy 1, 30, .inl f_7)), (a_10, .inl (cy 1, 30, .inl f_8)), (a_11, .inl (cy 1, 30, .inl f_9)), (a_0, .inr (0, [.int i_0, .int i_1, .int i_2, .int i_3, .int i_4, .int i_5, .int i_6, .int i_7, .ref a_12, .ref a_13, .ref a_14, .ref a_15, .ref a_16, .ref a_17, .ref a_18, .ref a_19, .ref a_20, .ref a_21])), (a_12, .inl (cy 1, 9, .inl f_0)), (a_13, .inl (cy 1, 9, .inl f_1)), (a_14, .inl (cy 1, 3, .inl f_2)), (a_15, .inl (cy 1, 210, .inl f_3)), (a_17, .inl (cy 1, 48, .inl f_15)), (a_18, .inl (cy 1, 30, .inl f_16)), (a_19, .inl (cy 1, 30, .inl f_17)), (a_20, .inl (cy 1, 30, .inl f_18)), (a_21, .inl (cy 1, 30, .inl f_19))]) rfl (fun _ => rfl) (fun _ => rfl) ?_
  clear hP hD hS
  clear H locs
  intro _u H locs hw (hP : va_P G vwCl [(a_1, .inr (0, [.int i_0, .int i_1, .int i_2, .int i_3, .int i_4, .int i_5, .int i_6, .int i_7, .ref a_2, .ref a_3, .ref a_4, .ref a_5, .ref a_6, .ref a_7, .ref a_8, .ref a_9, .ref a_10, .ref a_11])), (a_2, .inl (cy 1, 9, .inl f_0)), (a_3, .inl (cy 1, 9, .inl f_1)), (a_4, .inl (cy 1, 3, .inl f_2)), (a_5, .inl (cy 1, 210, .inl f_3)), (a_6, .inl (cy 1, 6, .inl f_4)), (a_7, .inl (cy 1, 48, .inl f_5)), (a_8, .inl (cy 1, 30, .inl f_6)), (a_9, .inl (cy 1, 30, .inl f_7)), (a_10, .inl (cy 1, 30, .inl f_8)), (a_11, .inl (cy 1, 30, .inl f_9)), (a_0, .inr (0, [.int i_0, .int i_1, .int i_2, .int i_3, .int i_4, .int i_5, .int i_6, .int i_7, .ref a_12, .ref a_13, .ref a_14, .ref a_15, .ref a_16, .ref a_17, .ref a_18, .ref a_19, .ref a_20, .ref a_21])), (a_12, .inl (cy 1, 9, .inl f_0)), (a_13, .inl (cy 1, 9, .inl f_1)), (a_14, .inl (cy 1, 3, .inl f_2)), (a_15, .inl (cy 1, 210, .inl f_3)), (a_16, .inl (cy 1, 6, .inl f_4)), (a_17, .inl (cy 1, 48, .inl f_15)), (a_18, .inl (cy 1, 30, .inl f_16)), (a_19, .inl (cy 1, 30, .inl f_17)), (a_20, .inl (cy 1, 30, .inl f_18)), (a_21, .inl (cy 1, 30, .inl f_19))] H) (hD : va_D A [(a_1, .inr (0, [.int i_0, .int i_1, .int i_2, .int i_3, .int i_4, .int i_5, .int i_6, .int i_7, .ref a_2, .ref a_3, .ref a_4, .ref a_5, .ref a_6, .ref a_7, .ref a_8, .ref a_9, .ref a_10, .ref a_11])), (a_2, .inl (cy 1, 9, .inl f_0)), (a_3, .inl (cy 1, 9, .inl f_1)), (a_4, .inl (cy 1, 3, .inl f_2)), (a_5, .inl (cy 1, 210, .inl f_3)), (a_6, .inl (cy 1, 6, .inl f_4)), (a_7, .inl (cy 1, 48, .inl f_5)), (a_8, .inl (cy 1, 30, .inl f_6)), (a_9, .inl (cy 1, 30, .inl f_7)), (a_10, .inl (cy 1, 30, .inl f_8)), (a_11, .inl (cy 1, 30, .inl f_9)), (a_0, .inr (0, [.int i_0, .int i_1, .int i_2, .int i_3, .int i_4, .int i_5, .int i_6, .int i_7, .ref a_12, .ref a_13, .ref a_14, .ref a_15, .ref a_16, .ref a_17, .ref a_18, .ref a_19, .ref a_20, .ref a_21])), (a_12, .inl (cy 1, 9, .inl f_0)), (a_13, .inl (cy 1, 9, .inl f_1)), (a_14, .inl (cy 1, 3, .inl f_2)), (a_15, .inl (cy 1, 210, .inl f_3)), (a_16, .inl (cy 1, 6, .inl f_4)), (a_17, .inl (cy 1, 48, .inl f_15)), (a_18, .inl (cy 1, 30, .inl f_16)), (a_19, .inl (cy 1, 30, .inl f_17)), (a_20, .inl (cy 1, 30, .inl f_18)), (a_21, .inl (cy 1, 30, .inl f_19))]) hS
  refine lv_aload_n hx hb dX0_copyFrom_119 rfl (lv_at hl 1 rfl) ?_
  refine va_get (D := G) (ci := 0) (v := .ref a_7) (C := RX0) (T := TX0) (N := 18) hx hb hts (mm_i inlX0) hown hK.1 hP 0 rfl rfl 13 (by decide) (mm_h hts mm_w77) (fun _ h9 => h9) rfl dX0_copyFrom_120 ?_
  refine lv_aload_n hx hb dX0_copyFrom_123 rfl (lv_at hl 0 rfl) ?_
  refine va_get (D := G) (ci := 0) (v := .ref a_17) (C := RX0) (T := TX0) (N := 18) hx hb hts (mm_i inlX0) hown hK.1 hP 11 rfl rfl 13 (by decide) (mm_h hts mm_w77) (fun _ h9 => h9) rfl dX0_copyFrom_124 ?_
  refine mm_finv (va_runS (As := [.ref a_7, .ref a_17]) (rest := []) ⟨hx, hb, hml, hown, hts⟩ (K327_X0_copyRow l G cy H.size a_7 a_17 f_5 f_15 h12 h29) (va_cwS 2 hts (mm_gS mm_w381 mm_w382 mm_w28 mm_w383) rfl rfl rfl hs_X0_copyRow ⟨by rw [hRf]; exact Nat.le_of_ble_eq_true rfl, by rw [hRl]; exact Nat.le_of_ble_eq_true rfl⟩) (mm_preS hK hZ hS hA hP hD [6, 17] rfl rfl) rfl rfl hl.1 rfl (lv_room (Nat.le_of_ble_eq_true rfl)) dX0_copyFrom_127 ⟨by rw [hRc]; exact Nat.le_of_ble_eq_true rfl, by rw [hRs]; exact Nat.le_of_ble_eq_true rfl⟩) hP hD hS hA (fun u : Unit => [(a_1, .inr (0, [.int i_0, .int i_1, .int i_2, .int i_3, .int i_4, .int i_5, .int i_6, .int i_7, .ref a_2, .ref a_3, .ref a_4, .ref a_5, .ref a_6, .ref a_7, .ref a_8, .ref a_9, .ref a_10, .ref a_11])), (a_2, .inl (cy 1, 9, .inl f_0)), (a_3, .inl (cy 1, 9, .inl f_1)), (a_4, .inl (cy 1, 3, .inl f_2)), (a_5, .inl (cy 1, 210, .inl f_3)), (a_6, .inl (cy 1, 6, .inl f_4)), (a_7, .inl (cy 1, 48, .inl f_5)), (a_8, .inl (cy 1, 30, .inl f_6)), (a_9, .inl (cy 1, 30, .inl f_7)), (a_10, .inl (cy 1, 30, .inl f_8)), (a_11, .inl (cy 1, 30, .inl f_9)), (a_0, .inr (0, [.int i_0, .int i_1, .int i_2, .int i_3, .int i_4, .int i_5, .int i_6, .int i_7, .ref a_12, .ref a_13, .ref a_14, .ref a_15, .ref a_16, .ref a_17, .ref a_18, .ref a_19, .ref a_20, .ref a_21])), (a_12, .inl (cy 1, 9, .inl f_0)), (a_13, .inl (cy 1, 9, .inl f_1)), (a_14, .inl (cy 1, 3, .inl f_2)), (a_15, .inl (cy 1, 210, .inl f_3)), (a_16, .inl (cy 1, 6, .inl f_4)), (a_17, .inl (cy 1, 48, .inl f_5)), (a_18, .inl (cy 1, 30, .inl f_16)), (a_19, .inl (cy 1, 30, .inl f_17)), (a_20, .inl (cy 1, 30, .inl f_18)), (a_21, .inl (cy 1, 30, .inl f_19))]) [6, 17] [0, 1, 2, 3, 4, 5, 7, 8, 9, 10, 11, 12, 13, 14, 15, 16, 18, 19, 20, 21] (n := 22) (fun _ => rfl) (by decide +kernel) (by decide +kernel) rfl (fun _ => rfl) (wr := [(a_1, .inr (0, [.int i_0, .int i_1, .int i_2, .int i_3, .int i_4, .int i_5, .int i_6, .int i_7, .ref a_2, .ref a_3, .ref a_4, .ref a_5, .ref a_6, .ref a_7, .ref a_8, .ref a_9, .ref a_10, .ref a_11])), (a_2, .inl (cy 1, 9, .inl f_0)), (a_3, .inl (cy 1, 9, .inl f_1)), (a_4, .inl (cy 1, 3, .inl f_2)), (a_5, .inl (cy 1, 210, .inl f_3)), (a_6, .inl (cy 1, 6, .inl f_4)), (a_8, .inl (cy 1, 30, .inl f_6)), (a_9, .inl (cy 1, 30, .inl f_7)), (a_10, .inl (cy 1, 30, .inl f_8)), (a_11, .inl (cy 1, 30, .inl f_9)), (a_0, .inr (0, [.int i_0, .int i_1, .int i_2, .int i_3, .int i_4, .int i_5, .int i_6, .int i_7, .ref a_12, .ref a_13, .ref a_14, .ref a_15, .ref a_16, .ref a_17, .ref a_18, .ref a_19, .ref a_20, .ref a_21])), (a_12, .inl (cy 1, 9, .inl f_0)), (a_13, .inl (cy 1, 9, .inl f_1)), (a_14, .inl (cy 1, 3, .inl f_2)), (a_15, .inl (cy 1, 210, .inl f_3)), (a_16, .inl (cy 1, 6, .inl f_4)), (a_18, .inl (cy 1, 30, .inl f_16)), (a_19, .inl (cy 1, 30, .inl f_17)), (a_20, .inl (cy 1, 30, .inl f_18)), (a_21, .inl (cy 1, 30, .inl f_19))]) rfl (fun _ => rfl) (fun _ => rfl) ?_
  clear hP hD hS
  clear H locs
  intro _u H locs hw (hP : va_P G vwCl [(a_1, .inr (0, [.int i_0, .int i_1, .int i_2, .int i_3, .int i_4, .int i_5, .int i_6, .int i_7, .ref a_2, .ref a_3, .ref a_4, .ref a_5, .ref a_6, .ref a_7, .ref a_8, .ref a_9, .ref a_10, .ref a_11])), (a_2, .inl (cy 1, 9, .inl f_0)), (a_3, .inl (cy 1, 9, .inl f_1)), (a_4, .inl (cy 1, 3, .inl f_2)), (a_5, .inl (cy 1, 210, .inl f_3)), (a_6, .inl (cy 1, 6, .inl f_4)), (a_7, .inl (cy 1, 48, .inl f_5)), (a_8, .inl (cy 1, 30, .inl f_6)), (a_9, .inl (cy 1, 30, .inl f_7)), (a_10, .inl (cy 1, 30, .inl f_8)), (a_11, .inl (cy 1, 30, .inl f_9)), (a_0, .inr (0, [.int i_0, .int i_1, .int i_2, .int i_3, .int i_4, .int i_5, .int i_6, .int i_7, .ref a_12, .ref a_13, .ref a_14, .ref a_15, .ref a_16, .ref a_17, .ref a_18, .ref a_19, .ref a_20, .ref a_21])), (a_12, .inl (cy 1, 9, .inl f_0)), (a_13, .inl (cy 1, 9, .inl f_1)), (a_14, .inl (cy 1, 3, .inl f_2)), (a_15, .inl (cy 1, 210, .inl f_3)), (a_16, .inl (cy 1, 6, .inl f_4)), (a_17, .inl (cy 1, 48, .inl f_5)), (a_18, .inl (cy 1, 30, .inl f_16)), (a_19, .inl (cy 1, 30, .inl f_17)), (a_20, .inl (cy 1, 30, .inl f_18)), (a_21, .inl (cy 1, 30, .inl f_19))] H) (hD : va_D A [(a_1, .inr (0, [.int i_0, .int i_1, .int i_2, .int i_3, .int i_4, .int i_5, .int i_6, .int i_7, .ref a_2, .ref a_3, .ref a_4, .ref a_5, .ref a_6, .ref a_7, .ref a_8, .ref a_9, .ref a_10, .ref a_11])), (a_2, .inl (cy 1, 9, .inl f_0)), (a_3, .inl (cy 1, 9, .inl f_1)), (a_4, .inl (cy 1, 3, .inl f_2)), (a_5, .inl (cy 1, 210, .inl f_3)), (a_6, .inl (cy 1, 6, .inl f_4)), (a_7, .inl (cy 1, 48, .inl f_5)), (a_8, .inl (cy 1, 30, .inl f_6)), (a_9, .inl (cy 1, 30, .inl f_7)), (a_10, .inl (cy 1, 30, .inl f_8)), (a_11, .inl (cy 1, 30, .inl f_9)), (a_0, .inr (0, [.int i_0, .int i_1, .int i_2, .int i_3, .int i_4, .int i_5, .int i_6, .int i_7, .ref a_12, .ref a_13, .ref a_14, .ref a_15, .ref a_16, .ref a_17, .ref a_18, .ref a_19, .ref a_20, .ref a_21])), (a_12, .inl (cy 1, 9, .inl f_0)), (a_13, .inl (cy 1, 9, .inl f_1)), (a_14, .inl (cy 1, 3, .inl f_2)), (a_15, .inl (cy 1, 210, .inl f_3)), (a_16, .inl (cy 1, 6, .inl f_4)), (a_17, .inl (cy 1, 48, .inl f_5)), (a_18, .inl (cy 1, 30, .inl f_16)), (a_19, .inl (cy 1, 30, .inl f_17)), (a_20, .inl (cy 1, 30, .inl f_18)), (a_21, .inl (cy 1, 30, .inl f_19))]) hS
  refine lv_aload_n hx hb dX0_copyFrom_130 rfl (lv_at hl 1 rfl) ?_
  refine va_get (D := G) (ci := 0) (v := .ref a_8) (C := RX0) (T := TX0) (N := 18) hx hb hts (mm_i inlX0) hown hK.1 hP 0 rfl rfl 14 (by decide) (mm_h hts mm_w78) (fun _ h9 => h9) rfl dX0_copyFrom_131 ?_
  refine lv_aload_n hx hb dX0_copyFrom_134 rfl (lv_at hl 0 rfl) ?_
  refine va_get (D := G) (ci := 0) (v := .ref a_18) (C := RX0) (T := TX0) (N := 18) hx hb hts (mm_i inlX0) hown hK.1 hP 11 rfl rfl 14 (by decide) (mm_h hts mm_w78) (fun _ h9 => h9) rfl dX0_copyFrom_135 ?_
  refine mm_finv (va_runS (As := [.ref a_8, .ref a_18]) (rest := []) ⟨hx, hb, hml, hown, hts⟩ (K328_X0_copyRow l G cy H.size a_8 a_18 f_6 f_16 h13 h30) (va_cwS 2 hts (mm_gS mm_w381 mm_w382 mm_w28 mm_w383) rfl rfl rfl hs_X0_copyRow ⟨by rw [hRf]; exact Nat.le_of_ble_eq_true rfl, by rw [hRl]; exact Nat.le_of_ble_eq_true rfl⟩) (mm_preS hK hZ hS hA hP hD [7, 18] rfl rfl) rfl rfl hl.1 rfl (lv_room (Nat.le_of_ble_eq_true rfl)) dX0_copyFrom_138 ⟨by rw [hRc]; exact Nat.le_of_ble_eq_true rfl, by rw [hRs]; exact Nat.le_of_ble_eq_true rfl⟩) hP hD hS hA (fun u : Unit => [(a_1, .inr (0, [.int i_0, .int i_1, .int i_2, .int i_3, .int i_4, .int i_5, .int i_6, .int i_7, .ref a_2, .ref a_3, .ref a_4, .ref a_5, .ref a_6, .ref a_7, .ref a_8, .ref a_9, .ref a_10, .ref a_11])), (a_2, .inl (cy 1, 9, .inl f_0)), (a_3, .inl (cy 1, 9, .inl f_1)), (a_4, .inl (cy 1, 3, .inl f_2)), (a_5, .inl (cy 1, 210, .inl f_3)), (a_6, .inl (cy 1, 6, .inl f_4)), (a_7, .inl (cy 1, 48, .inl f_5)), (a_8, .inl (cy 1, 30, .inl f_6)), (a_9, .inl (cy 1, 30, .inl f_7)), (a_10, .inl (cy 1, 30, .inl f_8)), (a_11, .inl (cy 1, 30, .inl f_9)), (a_0, .inr (0, [.int i_0, .int i_1, .int i_2, .int i_3, .int i_4, .int i_5, .int i_6, .int i_7, .ref a_12, .ref a_13, .ref a_14, .ref a_15, .ref a_16, .ref a_17, .ref a_18, .ref a_19, .ref a_20, .ref a_21])), (a_12, .inl (cy 1, 9, .inl f_0)), (a_13, .inl (cy 1, 9, .inl f_1)), (a_14, .inl (cy 1, 3, .inl f_2)), (a_15, .inl (cy 1, 210, .inl f_3)), (a_16, .inl (cy 1, 6, .inl f_4)), (a_17, .inl (cy 1, 48, .inl f_5)), (a_18, .inl (cy 1, 30, .inl f_6)), (a_19, .inl (cy 1, 30, .inl f_17)), (a_20, .inl (cy 1, 30, .inl f_18)), (a_21, .inl (cy 1, 30, .inl f_19))]) [7, 18] [0, 1, 2, 3, 4, 5, 6, 8, 9, 10, 11, 12, 13, 14, 15, 16, 17, 19, 20, 21] (n := 22) (fun _ => rfl) (by decide +kernel) (by decide +kernel) rfl (fun _ => rfl) (wr := [(a_1, .inr (0, [.int i_0, .int i_1, .int i_2, .int i_3, .int i_4, .int i_5, .int i_6, .int i_7, .ref a_2, .ref a_3, .ref a_4, .ref a_5, .ref a_6, .ref a_7, .ref a_8, .ref a_9, .ref a_10, .ref a_11])), (a_2, .inl (cy 1, 9, .inl f_0)), (a_3, .inl (cy 1, 9, .inl f_1)), (a_4, .inl (cy 1, 3, .inl f_2)), (a_5, .inl (cy 1, 210, .inl f_3)), (a_6, .inl (cy 1, 6, .inl f_4)), (a_7, .inl (cy 1, 48, .inl f_5)), (a_9, .inl (cy 1, 30, .inl f_7)), (a_10, .inl (cy 1, 30, .inl f_8)), (a_11, .inl (cy 1, 30, .inl f_9)), (a_0, .inr (0, [.int i_0, .int i_1, .int i_2, .int i_3, .int i_4, .int i_5, .int i_6, .int i_7, .ref a_12, .ref a_13, .ref a_14, .ref a_15, .ref a_16, .ref a_17, .ref a_18, .ref a_19, .ref a_20, .ref a_21])), (a_12, .inl (cy 1, 9, .inl f_0)), (a_13, .inl (cy 1, 9, .inl f_1)), (a_14, .inl (cy 1, 3, .inl f_2)), (a_15, .inl (cy 1, 210, .inl f_3)), (a_16, .inl (cy 1, 6, .inl f_4)), (a_17, .inl (cy 1, 48, .inl f_5)), (a_19, .inl (cy 1, 30, .inl f_17)), (a_20, .inl (cy 1, 30, .inl f_18)), (a_21, .inl (cy 1, 30, .inl f_19))]) rfl (fun _ => rfl) (fun _ => rfl) ?_
  clear hP hD hS
  clear H locs
  intro _u H locs hw (hP : va_P G vwCl [(a_1, .inr (0, [.int i_0, .int i_1, .int i_2, .int i_3, .int i_4, .int i_5, .int i_6, .int i_7, .ref a_2, .ref a_3, .ref a_4, .ref a_5, .ref a_6, .ref a_7, .ref a_8, .ref a_9, .ref a_10, .ref a_11])), (a_2, .inl (cy 1, 9, .inl f_0)), (a_3, .inl (cy 1, 9, .inl f_1)), (a_4, .inl (cy 1, 3, .inl f_2)), (a_5, .inl (cy 1, 210, .inl f_3)), (a_6, .inl (cy 1, 6, .inl f_4)), (a_7, .inl (cy 1, 48, .inl f_5)), (a_8, .inl (cy 1, 30, .inl f_6)), (a_9, .inl (cy 1, 30, .inl f_7)), (a_10, .inl (cy 1, 30, .inl f_8)), (a_11, .inl (cy 1, 30, .inl f_9)), (a_0, .inr (0, [.int i_0, .int i_1, .int i_2, .int i_3, .int i_4, .int i_5, .int i_6, .int i_7, .ref a_12, .ref a_13, .ref a_14, .ref a_15, .ref a_16, .ref a_17, .ref a_18, .ref a_19, .ref a_20, .ref a_21])), (a_12, .inl (cy 1, 9, .inl f_0)), (a_13, .inl (cy 1, 9, .inl f_1)), (a_14, .inl (cy 1, 3, .inl f_2)), (a_15, .inl (cy 1, 210, .inl f_3)), (a_16, .inl (cy 1, 6, .inl f_4)), (a_17, .inl (cy 1, 48, .inl f_5)), (a_18, .inl (cy 1, 30, .inl f_6)), (a_19, .inl (cy 1, 30, .inl f_17)), (a_20, .inl (cy 1, 30, .inl f_18)), (a_21, .inl (cy 1, 30, .inl f_19))] H) (hD : va_D A [(a_1, .inr (0, [.int i_0, .int i_1, .int i_2, .int i_3, .int i_4, .int i_5, .int i_6, .int i_7, .ref a_2, .ref a_3, .ref a_4, .ref a_5, .ref a_6, .ref a_7, .ref a_8, .ref a_9, .ref a_10, .ref a_11])), (a_2, .inl (cy 1, 9, .inl f_0)), (a_3, .inl (cy 1, 9, .inl f_1)), (a_4, .inl (cy 1, 3, .inl f_2)), (a_5, .inl (cy 1, 210, .inl f_3)), (a_6, .inl (cy 1, 6, .inl f_4)), (a_7, .inl (cy 1, 48, .inl f_5)), (a_8, .inl (cy 1, 30, .inl f_6)), (a_9, .inl (cy 1, 30, .inl f_7)), (a_10, .inl (cy 1, 30, .inl f_8)), (a_11, .inl (cy 1, 30, .inl f_9)), (a_0, .inr (0, [.int i_0, .int i_1, .int i_2, .int i_3, .int i_4, .int i_5, .int i_6, .int i_7, .ref a_12, .ref a_13, .ref a_14, .ref a_15, .ref a_16, .ref a_17, .ref a_18, .ref a_19, .ref a_20, .ref a_21])), (a_12, .inl (cy 1, 9, .inl f_0)), (a_13, .inl (cy 1, 9, .inl f_1)), (a_14, .inl (cy 1, 3, .inl f_2)), (a_15, .inl (cy 1, 210, .inl f_3)), (a_16, .inl (cy 1, 6, .inl f_4)), (a_17, .inl (cy 1, 48, .inl f_5)), (a_18, .inl (cy 1, 30, .inl f_6)), (a_19, .inl (cy 1, 30, .inl f_17)), (a_20, .inl (cy 1, 30, .inl f_18)), (a_21, .inl (cy 1, 30, .inl f_19))]) hS
  refine lv_aload_n hx hb dX0_copyFrom_141 rfl (lv_at hl 1 rfl) ?_
  refine va_get (D := G) (ci := 0) (v := .ref a_9) (C := RX0) (T := TX0) (N := 18) hx hb hts (mm_i inlX0) hown hK.1 hP 0 rfl rfl 15 (by decide) (mm_h hts mm_w79) (fun _ h9 => h9) rfl dX0_copyFrom_142 ?_
  refine lv_aload_n hx hb dX0_copyFrom_145 rfl (lv_at hl 0 rfl) ?_
  refine va_get (D := G) (ci := 0) (v := .ref a_19) (C := RX0) (T := TX0) (N := 18) hx hb hts (mm_i inlX0) hown hK.1 hP 11 rfl rfl 15 (by decide) (mm_h hts mm_w79) (fun _ h9 => h9) rfl dX0_copyFrom_146 ?_
  refine mm_finv (va_runS (As := [.ref a_9, .ref a_19]) (rest := []) ⟨hx, hb, hml, hown, hts⟩ (K329_X0_copyRow l G cy H.size a_9 a_19 f_7 f_17 h14 h31) (va_cwS 2 hts (mm_gS mm_w381 mm_w382 mm_w28 mm_w383) rfl rfl rfl hs_X0_copyRow ⟨by rw [hRf]; exact Nat.le_of_ble_eq_true rfl, by rw [hRl]; exact Nat.le_of_ble_eq_true rfl⟩) (mm_preS hK hZ hS hA hP hD [8, 19] rfl rfl) rfl rfl hl.1 rfl (lv_room (Nat.le_of_ble_eq_true rfl)) dX0_copyFrom_149 ⟨by rw [hRc]; exact Nat.le_of_ble_eq_true rfl, by rw [hRs]; exact Nat.le_of_ble_eq_true rfl⟩) hP hD hS hA (fun u : Unit => [(a_1, .inr (0, [.int i_0, .int i_1, .int i_2, .int i_3, .int i_4, .int i_5, .int i_6, .int i_7, .ref a_2, .ref a_3, .ref a_4, .ref a_5, .ref a_6, .ref a_7, .ref a_8, .ref a_9, .ref a_10, .ref a_11])), (a_2, .inl (cy 1, 9, .inl f_0)), (a_3, .inl (cy 1, 9, .inl f_1)), (a_4, .inl (cy 1, 3, .inl f_2)), (a_5, .inl (cy 1, 210, .inl f_3)), (a_6, .inl (cy 1, 6, .inl f_4)), (a_7, .inl (cy 1, 48, .inl f_5)), (a_8, .inl (cy 1, 30, .inl f_6)), (a_9, .inl (cy 1, 30, .inl f_7)), (a_10, .inl (cy 1, 30, .inl f_8)), (a_11, .inl (cy 1, 30, .inl f_9)), (a_0, .inr (0, [.int i_0, .int i_1, .int i_2, .int i_3, .int i_4, .int i_5, .int i_6, .int i_7, .ref a_12, .ref a_13, .ref a_14, .ref a_15, .ref a_16, .ref a_17, .ref a_18, .ref a_19, .ref a_20, .ref a_21])), (a_12, .inl (cy 1, 9, .inl f_0)), (a_13, .inl (cy 1, 9, .inl f_1)), (a_14, .inl (cy 1, 3, .inl f_2)), (a_15, .inl (cy 1, 210, .inl f_3)), (a_16, .inl (cy 1, 6, .inl f_4)), (a_17, .inl (cy 1, 48, .inl f_5)), (a_18, .inl (cy 1, 30, .inl f_6)), (a_19, .inl (cy 1, 30, .inl f_7)), (a_20, .inl (cy 1, 30, .inl f_18)), (a_21, .inl (cy 1, 30, .inl f_19))]) [8, 19] [0, 1, 2, 3, 4, 5, 6, 7, 9, 10, 11, 12, 13, 14, 15, 16, 17, 18, 20, 21] (n := 22) (fun _ => rfl) (by decide +kernel) (by decide +kernel) rfl (fun _ => rfl) (wr := [(a_1, .inr (0, [.int i_0, .int i_1, .int i_2, .int i_3, .int i_4, .int i_5, .int i_6, .int i_7, .ref a_2, .ref a_3, .ref a_4, .ref a_5, .ref a_6, .ref a_7, .ref a_8, .ref a_9, .ref a_10, .ref a_11])), (a_2, .inl (cy 1, 9, .inl f_0)), (a_3, .inl (cy 1, 9, .inl f_1)), (a_4, .inl (cy 1, 3, .inl f_2)), (a_5, .inl (cy 1, 210, .inl f_3)), (a_6, .inl (cy 1, 6, .inl f_4)), (a_7, .inl (cy 1, 48, .inl f_5)), (a_8, .inl (cy 1, 30, .inl f_6)), (a_10, .inl (cy 1, 30, .inl f_8)), (a_11, .inl (cy 1, 30, .inl f_9)), (a_0, .inr (0, [.int i_0, .int i_1, .int i_2, .int i_3, .int i_4, .int i_5, .int i_6, .int i_7, .ref a_12, .ref a_13, .ref a_14, .ref a_15, .ref a_16, .ref a_17, .ref a_18, .ref a_19, .ref a_20, .ref a_21])), (a_12, .inl (cy 1, 9, .inl f_0)), (a_13, .inl (cy 1, 9, .inl f_1)), (a_14, .inl (cy 1, 3, .inl f_2)), (a_15, .inl (cy 1, 210, .inl f_3)), (a_16, .inl (cy 1, 6, .inl f_4)), (a_17, .inl (cy 1, 48, .inl f_5)), (a_18, .inl (cy 1, 30, .inl f_6)), (a_20, .inl (cy 1, 30, .inl f_18)), (a_21, .inl (cy 1, 30, .inl f_19))]) rfl (fun _ => rfl) (fun _ => rfl) ?_
  clear hP hD hS
  clear H locs
  intro _u H locs hw (hP : va_P G vwCl [(a_1, .inr (0, [.int i_0, .int i_1, .int i_2, .int i_3, .int i_4, .int i_5, .int i_6, .int i_7, .ref a_2, .ref a_3, .ref a_4, .ref a_5, .ref a_6, .ref a_7, .ref a_8, .ref a_9, .ref a_10, .ref a_11])), (a_2, .inl (cy 1, 9, .inl f_0)), (a_3, .inl (cy 1, 9, .inl f_1)), (a_4, .inl (cy 1, 3, .inl f_2)), (a_5, .inl (cy 1, 210, .inl f_3)), (a_6, .inl (cy 1, 6, .inl f_4)), (a_7, .inl (cy 1, 48, .inl f_5)), (a_8, .inl (cy 1, 30, .inl f_6)), (a_9, .inl (cy 1, 30, .inl f_7)), (a_10, .inl (cy 1, 30, .inl f_8)), (a_11, .inl (cy 1, 30, .inl f_9)), (a_0, .inr (0, [.int i_0, .int i_1, .int i_2, .int i_3, .int i_4, .int i_5, .int i_6, .int i_7, .ref a_12, .ref a_13, .ref a_14, .ref a_15, .ref a_16, .ref a_17, .ref a_18, .ref a_19, .ref a_20, .ref a_21])), (a_12, .inl (cy 1, 9, .inl f_0)), (a_13, .inl (cy 1, 9, .inl f_1)), (a_14, .inl (cy 1, 3, .inl f_2)), (a_15, .inl (cy 1, 210, .inl f_3)), (a_16, .inl (cy 1, 6, .inl f_4)), (a_17, .inl (cy 1, 48, .inl f_5)), (a_18, .inl (cy 1, 30, .inl f_6)), (a_19, .inl (cy 1, 30, .inl f_7)), (a_20, .inl (cy 1, 30, .inl f_18)), (a_21, .inl (cy 1, 30, .inl f_19))] H) (hD : va_D A [(a_1, .inr (0, [.int i_0, .int i_1, .int i_2, .int i_3, .int i_4, .int i_5, .int i_6, .int i_7, .ref a_2, .ref a_3, .ref a_4, .ref a_5, .ref a_6, .ref a_7, .ref a_8, .ref a_9, .ref a_10, .ref a_11])), (a_2, .inl (cy 1, 9, .inl f_0)), (a_3, .inl (cy 1, 9, .inl f_1)), (a_4, .inl (cy 1, 3, .inl f_2)), (a_5, .inl (cy 1, 210, .inl f_3)), (a_6, .inl (cy 1, 6, .inl f_4)), (a_7, .inl (cy 1, 48, .inl f_5)), (a_8, .inl (cy 1, 30, .inl f_6)), (a_9, .inl (cy 1, 30, .inl f_7)), (a_10, .inl (cy 1, 30, .inl f_8)), (a_11, .inl (cy 1, 30, .inl f_9)), (a_0, .inr (0, [.int i_0, .int i_1, .int i_2, .int i_3, .int i_4, .int i_5, .int i_6, .int i_7, .ref a_12, .ref a_13, .ref a_14, .ref a_15, .ref a_16, .ref a_17, .ref a_18, .ref a_19, .ref a_20, .ref a_21])), (a_12, .inl (cy 1, 9, .inl f_0)), (a_13, .inl (cy 1, 9, .inl f_1)), (a_14, .inl (cy 1, 3, .inl f_2)), (a_15, .inl (cy 1, 210, .inl f_3)), (a_16, .inl (cy 1, 6, .inl f_4)), (a_17, .inl (cy 1, 48, .inl f_5)), (a_18, .inl (cy 1, 30, .inl f_6)), (a_19, .inl (cy 1, 30, .inl f_7)), (a_20, .inl (cy 1, 30, .inl f_18)), (a_21, .inl (cy 1, 30, .inl f_19))]) hS
  refine lv_aload_n hx hb dX0_copyFrom_152 rfl (lv_at hl 1 rfl) ?_
  refine va_get (D := G) (ci := 0) (v := .ref a_10) (C := RX0) (T := TX0) (N := 18) hx hb hts (mm_i inlX0) hown hK.1 hP 0 rfl rfl 16 (by decide) (mm_h hts mm_w80) (fun _ h9 => h9) rfl dX0_copyFrom_153 ?_
  refine lv_aload_n hx hb dX0_copyFrom_156 rfl (lv_at hl 0 rfl) ?_
  refine va_get (D := G) (ci := 0) (v := .ref a_20) (C := RX0) (T := TX0) (N := 18) hx hb hts (mm_i inlX0) hown hK.1 hP 11 rfl rfl 16 (by decide) (mm_h hts mm_w80) (fun _ h9 => h9) rfl dX0_copyFrom_157 ?_
  refine mm_finv (va_runS (As := [.ref a_10, .ref a_20]) (rest := []) ⟨hx, hb, hml, hown, hts⟩ (K330_X0_copyRow l G cy H.size a_10 a_20 f_8 f_18 h15 h32) (va_cwS 2 hts (mm_gS mm_w381 mm_w382 mm_w28 mm_w383) rfl rfl rfl hs_X0_copyRow ⟨by rw [hRf]; exact Nat.le_of_ble_eq_true rfl, by rw [hRl]; exact Nat.le_of_ble_eq_true rfl⟩) (mm_preS hK hZ hS hA hP hD [9, 20] rfl rfl) rfl rfl hl.1 rfl (lv_room (Nat.le_of_ble_eq_true rfl)) dX0_copyFrom_160 ⟨by rw [hRc]; exact Nat.le_of_ble_eq_true rfl, by rw [hRs]; exact Nat.le_of_ble_eq_true rfl⟩) hP hD hS hA (fun u : Unit => [(a_1, .inr (0, [.int i_0, .int i_1, .int i_2, .int i_3, .int i_4, .int i_5, .int i_6, .int i_7, .ref a_2, .ref a_3, .ref a_4, .ref a_5, .ref a_6, .ref a_7, .ref a_8, .ref a_9, .ref a_10, .ref a_11])), (a_2, .inl (cy 1, 9, .inl f_0)), (a_3, .inl (cy 1, 9, .inl f_1)), (a_4, .inl (cy 1, 3, .inl f_2)), (a_5, .inl (cy 1, 210, .inl f_3)), (a_6, .inl (cy 1, 6, .inl f_4)), (a_7, .inl (cy 1, 48, .inl f_5)), (a_8, .inl (cy 1, 30, .inl f_6)), (a_9, .inl (cy 1, 30, .inl f_7)), (a_10, .inl (cy 1, 30, .inl f_8)), (a_11, .inl (cy 1, 30, .inl f_9)), (a_0, .inr (0, [.int i_0, .int i_1, .int i_2, .int i_3, .int i_4, .int i_5, .int i_6, .int i_7, .ref a_12, .ref a_13, .ref a_14, .ref a_15, .ref a_16, .ref a_17, .ref a_18, .ref a_19, .ref a_20, .ref a_21])), (a_12, .inl (cy 1, 9, .inl f_0)), (a_13, .inl (cy 1, 9, .inl f_1)), (a_14, .inl (cy 1, 3, .inl f_2)), (a_15, .inl (cy 1, 210, .inl f_3)), (a_16, .inl (cy 1, 6, .inl f_4)), (a_17, .inl (cy 1, 48, .inl f_5)), (a_18, .inl (cy 1, 30, .inl f_6)), (a_19, .inl (cy 1, 30, .inl f_7)), (a_20, .inl (cy 1, 30, .inl f_8)), (a_21, .inl (cy 1, 30, .inl f_19))]) [9, 20] [0, 1, 2, 3, 4, 5, 6, 7, 8, 10, 11, 12, 13, 14, 15, 16, 17, 18, 19, 21] (n := 22) (fun _ => rfl) (by decide +kernel) (by decide +kernel) rfl (fun _ => rfl) (wr := [(a_1, .inr (0, [.int i_0, .int i_1, .int i_2, .int i_3, .int i_4, .int i_5, .int i_6, .int i_7, .ref a_2, .ref a_3, .ref a_4, .ref a_5, .ref a_6, .ref a_7, .ref a_8, .ref a_9, .ref a_10, .ref a_11])), (a_2, .inl (cy 1, 9, .inl f_0)), (a_3, .inl (cy 1, 9, .inl f_1)), (a_4, .inl (cy 1, 3, .inl f_2)), (a_5, .inl (cy 1, 210, .inl f_3)), (a_6, .inl (cy 1, 6, .inl f_4)), (a_7, .inl (cy 1, 48, .inl f_5)), (a_8, .inl (cy 1, 30, .inl f_6)), (a_9, .inl (cy 1, 30, .inl f_7)), (a_11, .inl (cy 1, 30, .inl f_9)), (a_0, .inr (0, [.int i_0, .int i_1, .int i_2, .int i_3, .int i_4, .int i_5, .int i_6, .int i_7, .ref a_12, .ref a_13, .ref a_14, .ref a_15, .ref a_16, .ref a_17, .ref a_18, .ref a_19, .ref a_20, .ref a_21])), (a_12, .inl (cy 1, 9, .inl f_0)), (a_13, .inl (cy 1, 9, .inl f_1)), (a_14, .inl (cy 1, 3, .inl f_2)), (a_15, .inl (cy 1, 210, .inl f_3)), (a_16, .inl (cy 1, 6, .inl f_4)), (a_17, .inl (cy 1, 48, .inl f_5)), (a_18, .inl (cy 1, 30, .inl f_6)), (a_19, .inl (cy 1, 30, .inl f_7)), (a_21, .inl (cy 1, 30, .inl f_19))]) rfl (fun _ => rfl) (fun _ => rfl) ?_
  clear hP hD hS
  clear H locs
  intro _u H locs hw (hP : va_P G vwCl [(a_1, .inr (0, [.int i_0, .int i_1, .int i_2, .int i_3, .int i_4, .int i_5, .int i_6, .int i_7, .ref a_2, .ref a_3, .ref a_4, .ref a_5, .ref a_6, .ref a_7, .ref a_8, .ref a_9, .ref a_10, .ref a_11])), (a_2, .inl (cy 1, 9, .inl f_0)), (a_3, .inl (cy 1, 9, .inl f_1)), (a_4, .inl (cy 1, 3, .inl f_2)), (a_5, .inl (cy 1, 210, .inl f_3)), (a_6, .inl (cy 1, 6, .inl f_4)), (a_7, .inl (cy 1, 48, .inl f_5)), (a_8, .inl (cy 1, 30, .inl f_6)), (a_9, .inl (cy 1, 30, .inl f_7)), (a_10, .inl (cy 1, 30, .inl f_8)), (a_11, .inl (cy 1, 30, .inl f_9)), (a_0, .inr (0, [.int i_0, .int i_1, .int i_2, .int i_3, .int i_4, .int i_5, .int i_6, .int i_7, .ref a_12, .ref a_13, .ref a_14, .ref a_15, .ref a_16, .ref a_17, .ref a_18, .ref a_19, .ref a_20, .ref a_21])), (a_12, .inl (cy 1, 9, .inl f_0)), (a_13, .inl (cy 1, 9, .inl f_1)), (a_14, .inl (cy 1, 3, .inl f_2)), (a_15, .inl (cy 1, 210, .inl f_3)), (a_16, .inl (cy 1, 6, .inl f_4)), (a_17, .inl (cy 1, 48, .inl f_5)), (a_18, .inl (cy 1, 30, .inl f_6)), (a_19, .inl (cy 1, 30, .inl f_7)), (a_20, .inl (cy 1, 30, .inl f_8)), (a_21, .inl (cy 1, 30, .inl f_19))] H) (hD : va_D A [(a_1, .inr (0, [.int i_0, .int i_1, .int i_2, .int i_3, .int i_4, .int i_5, .int i_6, .int i_7, .ref a_2, .ref a_3, .ref a_4, .ref a_5, .ref a_6, .ref a_7, .ref a_8, .ref a_9, .ref a_10, .ref a_11])), (a_2, .inl (cy 1, 9, .inl f_0)), (a_3, .inl (cy 1, 9, .inl f_1)), (a_4, .inl (cy 1, 3, .inl f_2)), (a_5, .inl (cy 1, 210, .inl f_3)), (a_6, .inl (cy 1, 6, .inl f_4)), (a_7, .inl (cy 1, 48, .inl f_5)), (a_8, .inl (cy 1, 30, .inl f_6)), (a_9, .inl (cy 1, 30, .inl f_7)), (a_10, .inl (cy 1, 30, .inl f_8)), (a_11, .inl (cy 1, 30, .inl f_9)), (a_0, .inr (0, [.int i_0, .int i_1, .int i_2, .int i_3, .int i_4, .int i_5, .int i_6, .int i_7, .ref a_12, .ref a_13, .ref a_14, .ref a_15, .ref a_16, .ref a_17, .ref a_18, .ref a_19, .ref a_20, .ref a_21])), (a_12, .inl (cy 1, 9, .inl f_0)), (a_13, .inl (cy 1, 9, .inl f_1)), (a_14, .inl (cy 1, 3, .inl f_2)), (a_15, .inl (cy 1, 210, .inl f_3)), (a_16, .inl (cy 1, 6, .inl f_4)), (a_17, .inl (cy 1, 48, .inl f_5)), (a_18, .inl (cy 1, 30, .inl f_6)), (a_19, .inl (cy 1, 30, .inl f_7)), (a_20, .inl (cy 1, 30, .inl f_8)), (a_21, .inl (cy 1, 30, .inl f_19))]) hS
  refine lv_aload_n hx hb dX0_copyFrom_163 rfl (lv_at hl 1 rfl) ?_
  refine va_get (D := G) (ci := 0) (v := .ref a_11) (C := RX0) (T := TX0) (N := 18) hx hb hts (mm_i inlX0) hown hK.1 hP 0 rfl rfl 17 (by decide) (mm_h hts mm_w81) (fun _ h9 => h9) rfl dX0_copyFrom_164 ?_
  refine lv_aload_n hx hb dX0_copyFrom_167 rfl (lv_at hl 0 rfl) ?_
  refine va_get (D := G) (ci := 0) (v := .ref a_21) (C := RX0) (T := TX0) (N := 18) hx hb hts (mm_i inlX0) hown hK.1 hP 11 rfl rfl 17 (by decide) (mm_h hts mm_w81) (fun _ h9 => h9) rfl dX0_copyFrom_168 ?_
  refine mm_finv (va_runS (As := [.ref a_11, .ref a_21]) (rest := []) ⟨hx, hb, hml, hown, hts⟩ (K328_X0_copyRow l G cy H.size a_11 a_21 f_9 f_19 h16 h33) (va_cwS 2 hts (mm_gS mm_w381 mm_w382 mm_w28 mm_w383) rfl rfl rfl hs_X0_copyRow ⟨by rw [hRf]; exact Nat.le_of_ble_eq_true rfl, by rw [hRl]; exact Nat.le_of_ble_eq_true rfl⟩) (mm_preS hK hZ hS hA hP hD [10, 21] rfl rfl) rfl rfl hl.1 rfl (lv_room (Nat.le_of_ble_eq_true rfl)) dX0_copyFrom_171 ⟨by rw [hRc]; exact Nat.le_of_ble_eq_true rfl, by rw [hRs]; exact Nat.le_of_ble_eq_true rfl⟩) hP hD hS hA (fun u : Unit => [(a_1, .inr (0, [.int i_0, .int i_1, .int i_2, .int i_3, .int i_4, .int i_5, .int i_6, .int i_7, .ref a_2, .ref a_3, .ref a_4, .ref a_5, .ref a_6, .ref a_7, .ref a_8, .ref a_9, .ref a_10, .ref a_11])), (a_2, .inl (cy 1, 9, .inl f_0)), (a_3, .inl (cy 1, 9, .inl f_1)), (a_4, .inl (cy 1, 3, .inl f_2)), (a_5, .inl (cy 1, 210, .inl f_3)), (a_6, .inl (cy 1, 6, .inl f_4)), (a_7, .inl (cy 1, 48, .inl f_5)), (a_8, .inl (cy 1, 30, .inl f_6)), (a_9, .inl (cy 1, 30, .inl f_7)), (a_10, .inl (cy 1, 30, .inl f_8)), (a_11, .inl (cy 1, 30, .inl f_9)), (a_0, .inr (0, [.int i_0, .int i_1, .int i_2, .int i_3, .int i_4, .int i_5, .int i_6, .int i_7, .ref a_12, .ref a_13, .ref a_14, .ref a_15, .ref a_16, .ref a_17, .ref a_18, .ref a_19, .ref a_20, .ref a_21])), (a_12, .inl (cy 1, 9, .inl f_0)), (a_13, .inl (cy 1, 9, .inl f_1)), (a_14, .inl (cy 1, 3, .inl f_2)), (a_15, .inl (cy 1, 210, .inl f_3)), (a_16, .inl (cy 1, 6, .inl f_4)), (a_17, .inl (cy 1, 48, .inl f_5)), (a_18, .inl (cy 1, 30, .inl f_6)), (a_19, .inl (cy 1, 30, .inl f_7)), (a_20, .inl (cy 1, 30, .inl f_8)), (a_21, .inl (cy 1, 30, .inl f_9))]) [10, 21] [0, 1, 2, 3, 4, 5, 6, 7, 8, 9, 11, 12, 13, 14, 15, 16, 17, 18, 19, 20] (n := 22) (fun _ => rfl) (by decide +kernel) (by decide +kernel) rfl (fun _ => rfl) (wr := [(a_1, .inr (0, [.int i_0, .int i_1, .int i_2, .int i_3, .int i_4, .int i_5, .int i_6, .int i_7, .ref a_2, .ref a_3, .ref a_4, .ref a_5, .ref a_6, .ref a_7, .ref a_8, .ref a_9, .ref a_10, .ref a_11])), (a_2, .inl (cy 1, 9, .inl f_0)), (a_3, .inl (cy 1, 9, .inl f_1)), (a_4, .inl (cy 1, 3, .inl f_2)), (a_5, .inl (cy 1, 210, .inl f_3)), (a_6, .inl (cy 1, 6, .inl f_4)), (a_7, .inl (cy 1, 48, .inl f_5)), (a_8, .inl (cy 1, 30, .inl f_6)), (a_9, .inl (cy 1, 30, .inl f_7)), (a_10, .inl (cy 1, 30, .inl f_8)), (a_0, .inr (0, [.int i_0, .int i_1, .int i_2, .int i_3, .int i_4, .int i_5, .int i_6, .int i_7, .ref a_12, .ref a_13, .ref a_14, .ref a_15, .ref a_16, .ref a_17, .ref a_18, .ref a_19, .ref a_20, .ref a_21])), (a_12, .inl (cy 1, 9, .inl f_0)), (a_13, .inl (cy 1, 9, .inl f_1)), (a_14, .inl (cy 1, 3, .inl f_2)), (a_15, .inl (cy 1, 210, .inl f_3)), (a_16, .inl (cy 1, 6, .inl f_4)), (a_17, .inl (cy 1, 48, .inl f_5)), (a_18, .inl (cy 1, 30, .inl f_6)), (a_19, .inl (cy 1, 30, .inl f_7)), (a_20, .inl (cy 1, 30, .inl f_8))]) rfl (fun _ => rfl) (fun _ => rfl) ?_
  clear hP hD hS
  clear H locs
  intro _u H locs hw (hP : va_P G vwCl [(a_1, .inr (0, [.int i_0, .int i_1, .int i_2, .int i_3, .int i_4, .int i_5, .int i_6, .int i_7, .ref a_2, .ref a_3, .ref a_4, .ref a_5, .ref a_6, .ref a_7, .ref a_8, .ref a_9, .ref a_10, .ref a_11])), (a_2, .inl (cy 1, 9, .inl f_0)), (a_3, .inl (cy 1, 9, .inl f_1)), (a_4, .inl (cy 1, 3, .inl f_2)), (a_5, .inl (cy 1, 210, .inl f_3)), (a_6, .inl (cy 1, 6, .inl f_4)), (a_7, .inl (cy 1, 48, .inl f_5)), (a_8, .inl (cy 1, 30, .inl f_6)), (a_9, .inl (cy 1, 30, .inl f_7)), (a_10, .inl (cy 1, 30, .inl f_8)), (a_11, .inl (cy 1, 30, .inl f_9)), (a_0, .inr (0, [.int i_0, .int i_1, .int i_2, .int i_3, .int i_4, .int i_5, .int i_6, .int i_7, .ref a_12, .ref a_13, .ref a_14, .ref a_15, .ref a_16, .ref a_17, .ref a_18, .ref a_19, .ref a_20, .ref a_21])), (a_12, .inl (cy 1, 9, .inl f_0)), (a_13, .inl (cy 1, 9, .inl f_1)), (a_14, .inl (cy 1, 3, .inl f_2)), (a_15, .inl (cy 1, 210, .inl f_3)), (a_16, .inl (cy 1, 6, .inl f_4)), (a_17, .inl (cy 1, 48, .inl f_5)), (a_18, .inl (cy 1, 30, .inl f_6)), (a_19, .inl (cy 1, 30, .inl f_7)), (a_20, .inl (cy 1, 30, .inl f_8)), (a_21, .inl (cy 1, 30, .inl f_9))] H) (hD : va_D A [(a_1, .inr (0, [.int i_0, .int i_1, .int i_2, .int i_3, .int i_4, .int i_5, .int i_6, .int i_7, .ref a_2, .ref a_3, .ref a_4, .ref a_5, .ref a_6, .ref a_7, .ref a_8, .ref a_9, .ref a_10, .ref a_11])), (a_2, .inl (cy 1, 9, .inl f_0)), (a_3, .inl (cy 1, 9, .inl f_1)), (a_4, .inl (cy 1, 3, .inl f_2)), (a_5, .inl (cy 1, 210, .inl f_3)), (a_6, .inl (cy 1, 6, .inl f_4)), (a_7, .inl (cy 1, 48, .inl f_5)), (a_8, .inl (cy 1, 30, .inl f_6)), (a_9, .inl (cy 1, 30, .inl f_7)), (a_10, .inl (cy 1, 30, .inl f_8)), (a_11, .inl (cy 1, 30, .inl f_9)), (a_0, .inr (0, [.int i_0, .int i_1, .int i_2, .int i_3, .int i_4, .int i_5, .int i_6, .int i_7, .ref a_12, .ref a_13, .ref a_14, .ref a_15, .ref a_16, .ref a_17, .ref a_18, .ref a_19, .ref a_20, .ref a_21])), (a_12, .inl (cy 1, 9, .inl f_0)), (a_13, .inl (cy 1, 9, .inl f_1)), (a_14, .inl (cy 1, 3, .inl f_2)), (a_15, .inl (cy 1, 210, .inl f_3)), (a_16, .inl (cy 1, 6, .inl f_4)), (a_17, .inl (cy 1, 48, .inl f_5)), (a_18, .inl (cy 1, 30, .inl f_6)), (a_19, .inl (cy 1, 30, .inl f_7)), (a_20, .inl (cy 1, 30, .inl f_8)), (a_21, .inl (cy 1, 30, .inl f_9))]) hS
  subst hAe
  rw [hQ]
  exact W.vret hx hb hr (fun t ht hW => ⟨⟨(), rfl, trivial, by rw [ht]; exact hP, hK.warm hW, hD⟩, hS.F ht⟩) hS.2.2 dX0_copyFrom_174

set_option maxHeartbeats 4000000 in
set_option maxRecDepth 100000 in
theorem K332_X0_taken (l : Launch) (G : va_G) (cy : Nat → ClassId) (sz : Nat) (a_0 : Nat) (i_0 : Int32) (i_1 : Int32) (i_2 : Int32) (i_3 : Int32) (i_4 : Int32) (i_5 : Int32) (i_6 : Int32) (i_7 : Int32) (i_8 : Int32) (i_9 : Int32) (i_10 : Int32) (a_1 : Nat) (a_2 : Nat) (a_3 : Nat) (a_4 : Nat) (a_5 : Nat) (a_6 : Nat) (a_7 : Nat) (a_8 : Nat) (a_9 : Nat) (a_10 : Nat) (f_0 : Nat → Int32) (h0 : mm_rg i_0 0 2) (h1 : mm_rg i_1 0 6) (h2 : mm_rg i_2 0 9) (h3 : mm_ar f_0 0 9)  : mm_CI l yX0_taken (mm_ws yX0_taken cX0_taken 4 (some .int)) ({ frames := 0, cells := 0, slots := 0, locals := 0 } : Room) G cy sz [(a_0, .inr (0, [.int i_3, .int i_4, .int i_5, .int i_6, .int i_7, .int i_8, .int i_9, .int i_10, .ref a_1, .ref a_2, .ref a_3, .ref a_4, .ref a_5, .ref a_6, .ref a_7, .ref a_8, .ref a_9, .ref a_10])), (a_4, .inl (cy 1, 210, .inl f_0))] [.ref a_0, .int i_0, .int i_1, .int i_2] (fun u : Unit => [(a_0, .inr (0, [.int i_3, .int i_4, .int i_5, .int i_6, .int i_7, .int i_8, .int i_9, .int i_10, .ref a_1, .ref a_2, .ref a_3, .ref a_4, .ref a_5, .ref a_6, .ref a_7, .ref a_8, .ref a_9, .ref a_10])), (a_4, .inl (cy 1, 210, .inl f_0))]) (fun (r : Int32) (u : Unit) => mm_rg r 0 9) 0 0 := by
  refine mm_begin (lv := [(0, .ref a_0), (1, .int i_0), (2, .int i_1), (3, .int i_2)]) (by decide) (Nat.le_of_ble_eq_true rfl) rfl ?_
  intro p e s m below meth c A ls R args Q H locs hRe hQ hAe hx hb hr hlocks hml hown hnm hts hsz hA hS hP hK hD hZ hl
  have hRf : R.frames = 0 := by rw [hRe]
  have hRl : R.locals = 0 := by rw [hRe]
  have hRc : R.cells = 0 := by rw [hRe]
  have hRs : R.slots = 0 := by rw [hRe]
  refine lv_aload_n hx hb dX0_taken_0 rfl (lv_at hl 0 rfl) ?_
  refine va_get (D := G) (ci := 0) (v := .ref a_4) (C := RX0) (T := TX0) (N := 18) hx hb hts (mm_i inlX0) hown hK.1 hP 0 rfl rfl 11 (by decide) (mm_h hts mm_w75) (fun _ h9 => h9) rfl dX0_taken_1 ?_
  refine lv_iload_n hx hb dX0_taken_4 rfl (lv_at hl 1 rfl) ?_
  refine lv_bipush (v := 7) hx hb dX0_taken_5 (by decide) ?_
  refine lv_imul hx hb dX0_taken_7 ?_
  refine lv_topi (fun v1 ev1 => ?_)
  have rv1 : mm_rg v1 0 14 := mm_mul ev1 h0 mm_k7 (by decide) (by decide)
  refine lv_iload_n hx hb dX0_taken_8 rfl (lv_at hl 2 rfl) ?_
  refine lv_iadd hx hb dX0_taken_9 ?_
  refine lv_topi (fun v2 ev2 => ?_)
  have rv2 : mm_rg v2 0 20 := mm_add ev2 rv1 h1 (by decide) (by decide)
  have tv2 := mm_addE ev2 rv1 h1 (by decide)
  refine lv_bipush (v := 10) hx hb dX0_taken_10 (by decide) ?_
  refine lv_imul hx hb dX0_taken_12 ?_
  refine lv_topi (fun v3 ev3 => ?_)
  have rv3 : mm_rg v3 0 200 := mm_mul ev3 rv2 mm_k10 (by decide) (by decide)
  refine lv_iload_n hx hb dX0_taken_13 rfl (lv_at hl 3 rfl) ?_
  refine lv_iadd hx hb dX0_taken_14 ?_
  refine lv_topi (fun v4 ev4 => ?_)
  have rv4 : mm_rg v4 0 209 := mm_add ev4 rv3 h2 (by decide) (by decide)
  have tv4 := mm_addE ev4 rv3 h2 (by decide)
  refine va_iald hx hb hK.1 hP 1 1 rfl rfl (mm_in rv4 (by decide)) dX0_taken_15 ?_
  refine lv_topi (fun v5 ev5 => ?_)
  have rv5 : mm_rg v5 0 9 := mm_eqv ev5 (h3 _)
  subst hAe
  rw [hQ]
  exact W.iret (v := v5) hx hb hr (fun t ht hW => ⟨⟨v5, (), rfl, rv5, by rw [ht]; exact hP, hK.warm hW, hD⟩, hS.F ht⟩) hS.2.2 dX0_taken_16

set_option maxHeartbeats 4000000 in
set_option maxRecDepth 100000 in
theorem K333_X1_cycleOf (l : Launch) (G : va_G) (cy : Nat → ClassId) (sz : Nat) (a_0 : Nat) (i_0 : Int32) (a_1 : Nat) (a_2 : Nat) (i_1 : Int32) (i_2 : Int32) (i_3 : Int32) (f_0 : Nat → Int32) (h0 : mm_rg i_0 0 9) (h1 : mm_ar f_0 0 9)  : mm_CI l yX1_cycleOf (mm_ws yX1_cycleOf cX1_cycleOf 4 (some .int)) ({ frames := 0, cells := 0, slots := 0, locals := 0 } : Room) G cy sz [(a_0, .inr (1, [.ref a_1, .ref a_2, .int i_1, .int i_2, .int i_3])), (a_2, .inl (cy 1, 10, .inl f_0))] [.ref a_0, .int i_0] (fun u : Unit => [(a_0, .inr (1, [.ref a_1, .ref a_2, .int i_1, .int i_2, .int i_3])), (a_2, .inl (cy 1, 10, .inl f_0))]) (fun (r : Int32) (u : Unit) => mm_rg r 1 10) 0 0 := by
  refine mm_begin (lv := [(0, .ref a_0), (1, .int i_0)]) (by decide) (Nat.le_of_ble_eq_true rfl) rfl ?_
  intro p e s m below meth c A ls R args Q H locs hRe hQ hAe hx hb hr hlocks hml hown hnm hts hsz hA hS hP hK hD hZ hl
  have hRf : R.frames = 0 := by rw [hRe]
  have hRl : R.locals = 0 := by rw [hRe]
  have hRc : R.cells = 0 := by rw [hRe]
  have hRs : R.slots = 0 := by rw [hRe]
  refine lv_iload_n hx hb dX1_cycleOf_0 rfl (lv_at hl 1 rfl) ?_
  refine lv_istore_n (lv' := [(2, .int i_0), (0, .ref a_0), (1, .int i_0)]) hx hb dX1_cycleOf_1 rfl hl (by decide) rfl ?_
  clear hl
  clear ls
  intro ls hl
  refine lv_iconst (v := 1) hx hb dX1_cycleOf_2 (by decide) ?_
  refine lv_istore_n (lv' := [(3, .int 1), (2, .int i_0), (0, .ref a_0), (1, .int i_0)]) hx hb dX1_cycleOf_3 rfl hl (by decide) rfl ?_
  clear hl
  clear ls
  intro ls hl
  have L4_68 : ∀ (n : Nat) (x4_3_67 : Int32) (x4_2_68 : Int32), mm_rg x4_3_67 1 11 → mm_rg x4_2_68 0 9 → (11 - x4_3_67.toInt).toNat < n → ∀ (H : Heap) (locs : List Loc), va_P G vwCl [(a_0, .inr (1, [.ref a_1, .ref a_2, .int i_1, .int i_2, .int i_3])), (a_2, .inl (cy 1, 10, .inl f_0))] H → va_D A [(a_0, .inr (1, [.ref a_1, .ref a_2, .int i_1, .int i_2, .int i_3])), (a_2, .inl (cy 1, 10, .inl f_0))] → va_S A s.heap H locs → ∀ (ls : Array Slot), lv_has ls 4 [(3, .int x4_3_67), (2, .int x4_2_68), (0, .ref a_0), (1, .int i_0)] → W p l e R s m args below meth c H locs 0 0 Q (F0 m 4 ls []) := by
    intro n
    induction n with
    | zero => intro x4_3_67 x4_2_68 rx4_3_67 rx4_2_68 hm; exact absurd hm (Nat.not_lt_zero _)
    | succ n ih4 =>
      intro x4_3_67 x4_2_68 rx4_3_67 rx4_2_68 hm4 H locs hP hD hS ls hl
      refine lv_iload_n hx hb dX1_cycleOf_4 rfl (lv_at hl 0 rfl) ?_
      refine lv_bipush (v := 10) hx hb dX1_cycleOf_5 (by decide) ?_
      refine lv_icmp_gt (tgt := 30) hx hb dX1_cycleOf_7 (by decide) (fun c70 => ?_) (fun c70 => ?_)
      · have q71 := mm_ltR (lo := 11) (mm_lt c70) mm_k10 rx4_3_67 (by decide)
        refine lv_iconst (v := 1) hx hb dX1_cycleOf_30 (by decide) ?_
        subst hAe
        rw [hQ]
        exact W.iret (v := 1) hx hb hr (fun t ht hW => ⟨⟨1, (), rfl, (mm_wk mm_k1 (by decide)), by rw [ht]; exact hP, hK.warm hW, hD⟩, hS.F ht⟩) hS.2.2 dX1_cycleOf_31
      · have q72 := mm_leL (mm_nlt c70) rx4_3_67 mm_k10
        refine lv_aload_n hx hb dX1_cycleOf_10 rfl (lv_at hl 2 rfl) ?_
        refine va_get (D := G) (ci := 1) (v := .ref a_2) (C := RX1) (T := TX1) (N := 5) hx hb hts (mm_i inlX1) hown hK.1 hP 0 rfl rfl 1 (by decide) (mm_h hts mm_w96) (fun _ h9 => h9) rfl dX1_cycleOf_11 ?_
        refine lv_iload_n hx hb dX1_cycleOf_14 rfl (lv_at hl 1 rfl) ?_
        refine va_iald hx hb hK.1 hP 1 1 rfl rfl (mm_in rx4_2_68 (by decide)) dX1_cycleOf_15 ?_
        refine lv_topi (fun v73 ev73 => ?_)
        have rv73 : mm_rg v73 0 9 := mm_eqv ev73 (h1 _)
        refine lv_istore_n (lv' := [(2, .int v73), (3, .int x4_3_67), (0, .ref a_0), (1, .int i_0)]) hx hb dX1_cycleOf_16 rfl hl (by decide) rfl ?_
        clear hl
        clear ls
        intro ls hl
        refine lv_iload_n hx hb dX1_cycleOf_17 rfl (lv_at hl 0 rfl) ?_
        refine lv_iload_n hx hb dX1_cycleOf_18 rfl (lv_at hl 3 rfl) ?_
        refine lv_icmp_ne (tgt := 24) hx hb dX1_cycleOf_19 (by decide) (fun c74 => ?_) (fun c74 => ?_)
        · obtain ⟨v75, ev75⟩ : ∃ y : Int32, y = x4_3_67 + 1 := ⟨_, rfl⟩
          refine lv_iinc (v := v75) (lv' := [(3, .int v75), (2, .int v73), (0, .ref a_0), (1, .int i_0)]) hx hb dX1_cycleOf_24 hl (k := 1) rfl (by rw [ev75]; rfl) (by decide) rfl ?_
          clear hl
          clear ls
          intro ls hl
          have rv75 : mm_rg v75 2 11 := mm_add ev75 q72 mm_k1 (by decide) (by decide)
          have tv75 := mm_addEc ev75 q72 mm_k1 (by decide) (k := 1) (by decide)
          refine lv_goto (tgt := 4) hx hb dX1_cycleOf_27 (by decide) ?_
          exact ih4 v75 v73 (mm_wk rv75 (by decide)) rv73 (mm_mu hm4 tv75 (by decide) (rv75).2 (by decide)) H locs hP hD hS ls (lv_sub hl [0, 1, 2, 3] rfl)
        · refine lv_iload_n hx hb dX1_cycleOf_22 rfl (lv_at hl 1 rfl) ?_
          subst hAe
          rw [hQ]
          exact W.iret (v := x4_3_67) hx hb hr (fun t ht hW => ⟨⟨x4_3_67, (), rfl, q72, by rw [ht]; exact hP, hK.warm hW, hD⟩, hS.F ht⟩) hS.2.2 dX1_cycleOf_23
  exact L4_68 _ 1 i_0 (mm_wk mm_k1 (by decide)) h0 (Nat.lt_succ_self _) H locs hP hD hS ls (lv_sub hl [0, 1, 2, 3] rfl)

set_option maxHeartbeats 4000000 in
set_option maxRecDepth 100000 in
theorem K334_X11_greatestDivisor (l : Launch) (G : va_G) (cy : Nat → ClassId) (sz : Nat) (j_0 : Int64) (j_1 : Int64)   : mm_CL l yX11_greatestDivisor (mm_ws yX11_greatestDivisor cX11_greatestDivisor 11 (some .long)) ({ frames := 0, cells := 0, slots := 0, locals := 0 } : Room) G cy sz [] [.long j_0, .long j_1] (fun u : Unit => []) (fun (r : Int64) (u : Unit) => True) 0 0 := by
  refine mm_begin (lv := [(0, .long j_0), (2, .long j_1)]) (by decide) (Nat.le_of_ble_eq_true rfl) rfl ?_
  intro p e s m below meth c A ls R args Q H locs hRe hQ hAe hx hb hr hlocks hml hown hnm hts hsz hA hS hP hK hD hZ hl
  have hRf : R.frames = 0 := by rw [hRe]
  have hRl : R.locals = 0 := by rw [hRe]
  have hRc : R.cells = 0 := by rw [hRe]
  have hRs : R.slots = 0 := by rw [hRe]
  refine lv_lload_n hx hb dX11_greatestDivisor_0 rfl (lv_at hl 0 rfl) ?_
  refine lv_lstore (lv' := [(4, .long j_0), (0, .long j_0), (2, .long j_1)]) hx hb dX11_greatestDivisor_1 hl (by decide) rfl ?_
  clear hl
  clear ls
  intro ls hl
  refine lv_lload_n hx hb dX11_greatestDivisor_3 rfl (lv_at hl 2 rfl) ?_
  refine lv_lstore (lv' := [(6, .long j_1), (4, .long j_0), (0, .long j_0), (2, .long j_1)]) hx hb dX11_greatestDivisor_4 hl (by decide) rfl ?_
  clear hl
  clear ls
  intro ls hl
  refine lv_iconst (v := 0) hx hb dX11_greatestDivisor_6 (by decide) ?_
  refine lv_istore (lv' := [(8, .int 0), (6, .long j_1), (4, .long j_0), (0, .long j_0), (2, .long j_1)]) hx hb dX11_greatestDivisor_7 hl (by decide) rfl ?_
  clear hl
  clear ls
  intro ls hl
  have L9_109 : ∀ (n : Nat) (x9_8_107 : Int32) (x9_6_108 : Int64) (x9_4_109 : Int64), mm_rg x9_8_107 0 100 → (100 - x9_8_107.toInt).toNat < n → ∀ (H : Heap) (locs : List Loc), va_P G vwCl [] H → va_D A [] → va_S A s.heap H locs → ∀ (ls : Array Slot), lv_has ls 11 [(8, .int x9_8_107), (6, .long x9_6_108), (4, .long x9_4_109), (0, .long j_0), (2, .long j_1)] → W p l e R s m args below meth c H locs 0 0 Q (F0 m 9 ls []) := by
    intro n
    induction n with
    | zero => intro x9_8_107 x9_6_108 x9_4_109 rx9_8_107 hm; exact absurd hm (Nat.not_lt_zero _)
    | succ n ih9 =>
      intro x9_8_107 x9_6_108 x9_4_109 rx9_8_107 hm9 H locs hP hD hS ls hl
      refine lv_iload hx hb dX11_greatestDivisor_9 (lv_at hl 0 rfl) ?_
      refine lv_bipush (v := 100) hx hb dX11_greatestDivisor_11 (by decide) ?_
      refine lv_icmp_ge (tgt := 44) hx hb dX11_greatestDivisor_13 (by decide) (fun c111 => ?_) (fun c111 => ?_)
      · have q112 := mm_leR (mm_le c111) mm_k100 rx9_8_107
        refine lv_lload hx hb dX11_greatestDivisor_44 (lv_at hl 2 rfl) ?_
        subst hAe
        rw [hQ]
        exact W.lret (v := x9_4_109) hx hb hr (fun t ht hW => ⟨⟨x9_4_109, (), rfl, trivial, by rw [ht]; exact hP, hK.warm hW, hD⟩, hS.F ht⟩) hS.2.2 dX11_greatestDivisor_46
      · have q113 := mm_ltL (h := 99) (mm_nle c111) rx9_8_107 mm_k100 (by decide)
        refine lv_lload hx hb dX11_greatestDivisor_16 (lv_at hl 1 rfl) ?_
        refine lv_lconst (v := 0) hx hb dX11_greatestDivisor_18 (by decide) ?_
        refine W.lcmp hx hb dX11_greatestDivisor_19 ?_
        refine lv_topi (fun v114 ev114 => ?_)
        refine lv_if_eq (tgt := 44) hx hb dX11_greatestDivisor_20 (by decide) (fun c115 => ?_) (fun c115 => ?_)
        · have q116 := mm_eqIl (lo := 0) (hi := 0) (mm_cmp_eq ev114 c115) (mm_topl x9_6_108) mm_kl0 (by decide)
          refine lv_lload hx hb dX11_greatestDivisor_44 (lv_at hl 2 rfl) ?_
          subst hAe
          rw [hQ]
          exact W.lret (v := x9_4_109) hx hb hr (fun t ht hW => ⟨⟨x9_4_109, (), rfl, trivial, by rw [ht]; exact hP, hK.warm hW, hD⟩, hS.F ht⟩) hS.2.2 dX11_greatestDivisor_46
        · refine lv_lload hx hb dX11_greatestDivisor_23 (lv_at hl 2 rfl) ?_
          refine lv_lload hx hb dX11_greatestDivisor_25 (lv_at hl 1 rfl) ?_
          refine lv_lrem hx hb dX11_greatestDivisor_27 (fun q => (mm_cmp_ne ev114 c115) (by rw [q])) ?_
          refine lv_topl (fun v117 ev117 => ?_)
          refine lv_lstore (lv' := [(9, .long v117), (8, .int x9_8_107), (6, .long x9_6_108), (4, .long x9_4_109), (0, .long j_0), (2, .long j_1)]) hx hb dX11_greatestDivisor_28 hl (by decide) rfl ?_
          clear hl
          clear ls
          intro ls hl
          refine lv_lload hx hb dX11_greatestDivisor_30 (lv_at hl 2 rfl) ?_
          refine lv_lstore (lv' := [(4, .long x9_6_108), (9, .long v117), (8, .int x9_8_107), (6, .long x9_6_108), (0, .long j_0), (2, .long j_1)]) hx hb dX11_greatestDivisor_32 hl (by decide) rfl ?_
          clear hl
          clear ls
          intro ls hl
          refine lv_lload hx hb dX11_greatestDivisor_34 (lv_at hl 1 rfl) ?_
          refine lv_lstore (lv' := [(6, .long v117), (4, .long x9_6_108), (9, .long v117), (8, .int x9_8_107), (0, .long j_0), (2, .long j_1)]) hx hb dX11_greatestDivisor_36 hl (by decide) rfl ?_
          clear hl
          clear ls
          intro ls hl
          obtain ⟨v118, ev118⟩ : ∃ y : Int32, y = x9_8_107 + 1 := ⟨_, rfl⟩
          refine lv_iinc (v := v118) (lv' := [(8, .int v118), (6, .long v117), (4, .long x9_6_108), (9, .long v117), (0, .long j_0), (2, .long j_1)]) hx hb dX11_greatestDivisor_38 hl (k := 3) rfl (by rw [ev118]; rfl) (by decide) rfl ?_
          clear hl
          clear ls
          intro ls hl
          have rv118 : mm_rg v118 1 100 := mm_add ev118 q113 mm_k1 (by decide) (by decide)
          have tv118 := mm_addEc ev118 q113 mm_k1 (by decide) (k := 1) (by decide)
          refine lv_goto (tgt := 9) hx hb dX11_greatestDivisor_41 (by decide) ?_
          exact ih9 v118 v117 x9_6_108 (mm_wk rv118 (by decide)) (mm_mu hm9 tv118 (by decide) (rv118).2 (by decide)) H locs hP hD hS ls (lv_sub hl [0, 1, 2, 4, 5] rfl)
  exact L9_109 _ 0 j_1 j_0 (mm_wk mm_k0 (by decide)) (Nat.lt_succ_self _) H locs hP hD hS ls (lv_sub hl [0, 1, 2, 3, 4] rfl)

set_option maxHeartbeats 4000000 in
set_option maxRecDepth 100000 in
theorem K335_X11_commonMultiple (l : Launch) (G : va_G) (cy : Nat → ClassId) (sz : Nat) (i_0 : Int32) (i_1 : Int32)   : mm_CI l yX11_commonMultiple (mm_ws yX11_commonMultiple cX11_commonMultiple 3 (some .int)) ({ frames := 1, cells := 0, slots := 0, locals := 30 } : Room) G cy sz [] [.int i_0, .int i_1] (fun u : Unit => []) (fun (r : Int32) (u : Unit) => True) 0 0 := by
  refine mm_begin (lv := [(0, .int i_0), (1, .int i_1)]) (by decide) (Nat.le_of_ble_eq_true rfl) rfl ?_
  intro p e s m below meth c A ls R args Q H locs hRe hQ hAe hx hb hr hlocks hml hown hnm hts hsz hA hS hP hK hD hZ hl
  have hRf : R.frames = 1 := by rw [hRe]
  have hRl : R.locals = 30 := by rw [hRe]
  have hRc : R.cells = 0 := by rw [hRe]
  have hRs : R.slots = 0 := by rw [hRe]
  refine lv_iload_n hx hb dX11_commonMultiple_0 rfl (lv_at hl 0 rfl) ?_
  obtain ⟨v1, ev1⟩ : ∃ y : Int64, y = i_0.toInt64 := ⟨_, rfl⟩
  refine lv_i2l hx hb dX11_commonMultiple_1 ev1.symm ?_
  have rv1 : mm_rl v1 (-2147483648) 2147483647 := mm_i2l ev1 (mm_top i_0)
  refine lv_iload_n hx hb dX11_commonMultiple_2 rfl (lv_at hl 1 rfl) ?_
  obtain ⟨v2, ev2⟩ : ∃ y : Int64, y = i_1.toInt64 := ⟨_, rfl⟩
  refine lv_i2l hx hb dX11_commonMultiple_3 ev2.symm ?_
  have rv2 : mm_rl v2 (-2147483648) 2147483647 := mm_i2l ev2 (mm_top i_1)
  refine mm_finlr (va_runS (As := [.long v1, .long v2]) (rest := []) ⟨hx, hb, hml, hown, hts⟩ (K334_X11_greatestDivisor l G cy H.size v1 v2 ) (va_cwS 2 hts (mm_gS mm_w413 mm_w414 mm_w2 mm_w415) rfl rfl rfl hs_X11_greatestDivisor ⟨by rw [hRf]; exact Nat.le_of_ble_eq_true rfl, by rw [hRl]; exact Nat.le_of_ble_eq_true rfl⟩) (mm_preS hK hZ hS hA hP hD [] rfl rfl) rfl rfl hl.1 rfl (lv_room (Nat.le_of_ble_eq_true rfl)) dX11_commonMultiple_4 ⟨by rw [hRc]; exact Nat.le_of_ble_eq_true rfl, by rw [hRs]; exact Nat.le_of_ble_eq_true rfl⟩) hP hD hS hA [] rfl (fun _ => rfl) ?_
  clear hP hD hS
  clear H locs
  intro v3 _u H locs hw hP hD hS
  obtain ⟨v4, ev4⟩ : ∃ y : Int32, y = v3.toInt32 := ⟨_, rfl⟩
  refine lv_l2i hx hb dX11_commonMultiple_7 ev4.symm ?_
  refine lv_istore_n (lv' := [(2, .int v4), (0, .int i_0), (1, .int i_1)]) hx hb dX11_commonMultiple_8 rfl hl (by decide) rfl ?_
  clear hl
  clear ls
  intro ls hl
  refine lv_iload_n hx hb dX11_commonMultiple_9 rfl (lv_at hl 0 rfl) ?_
  refine lv_if_ne (tgt := 17) hx hb dX11_commonMultiple_10 (by decide) (fun c5 => ?_) (fun c5 => ?_)
  · refine lv_iload_n hx hb dX11_commonMultiple_17 rfl (lv_at hl 1 rfl) ?_
    refine lv_iload_n hx hb dX11_commonMultiple_18 rfl (lv_at hl 0 rfl) ?_
    refine lv_idiv hx hb dX11_commonMultiple_19 (fun q => (mm_ne c5) (by rw [q])) ?_
    refine lv_topi (fun v6 ev6 => ?_)
    refine lv_iload_n hx hb dX11_commonMultiple_20 rfl (lv_at hl 2 rfl) ?_
    refine lv_imul hx hb dX11_commonMultiple_21 ?_
    refine lv_topi (fun v7 ev7 => ?_)
    subst hAe
    rw [hQ]
    exact W.iret (v := v7) hx hb hr (fun t ht hW => ⟨⟨v7, (), rfl, trivial, by rw [ht]; exact hP, hK.warm hW, hD⟩, hS.F ht⟩) hS.2.2 dX11_commonMultiple_22
  · have q8 := mm_eqI (lo := 0) (hi := 0) c5 (mm_top v4) mm_k0 (by decide)
    refine lv_iconst (v := 1) hx hb dX11_commonMultiple_13 (by decide) ?_
    refine lv_goto (tgt := 22) hx hb dX11_commonMultiple_14 (by decide) ?_
    subst hAe
    rw [hQ]
    exact W.iret (v := 1) hx hb hr (fun t ht hW => ⟨⟨1, (), rfl, trivial, by rw [ht]; exact hP, hK.warm hW, hD⟩, hS.F ht⟩) hS.2.2 dX11_commonMultiple_22

set_option maxHeartbeats 4000000 in
set_option maxRecDepth 100000 in
theorem K336_X1_layTurn (l : Launch) (G : va_G) (cy : Nat → ClassId) (sz : Nat) (a_0 : Nat) (a_1 : Nat) (i_0 : Int32) (i_1 : Int32) (i_2 : Int32) (i_3 : Int32) (i_4 : Int32) (i_5 : Int32) (i_6 : Int32) (i_7 : Int32) (i_8 : Int32) (a_2 : Nat) (a_3 : Nat) (a_4 : Nat) (a_5 : Nat) (a_6 : Nat) (a_7 : Nat) (a_8 : Nat) (a_9 : Nat) (a_10 : Nat) (a_11 : Nat) (f_0 : Nat → Int32) (f_1 : Nat → Int32) (a_12 : Nat) (a_13 : Nat) (i_9 : Int32) (i_10 : Int32) (i_11 : Int32) (f_2 : Nat → Int32) (h0 : mm_rg i_0 0 2) (h1 : mm_ar f_0 0 7) (h2 : mm_ar f_1 0 9) (h3 : mm_rg i_9 1 10) (h4 : mm_ar f_2 0 9)  : mm_CV l yX1_layTurn (mm_ws yX1_layTurn cX1_layTurn 6 (none)) ({ frames := 2, cells := 0, slots := 0, locals := 52 } : Room) G cy sz [(a_1, .inr (0, [.int i_1, .int i_2, .int i_3, .int i_4, .int i_5, .int i_6, .int i_7, .int i_8, .ref a_2, .ref a_3, .ref a_4, .ref a_5, .ref a_6, .ref a_7, .ref a_8, .ref a_9, .ref a_10, .ref a_11])), (a_4, .inl (cy 1, 3, .inl f_0)), (a_5, .inl (cy 1, 210, .inl f_1)), (a_0, .inr (1, [.ref a_12, .ref a_13, .int i_9, .int i_10, .int i_11])), (a_13, .inl (cy 1, 10, .inl f_2))] [.ref a_0, .ref a_1, .int i_0] (fun u : Int32 × (Nat → Int32) => [(a_1, .inr (0, [.int i_1, .int i_2, .int i_3, .int i_4, .int i_5, .int i_6, .int i_7, .int i_8, .ref a_2, .ref a_3, .ref a_4, .ref a_5, .ref a_6, .ref a_7, .ref a_8, .ref a_9, .ref a_10, .ref a_11])), (a_4, .inl (cy 1, 3, .inl f_0)), (a_5, .inl (cy 1, 210, .inl f_1)), (a_0, .inr (1, [.ref a_12, .ref a_13, .int i_9, .int u.1, .int i_11])), (a_13, .inl (cy 1, 10, .inl u.2))]) (fun u : Int32 × (Nat → Int32) => mm_ar u.2 0 9) 0 0 := by
  refine mm_begin (lv := [(0, .ref a_0), (1, .ref a_1), (2, .int i_0)]) (by decide) (Nat.le_of_ble_eq_true rfl) rfl ?_
  intro p e s m below meth c A ls R args Q H locs hRe hQ hAe hx hb hr hlocks hml hown hnm hts hsz hA hS hP hK hD hZ hl
  have hRf : R.frames = 2 := by rw [hRe]
  have hRl : R.locals = 52 := by rw [hRe]
  have hRc : R.cells = 0 := by rw [hRe]
  have hRs : R.slots = 0 := by rw [hRe]
  refine lv_iconst (v := 0) hx hb dX1_layTurn_0 (by decide) ?_
  refine lv_istore_n (lv' := [(3, .int 0), (0, .ref a_0), (1, .ref a_1), (2, .int i_0)]) hx hb dX1_layTurn_1 rfl hl (by decide) rfl ?_
  clear hl
  clear ls
  intro ls hl
  have L2_1079 : ∀ (n : Nat) (x2_3_1078 : Int32) (z2_4_1079 : Nat → Int32), mm_rg x2_3_1078 0 10 → mm_ar z2_4_1079 0 9 → (10 - x2_3_1078.toInt).toNat < n → ∀ (H : Heap) (locs : List Loc), va_P G vwCl [(a_1, .inr (0, [.int i_1, .int i_2, .int i_3, .int i_4, .int i_5, .int i_6, .int i_7, .int i_8, .ref a_2, .ref a_3, .ref a_4, .ref a_5, .ref a_6, .ref a_7, .ref a_8, .ref a_9, .ref a_10, .ref a_11])), (a_4, .inl (cy 1, 3, .inl f_0)), (a_5, .inl (cy 1, 210, .inl f_1)), (a_0, .inr (1, [.ref a_12, .ref a_13, .int i_9, .int i_10, .int i_11])), (a_13, .inl (cy 1, 10, .inl z2_4_1079))] H → va_D A [(a_1, .inr (0, [.int i_1, .int i_2, .int i_3, .int i_4, .int i_5, .int i_6, .int i_7, .int i_8, .ref a_2, .ref a_3, .ref a_4, .ref a_5, .ref a_6, .ref a_7, .ref a_8, .ref a_9, .ref a_10, .ref a_11])), (a_4, .inl (cy 1, 3, .inl f_0)), (a_5, .inl (cy 1, 210, .inl f_1)), (a_0, .inr (1, [.ref a_12, .ref a_13, .int i_9, .int i_10, .int i_11])), (a_13, .inl (cy 1, 10, .inl z2_4_1079))] → va_S A s.heap H locs → ∀ (ls : Array Slot), lv_has ls 6 [(3, .int x2_3_1078), (0, .ref a_0), (1, .ref a_1), (2, .int i_0)] → W p l e R s m args below meth c H locs 0 0 Q (F0 m 2 ls []) := by
    intro n
    induction n with
    | zero => intro x2_3_1078 z2_4_1079 rx2_3_1078 rz2_4_1079 hm; exact absurd hm (Nat.not_lt_zero _)
    | succ n ih2 =>
      intro x2_3_1078 z2_4_1079 rx2_3_1078 rz2_4_1079 hm2 H locs hP hD hS ls hl
      refine lv_iload_n hx hb dX1_layTurn_2 rfl (lv_at hl 0 rfl) ?_
      refine lv_aload_n hx hb dX1_layTurn_3 rfl (lv_at hl 1 rfl) ?_
      refine va_get (D := G) (ci := 1) (v := .int i_9) (C := RX1) (T := TX1) (N := 5) hx hb hts (mm_i inlX1) hown hK.1 hP 3 rfl rfl 2 (by decide) (mm_h hts mm_w97) (fun _ h9 => h9) rfl dX1_layTurn_4 ?_
      refine lv_icmp_ge (tgt := 59) hx hb dX1_layTurn_7 (by decide) (fun c1081 => ?_) (fun c1081 => ?_)
      · have q1082 := mm_leR (mm_le c1081) h3 rx2_3_1078
        refine lv_aload_n hx hb dX1_layTurn_59 rfl (lv_at hl 1 rfl) ?_
        refine lv_iconst (v := 1) hx hb dX1_layTurn_60 (by decide) ?_
        refine va_put (D := G) (ci := 1) (v := .int 1) (ty := tyX1 3) (C := RX1) (T := TX1) (N := 5) hx hb hts (mm_i inlX1) tyX1 tyX1_ok nmX1 hown hK.1 hP hD hS 3 rfl rfl 3 (by decide) (mm_h hts mm_w98) (fun _ h9 => h9) rfl (tyX1_ok 3 (by decide)) rfl rfl (Nat.le_of_ble_eq_true rfl) dX1_layTurn_61 ?_
        clear hP hD hS
        clear H locs
        intro H locs (hP : va_P G vwCl [(a_1, .inr (0, [.int i_1, .int i_2, .int i_3, .int i_4, .int i_5, .int i_6, .int i_7, .int i_8, .ref a_2, .ref a_3, .ref a_4, .ref a_5, .ref a_6, .ref a_7, .ref a_8, .ref a_9, .ref a_10, .ref a_11])), (a_4, .inl (cy 1, 3, .inl f_0)), (a_5, .inl (cy 1, 210, .inl f_1)), (a_0, .inr (1, [.ref a_12, .ref a_13, .int i_9, .int 1, .int i_11])), (a_13, .inl (cy 1, 10, .inl z2_4_1079))] H) (hD : va_D A [(a_1, .inr (0, [.int i_1, .int i_2, .int i_3, .int i_4, .int i_5, .int i_6, .int i_7, .int i_8, .ref a_2, .ref a_3, .ref a_4, .ref a_5, .ref a_6, .ref a_7, .ref a_8, .ref a_9, .ref a_10, .ref a_11])), (a_4, .inl (cy 1, 3, .inl f_0)), (a_5, .inl (cy 1, 210, .inl f_1)), (a_0, .inr (1, [.ref a_12, .ref a_13, .int i_9, .int 1, .int i_11])), (a_13, .inl (cy 1, 10, .inl z2_4_1079))]) hS
        refine lv_iconst (v := 0) hx hb dX1_layTurn_64 (by decide) ?_
        refine lv_istore_n (lv' := [(3, .int 0), (0, .ref a_0), (1, .ref a_1), (2, .int i_0)]) hx hb dX1_layTurn_65 rfl hl (by decide) rfl ?_
        clear hl
        clear ls
        intro ls hl
        have L66_1165 : ∀ (n : Nat) (x66_3_1164 : Int32) (y66_3_3_1165 : Int32), mm_rg x66_3_1164 0 10 → (10 - x66_3_1164.toInt).toNat < n → ∀ (H : Heap) (locs : List Loc), va_P G vwCl [(a_1, .inr (0, [.int i_1, .int i_2, .int i_3, .int i_4, .int i_5, .int i_6, .int i_7, .int i_8, .ref a_2, .ref a_3, .ref a_4, .ref a_5, .ref a_6, .ref a_7, .ref a_8, .ref a_9, .ref a_10, .ref a_11])), (a_4, .inl (cy 1, 3, .inl f_0)), (a_5, .inl (cy 1, 210, .inl f_1)), (a_0, .inr (1, [.ref a_12, .ref a_13, .int i_9, .int y66_3_3_1165, .int i_11])), (a_13, .inl (cy 1, 10, .inl z2_4_1079))] H → va_D A [(a_1, .inr (0, [.int i_1, .int i_2, .int i_3, .int i_4, .int i_5, .int i_6, .int i_7, .int i_8, .ref a_2, .ref a_3, .ref a_4, .ref a_5, .ref a_6, .ref a_7, .ref a_8, .ref a_9, .ref a_10, .ref a_11])), (a_4, .inl (cy 1, 3, .inl f_0)), (a_5, .inl (cy 1, 210, .inl f_1)), (a_0, .inr (1, [.ref a_12, .ref a_13, .int i_9, .int y66_3_3_1165, .int i_11])), (a_13, .inl (cy 1, 10, .inl z2_4_1079))] → va_S A s.heap H locs → ∀ (ls : Array Slot), lv_has ls 6 [(3, .int x66_3_1164), (0, .ref a_0), (1, .ref a_1), (2, .int i_0)] → W p l e R s m args below meth c H locs 0 0 Q (F0 m 66 ls []) := by
          intro n
          induction n with
          | zero => intro x66_3_1164 y66_3_3_1165 rx66_3_1164 hm; exact absurd hm (Nat.not_lt_zero _)
          | succ n ih66 =>
            intro x66_3_1164 y66_3_3_1165 rx66_3_1164 hm66 H locs hP hD hS ls hl
            refine lv_iload_n hx hb dX1_layTurn_66 rfl (lv_at hl 0 rfl) ?_
            refine lv_aload_n hx hb dX1_layTurn_67 rfl (lv_at hl 1 rfl) ?_
            refine va_get (D := G) (ci := 1) (v := .int i_9) (C := RX1) (T := TX1) (N := 5) hx hb hts (mm_i inlX1) hown hK.1 hP 3 rfl rfl 2 (by decide) (mm_h hts mm_w97) (fun _ h9 => h9) rfl dX1_layTurn_68 ?_
            refine lv_icmp_ge (tgt := 96) hx hb dX1_layTurn_71 (by decide) (fun c1167 => ?_) (fun c1167 => ?_)
            · have q1168 := mm_leR (mm_le c1167) h3 rx66_3_1164
              subst hAe
              rw [hQ]
              exact W.vret hx hb hr (fun t ht hW => ⟨⟨(y66_3_3_1165, z2_4_1079), rfl, rz2_4_1079, by rw [ht]; exact hP, hK.warm hW, hD⟩, hS.F ht⟩) hS.2.2 dX1_layTurn_96
            · have q1169 := mm_ltL (h := 9) (mm_nle c1167) rx66_3_1164 h3 (by decide)
              refine lv_aload_n hx hb dX1_layTurn_74 rfl (lv_at hl 1 rfl) ?_
              refine lv_aload_n hx hb dX1_layTurn_75 rfl (lv_at hl 1 rfl) ?_
              refine va_get (D := G) (ci := 1) (v := .int y66_3_3_1165) (C := RX1) (T := TX1) (N := 5) hx hb hts (mm_i inlX1) hown hK.1 hP 3 rfl rfl 3 (by decide) (mm_h hts mm_w98) (fun _ h9 => h9) rfl dX1_layTurn_76 ?_
              refine lv_aload_n hx hb dX1_layTurn_79 rfl (lv_at hl 1 rfl) ?_
              refine lv_iload_n hx hb dX1_layTurn_80 rfl (lv_at hl 0 rfl) ?_
              refine mm_finir (va_runV (As := [.int x66_3_1164]) (rest := [.int y66_3_3_1165, .ref a_0]) ⟨hx, hb, hml, hown, hts⟩ (K333_X1_cycleOf l G cy H.size a_0 x66_3_1164 a_12 a_13 i_9 y66_3_3_1165 i_11 z2_4_1079 q1169 rz2_4_1079) (cwV 1 hts (mm_gV mm_w407 mm_w408 mm_w409 mm_w91 mm_w410) rfl rfl rfl hd_X1_cycleOf ⟨by rw [hRf]; exact Nat.le_of_ble_eq_true rfl, by rw [hRl]; exact Nat.le_of_ble_eq_true rfl⟩) (mm_preV hK hZ hS hA hP hD [3, 4] rfl rfl 3 rfl rfl rfl) rfl rfl hl.1 rfl (lv_room (Nat.le_of_ble_eq_true rfl)) dX1_layTurn_81 ⟨by rw [hRc]; exact Nat.le_of_ble_eq_true rfl, by rw [hRs]; exact Nat.le_of_ble_eq_true rfl⟩) hP hD hS hA [3, 4] rfl (fun _ => rfl) ?_
              clear hP hD hS
              clear H locs
              intro v1170 _u H locs hw hP hD hS
              have w1171 := hw
              refine mm_finir (va_runSN (As := [.int y66_3_3_1165, .int v1170]) (rest := [.ref a_0]) ⟨hx, hb, hml, hown, hts⟩ (K335_X11_commonMultiple l G cy H.size y66_3_3_1165 v1170 ) ⟨va_cnB 2 hts (mm_gA mm_w412) rfl rfl rfl (hK.2.2.1 _ (List.mem_of_getElem? (i := 7) rfl)) (mm_h hts mm_w2) hs_X11_commonMultiple ⟨by rw [hRf]; exact Nat.le_of_ble_eq_true rfl, by rw [hRl]; exact Nat.le_of_ble_eq_true rfl⟩, mm_h hts mm_w411, trivial⟩ (mm_preS hK hZ hS hA hP hD [] rfl rfl) rfl rfl hl.1 rfl (lv_room (Nat.le_of_ble_eq_true rfl)) dX1_layTurn_84 ⟨by rw [hRc]; exact Nat.le_of_ble_eq_true rfl, by rw [hRs]; exact Nat.le_of_ble_eq_true rfl⟩) hP hD hS hA [] rfl (fun _ => rfl) ?_
              clear hP hD hS
              clear H locs
              intro v1172 _u H locs hw hP hD hS
              refine va_put (D := G) (ci := 1) (v := .int v1172) (ty := tyX1 3) (C := RX1) (T := TX1) (N := 5) hx hb hts (mm_i inlX1) tyX1 tyX1_ok nmX1 hown hK.1 hP hD hS 3 rfl rfl 3 (by decide) (mm_h hts mm_w98) (fun _ h9 => h9) rfl (tyX1_ok 3 (by decide)) rfl rfl (Nat.le_of_ble_eq_true rfl) dX1_layTurn_87 ?_
              clear hP hD hS
              clear H locs
              intro H locs (hP : va_P G vwCl [(a_1, .inr (0, [.int i_1, .int i_2, .int i_3, .int i_4, .int i_5, .int i_6, .int i_7, .int i_8, .ref a_2, .ref a_3, .ref a_4, .ref a_5, .ref a_6, .ref a_7, .ref a_8, .ref a_9, .ref a_10, .ref a_11])), (a_4, .inl (cy 1, 3, .inl f_0)), (a_5, .inl (cy 1, 210, .inl f_1)), (a_0, .inr (1, [.ref a_12, .ref a_13, .int i_9, .int v1172, .int i_11])), (a_13, .inl (cy 1, 10, .inl z2_4_1079))] H) (hD : va_D A [(a_1, .inr (0, [.int i_1, .int i_2, .int i_3, .int i_4, .int i_5, .int i_6, .int i_7, .int i_8, .ref a_2, .ref a_3, .ref a_4, .ref a_5, .ref a_6, .ref a_7, .ref a_8, .ref a_9, .ref a_10, .ref a_11])), (a_4, .inl (cy 1, 3, .inl f_0)), (a_5, .inl (cy 1, 210, .inl f_1)), (a_0, .inr (1, [.ref a_12, .ref a_13, .int i_9, .int v1172, .int i_11])), (a_13, .inl (cy 1, 10, .inl z2_4_1079))]) hS
              obtain ⟨v1173, ev1173⟩ : ∃ y : Int32, y = x66_3_1164 + 1 := ⟨_, rfl⟩
              refine lv_iinc (v := v1173) (lv' := [(3, .int v1173), (0, .ref a_0), (1, .ref a_1), (2, .int i_0)]) hx hb dX1_layTurn_90 hl (k := 0) rfl (by rw [ev1173]; rfl) (by decide) rfl ?_
              clear hl
              clear ls
              intro ls hl
              have rv1173 : mm_rg v1173 1 10 := mm_add ev1173 q1169 mm_k1 (by decide) (by decide)
              have tv1173 := mm_addEc ev1173 q1169 mm_k1 (by decide) (k := 1) (by decide)
              refine lv_goto (tgt := 66) hx hb dX1_layTurn_93 (by decide) ?_
              exact ih66 v1173 v1172 (mm_wk rv1173 (by decide)) (mm_mu hm66 tv1173 (by decide) (rv1173).2 (by decide)) H locs hP hD hS ls (lv_sub hl [0, 1, 2, 3] rfl)
        exact L66_1165 _ 0 1 (mm_wk mm_k0 (by decide)) (Nat.lt_succ_self _) H locs hP hD hS ls (lv_sub hl [0, 1, 2, 3] rfl)
      · have q1174 := mm_ltL (h := 9) (mm_nle c1081) rx2_3_1078 h3 (by decide)
        refine lv_iload_n hx hb dX1_layTurn_10 rfl (lv_at hl 0 rfl) ?_
        refine lv_istore (lv' := [(4, .int x2_3_1078), (3, .int x2_3_1078), (0, .ref a_0), (1, .ref a_1), (2, .int i_0)]) hx hb dX1_layTurn_11 hl (by decide) rfl ?_
        clear hl
        clear ls
        intro ls hl
        refine lv_aload_n hx hb dX1_layTurn_13 rfl (lv_at hl 3 rfl) ?_
        refine va_get (D := G) (ci := 0) (v := .ref a_4) (C := RX0) (T := TX0) (N := 18) hx hb hts (mm_i inlX0) hown hK.1 hP 0 rfl rfl 10 (by decide) (mm_h hts mm_w395) (fun _ h9 => h9) rfl dX1_layTurn_14 ?_
        refine lv_iload_n hx hb dX1_layTurn_17 rfl (lv_at hl 4 rfl) ?_
        refine va_iald hx hb hK.1 hP 1 1 rfl rfl (mm_in h0 (by decide)) dX1_layTurn_18 ?_
        refine lv_topi (fun v1175 ev1175 => ?_)
        have rv1175 : mm_rg v1175 0 7 := mm_eqv ev1175 (h1 _)
        refine lv_iconst (v := 1) hx hb dX1_layTurn_19 (by decide) ?_
        refine lv_isub hx hb dX1_layTurn_20 ?_
        refine lv_topi (fun v1176 ev1176 => ?_)
        have rv1176 : mm_rg v1176 (-1) 6 := mm_sub ev1176 rv1175 mm_k1 (by decide) (by decide)
        have tv1176 := mm_subEc ev1176 rv1175 mm_k1 (by decide) (k := (-1)) (by decide)
        refine lv_istore (lv' := [(5, .int v1176), (4, .int x2_3_1078), (3, .int x2_3_1078), (0, .ref a_0), (1, .ref a_1), (2, .int i_0)]) hx hb dX1_layTurn_21 hl (by decide) rfl ?_
        clear hl
        clear ls
        intro ls hl
        have L23_1196 : ∀ (n : Nat) (x23_5_1195 : Int32) (x23_4_1196 : Int32), mm_rg x23_5_1195 (-1) 6 → mm_rg x23_4_1196 0 9 → (x23_5_1195.toInt - (-1)).toNat < n → ∀ (H : Heap) (locs : List Loc), va_P G vwCl [(a_1, .inr (0, [.int i_1, .int i_2, .int i_3, .int i_4, .int i_5, .int i_6, .int i_7, .int i_8, .ref a_2, .ref a_3, .ref a_4, .ref a_5, .ref a_6, .ref a_7, .ref a_8, .ref a_9, .ref a_10, .ref a_11])), (a_4, .inl (cy 1, 3, .inl f_0)), (a_5, .inl (cy 1, 210, .inl f_1)), (a_0, .inr (1, [.ref a_12, .ref a_13, .int i_9, .int i_10, .int i_11])), (a_13, .inl (cy 1, 10, .inl z2_4_1079))] H → va_D A [(a_1, .inr (0, [.int i_1, .int i_2, .int i_3, .int i_4, .int i_5, .int i_6, .int i_7, .int i_8, .ref a_2, .ref a_3, .ref a_4, .ref a_5, .ref a_6, .ref a_7, .ref a_8, .ref a_9, .ref a_10, .ref a_11])), (a_4, .inl (cy 1, 3, .inl f_0)), (a_5, .inl (cy 1, 210, .inl f_1)), (a_0, .inr (1, [.ref a_12, .ref a_13, .int i_9, .int i_10, .int i_11])), (a_13, .inl (cy 1, 10, .inl z2_4_1079))] → va_S A s.heap H locs → ∀ (ls : Array Slot), lv_has ls 6 [(5, .int x23_5_1195), (4, .int x23_4_1196), (3, .int x2_3_1078), (0, .ref a_0), (1, .ref a_1), (2, .int i_0)] → W p l e R s m args below meth c H locs 0 0 Q (F0 m 23 ls []) := by
          intro n
          induction n with
          | zero => intro x23_5_1195 x23_4_1196 rx23_5_1195 rx23_4_1196 hm; exact absurd hm (Nat.not_lt_zero _)
          | succ n ih23 =>
            intro x23_5_1195 x23_4_1196 rx23_5_1195 rx23_4_1196 hm23 H locs hP hD hS ls hl
            refine lv_iload hx hb dX1_layTurn_23 (lv_at hl 0 rfl) ?_
            refine lv_if_lt (tgt := 45) hx hb dX1_layTurn_25 (by decide) (fun c1198 => ?_) (fun c1198 => ?_)
            · have q1199 := mm_ltL (h := (-1)) (mm_lt c1198) rx23_5_1195 mm_k0 (by decide)
              refine lv_aload_n hx hb dX1_layTurn_45 rfl (lv_at hl 3 rfl) ?_
              refine va_get (D := G) (ci := 1) (v := .ref a_13) (C := RX1) (T := TX1) (N := 5) hx hb hts (mm_i inlX1) hown hK.1 hP 3 rfl rfl 1 (by decide) (mm_h hts mm_w96) (fun _ h9 => h9) rfl dX1_layTurn_46 ?_
              refine lv_iload_n hx hb dX1_layTurn_49 rfl (lv_at hl 2 rfl) ?_
              refine lv_iload hx hb dX1_layTurn_50 (lv_at hl 1 rfl) ?_
              refine va_iast hx hb hK.1 hP hD hS 4 1 rfl rfl (mm_in q1174 (by decide)) dX1_layTurn_52 ?_
              clear hP hD hS
              clear H locs
              obtain ⟨g1200, eg1200⟩ : ∃ z : Nat → Int32, z = upd z2_4_1079 x2_3_1078.toNatClampNeg x23_4_1196 := ⟨_, rfl⟩
              rw [← eg1200]
              intro H locs (hP : va_P G vwCl [(a_1, .inr (0, [.int i_1, .int i_2, .int i_3, .int i_4, .int i_5, .int i_6, .int i_7, .int i_8, .ref a_2, .ref a_3, .ref a_4, .ref a_5, .ref a_6, .ref a_7, .ref a_8, .ref a_9, .ref a_10, .ref a_11])), (a_4, .inl (cy 1, 3, .inl f_0)), (a_5, .inl (cy 1, 210, .inl f_1)), (a_0, .inr (1, [.ref a_12, .ref a_13, .int i_9, .int i_10, .int i_11])), (a_13, .inl (cy 1, 10, .inl g1200))] H) (hD : va_D A [(a_1, .inr (0, [.int i_1, .int i_2, .int i_3, .int i_4, .int i_5, .int i_6, .int i_7, .int i_8, .ref a_2, .ref a_3, .ref a_4, .ref a_5, .ref a_6, .ref a_7, .ref a_8, .ref a_9, .ref a_10, .ref a_11])), (a_4, .inl (cy 1, 3, .inl f_0)), (a_5, .inl (cy 1, 210, .inl f_1)), (a_0, .inr (1, [.ref a_12, .ref a_13, .int i_9, .int i_10, .int i_11])), (a_13, .inl (cy 1, 10, .inl g1200))]) hS
              have rg1200 : mm_ar g1200 0 9 := by rw [eg1200]; exact mm_ar_upd (mm_ar_wk rz2_4_1079 (by decide)) (mm_wk rx23_4_1196 (by decide)) _
              obtain ⟨v1201, ev1201⟩ : ∃ y : Int32, y = x2_3_1078 + 1 := ⟨_, rfl⟩
              refine lv_iinc (v := v1201) (lv' := [(3, .int v1201), (5, .int x23_5_1195), (4, .int x23_4_1196), (0, .ref a_0), (1, .ref a_1), (2, .int i_0)]) hx hb dX1_layTurn_53 hl (k := 2) rfl (by rw [ev1201]; rfl) (by decide) rfl ?_
              clear hl
              clear ls
              intro ls hl
              have rv1201 : mm_rg v1201 1 10 := mm_add ev1201 q1174 mm_k1 (by decide) (by decide)
              have tv1201 := mm_addEc ev1201 q1174 mm_k1 (by decide) (k := 1) (by decide)
              refine lv_goto (tgt := 2) hx hb dX1_layTurn_56 (by decide) ?_
              exact ih2 v1201 g1200 (mm_wk rv1201 (by decide)) rg1200 (mm_mu hm2 tv1201 (by decide) (rv1201).2 (by decide)) H locs hP hD hS ls (lv_sub hl [0, 3, 4, 5] rfl)
            · have q1202 := mm_leR (mm_nlt c1198) mm_k0 rx23_5_1195
              refine lv_aload_n hx hb dX1_layTurn_28 rfl (lv_at hl 4 rfl) ?_
              refine lv_iload_n hx hb dX1_layTurn_29 rfl (lv_at hl 5 rfl) ?_
              refine lv_iload hx hb dX1_layTurn_30 (lv_at hl 0 rfl) ?_
              refine lv_iload hx hb dX1_layTurn_32 (lv_at hl 1 rfl) ?_
              refine mm_finir (va_runV (As := [.int i_0, .int x23_5_1195, .int x23_4_1196]) (rest := []) ⟨hx, hb, hml, hown, hts⟩ (K332_X0_taken l G cy H.size a_1 i_0 x23_5_1195 x23_4_1196 i_1 i_2 i_3 i_4 i_5 i_6 i_7 i_8 a_2 a_3 a_4 a_5 a_6 a_7 a_8 a_9 a_10 a_11 f_1 h0 q1202 rx23_4_1196 h2) (cwV 3 hts (mm_gV mm_w403 mm_w404 mm_w405 mm_w28 mm_w406) rfl rfl rfl hd_X0_taken ⟨by rw [hRf]; exact Nat.le_of_ble_eq_true rfl, by rw [hRl]; exact Nat.le_of_ble_eq_true rfl⟩) (mm_preV hK hZ hS hA hP hD [0, 2] rfl rfl 0 rfl rfl rfl) rfl rfl hl.1 rfl (lv_room (Nat.le_of_ble_eq_true rfl)) dX1_layTurn_34 ⟨by rw [hRc]; exact Nat.le_of_ble_eq_true rfl, by rw [hRs]; exact Nat.le_of_ble_eq_true rfl⟩) hP hD hS hA [0, 2] rfl (fun _ => rfl) ?_
              clear hP hD hS
              clear H locs
              intro v1203 _u H locs hw hP hD hS
              have w1204 := hw
              refine lv_istore (lv' := [(4, .int v1203), (5, .int x23_5_1195), (3, .int x2_3_1078), (0, .ref a_0), (1, .ref a_1), (2, .int i_0)]) hx hb dX1_layTurn_37 hl (by decide) rfl ?_
              clear hl
              clear ls
              intro ls hl
              obtain ⟨v1205, ev1205⟩ : ∃ y : Int32, y = x23_5_1195 + (-1) := ⟨_, rfl⟩
              refine lv_iinc (v := v1205) (lv' := [(5, .int v1205), (4, .int v1203), (3, .int x2_3_1078), (0, .ref a_0), (1, .ref a_1), (2, .int i_0)]) hx hb dX1_layTurn_39 hl (k := 1) rfl (by rw [ev1205]; rfl) (by decide) rfl ?_
              clear hl
              clear ls
              intro ls hl
              have rv1205 : mm_rg v1205 (-1) 5 := mm_add ev1205 q1202 mm_km1 (by decide) (by decide)
              have tv1205 := mm_addEc ev1205 q1202 mm_km1 (by decide) (k := (-1)) (by decide)
              refine lv_goto (tgt := 23) hx hb dX1_layTurn_42 (by decide) ?_
              exact ih23 v1205 v1203 (mm_wk rv1205 (by decide)) w1204 (mm_md hm23 tv1205 (by decide) (rv1205).1 (by decide)) H locs hP hD hS ls (lv_sub hl [0, 1, 2, 3, 4, 5] rfl)
        exact L23_1196 _ v1176 x2_3_1078 rv1176 q1174 (Nat.lt_succ_self _) H locs hP hD hS ls (lv_sub hl [0, 1, 2, 3, 4, 5] rfl)
  exact L2_1079 _ 0 f_2 (mm_wk mm_k0 (by decide)) h4 (Nat.lt_succ_self _) H locs hP hD hS ls (lv_sub hl [0, 1, 2, 3] rfl)

set_option maxHeartbeats 4000000 in
set_option maxRecDepth 100000 in
theorem K337_X1_layDays (l : Launch) (G : va_G) (cy : Nat → ClassId) (sz : Nat) (a_0 : Nat) (a_1 : Nat) (i_0 : Int32) (i_1 : Int32) (i_2 : Int32) (i_3 : Int32) (i_4 : Int32) (i_5 : Int32) (i_6 : Int32) (i_7 : Int32) (i_8 : Int32) (i_9 : Int32) (a_2 : Nat) (a_3 : Nat) (a_4 : Nat) (a_5 : Nat) (a_6 : Nat) (a_7 : Nat) (a_8 : Nat) (a_9 : Nat) (a_10 : Nat) (a_11 : Nat) (f_0 : Nat → Int32) (f_1 : Nat → Int32) (a_12 : Nat) (a_13 : Nat) (i_10 : Int32) (i_11 : Int32) (i_12 : Int32) (f_2 : Nat → Int32) (h0 : mm_rg i_0 0 2) (h1 : mm_rg i_1 (-2147483648) 210) (h2 : mm_ar f_0 0 7) (h3 : mm_ar f_1 0 9) (h4 : mm_rg i_10 1 10) (h5 : mm_ar f_2 0 9)  : mm_CV l yX1_layDays (mm_ws yX1_layDays cX1_layDays 8 (none)) ({ frames := 1, cells := 0, slots := 0, locals := 23 } : Room) G cy sz [(a_1, .inr (0, [.int i_2, .int i_3, .int i_4, .int i_5, .int i_6, .int i_7, .int i_8, .int i_9, .ref a_2, .ref a_3, .ref a_4, .ref a_5, .ref a_6, .ref a_7, .ref a_8, .ref a_9, .ref a_10, .ref a_11])), (a_4, .inl (cy 1, 3, .inl f_0)), (a_5, .inl (cy 1, 210, .inl f_1)), (a_0, .inr (1, [.ref a_12, .ref a_13, .int i_10, .int i_11, .int i_12])), (a_12, .inl (cy 1, 2100, .inl f_2))] [.ref a_0, .ref a_1, .int i_0, .int i_1] (fun u : (Nat → Int32) => [(a_1, .inr (0, [.int i_2, .int i_3, .int i_4, .int i_5, .int i_6, .int i_7, .int i_8, .int i_9, .ref a_2, .ref a_3, .ref a_4, .ref a_5, .ref a_6, .ref a_7, .ref a_8, .ref a_9, .ref a_10, .ref a_11])), (a_4, .inl (cy 1, 3, .inl f_0)), (a_5, .inl (cy 1, 210, .inl f_1)), (a_0, .inr (1, [.ref a_12, .ref a_13, .int i_10, .int i_11, .int i_12])), (a_12, .inl (cy 1, 2100, .inl u))]) (fun u : (Nat → Int32) => mm_ar u 0 9) 0 0 := by
  refine mm_begin (lv := [(0, .ref a_0), (1, .ref a_1), (2, .int i_0), (3, .int i_1)]) (by decide) (Nat.le_of_ble_eq_true rfl) rfl ?_
  intro p e s m below meth c A ls R args Q H locs hRe hQ hAe hx hb hr hlocks hml hown hnm hts hsz hA hS hP hK hD hZ hl
  have hRf : R.frames = 1 := by rw [hRe]
  have hRl : R.locals = 23 := by rw [hRe]
  have hRc : R.cells = 0 := by rw [hRe]
  have hRs : R.slots = 0 := by rw [hRe]
  refine lv_aload_n hx hb dX1_layDays_0 rfl (lv_at hl 1 rfl) ?_
  refine va_get (D := G) (ci := 0) (v := .ref a_4) (C := RX0) (T := TX0) (N := 18) hx hb hts (mm_i inlX0) hown hK.1 hP 0 rfl rfl 10 (by decide) (mm_h hts mm_w395) (fun _ h9 => h9) rfl dX1_layDays_1 ?_
  refine lv_iload_n hx hb dX1_layDays_4 rfl (lv_at hl 2 rfl) ?_
  refine va_iald hx hb hK.1 hP 1 1 rfl rfl (mm_in h0 (by decide)) dX1_layDays_5 ?_
  refine lv_topi (fun v1 ev1 => ?_)
  have rv1 : mm_rg v1 0 7 := mm_eqv ev1 (h2 _)
  refine lv_istore (lv' := [(4, .int v1), (0, .ref a_0), (1, .ref a_1), (2, .int i_0), (3, .int i_1)]) hx hb dX1_layDays_6 hl (by decide) rfl ?_
  clear hl
  clear ls
  intro ls hl
  refine lv_iconst (v := 0) hx hb dX1_layDays_8 (by decide) ?_
  refine lv_istore (lv' := [(5, .int 0), (4, .int v1), (0, .ref a_0), (1, .ref a_1), (2, .int i_0), (3, .int i_1)]) hx hb dX1_layDays_9 hl (by decide) rfl ?_
  clear hl
  clear ls
  intro ls hl
  have L11_36745 : ∀ (n : Nat) (x11_5_36744 : Int32) (z11_4_36745 : Nat → Int32), mm_rg x11_5_36744 0 10 → mm_ar z11_4_36745 0 9 → (10 - x11_5_36744.toInt).toNat < n → ∀ (H : Heap) (locs : List Loc), va_P G vwCl [(a_1, .inr (0, [.int i_2, .int i_3, .int i_4, .int i_5, .int i_6, .int i_7, .int i_8, .int i_9, .ref a_2, .ref a_3, .ref a_4, .ref a_5, .ref a_6, .ref a_7, .ref a_8, .ref a_9, .ref a_10, .ref a_11])), (a_4, .inl (cy 1, 3, .inl f_0)), (a_5, .inl (cy 1, 210, .inl f_1)), (a_0, .inr (1, [.ref a_12, .ref a_13, .int i_10, .int i_11, .int i_12])), (a_12, .inl (cy 1, 2100, .inl z11_4_36745))] H → va_D A [(a_1, .inr (0, [.int i_2, .int i_3, .int i_4, .int i_5, .int i_6, .int i_7, .int i_8, .int i_9, .ref a_2, .ref a_3, .ref a_4, .ref a_5, .ref a_6, .ref a_7, .ref a_8, .ref a_9, .ref a_10, .ref a_11])), (a_4, .inl (cy 1, 3, .inl f_0)), (a_5, .inl (cy 1, 210, .inl f_1)), (a_0, .inr (1, [.ref a_12, .ref a_13, .int i_10, .int i_11, .int i_12])), (a_12, .inl (cy 1, 2100, .inl z11_4_36745))] → va_S A s.heap H locs → ∀ (ls : Array Slot), lv_has ls 8 [(5, .int x11_5_36744), (4, .int v1), (0, .ref a_0), (1, .ref a_1), (2, .int i_0), (3, .int i_1)] → W p l e R s m args below meth c H locs 0 0 Q (F0 m 11 ls []) := by
    intro n
    induction n with
    | zero => intro x11_5_36744 z11_4_36745 rx11_5_36744 rz11_4_36745 hm; exact absurd hm (Nat.not_lt_zero _)
    | succ n ih11 =>
      intro x11_5_36744 z11_4_36745 rx11_5_36744 rz11_4_36745 hm11 H locs hP hD hS ls hl
      refine lv_iload hx hb dX1_layDays_11 (lv_at hl 0 rfl) ?_
      refine lv_aload_n hx hb dX1_layDays_13 rfl (lv_at hl 2 rfl) ?_
      refine va_get (D := G) (ci := 1) (v := .int i_10) (C := RX1) (T := TX1) (N := 5) hx hb hts (mm_i inlX1) hown hK.1 hP 3 rfl rfl 2 (by decide) (mm_h hts mm_w97) (fun _ h9 => h9) rfl dX1_layDays_14 ?_
      refine lv_icmp_ge (tgt := 35) hx hb dX1_layDays_17 (by decide) (fun c36747 => ?_) (fun c36747 => ?_)
      · have q36748 := mm_leR (mm_le c36747) h4 rx11_5_36744
        refine lv_iconst (v := 1) hx hb dX1_layDays_35 (by decide) ?_
        refine lv_istore (lv' := [(5, .int 1), (4, .int v1), (0, .ref a_0), (1, .ref a_1), (2, .int i_0), (3, .int i_1)]) hx hb dX1_layDays_36 hl (by decide) rfl ?_
        clear hl
        clear ls
        intro ls hl
        have L38_42004 : ∀ (n : Nat) (x38_5_42003 : Int32) (z38_4_42004 : Nat → Int32), mm_rg x38_5_42003 1 210 → mm_ar z38_4_42004 0 9 → (210 - x38_5_42003.toInt).toNat < n → ∀ (H : Heap) (locs : List Loc), va_P G vwCl [(a_1, .inr (0, [.int i_2, .int i_3, .int i_4, .int i_5, .int i_6, .int i_7, .int i_8, .int i_9, .ref a_2, .ref a_3, .ref a_4, .ref a_5, .ref a_6, .ref a_7, .ref a_8, .ref a_9, .ref a_10, .ref a_11])), (a_4, .inl (cy 1, 3, .inl f_0)), (a_5, .inl (cy 1, 210, .inl f_1)), (a_0, .inr (1, [.ref a_12, .ref a_13, .int i_10, .int i_11, .int i_12])), (a_12, .inl (cy 1, 2100, .inl z38_4_42004))] H → va_D A [(a_1, .inr (0, [.int i_2, .int i_3, .int i_4, .int i_5, .int i_6, .int i_7, .int i_8, .int i_9, .ref a_2, .ref a_3, .ref a_4, .ref a_5, .ref a_6, .ref a_7, .ref a_8, .ref a_9, .ref a_10, .ref a_11])), (a_4, .inl (cy 1, 3, .inl f_0)), (a_5, .inl (cy 1, 210, .inl f_1)), (a_0, .inr (1, [.ref a_12, .ref a_13, .int i_10, .int i_11, .int i_12])), (a_12, .inl (cy 1, 2100, .inl z38_4_42004))] → va_S A s.heap H locs → ∀ (ls : Array Slot), lv_has ls 8 [(5, .int x38_5_42003), (4, .int v1), (0, .ref a_0), (1, .ref a_1), (2, .int i_0), (3, .int i_1)] → W p l e R s m args below meth c H locs 0 0 Q (F0 m 38 ls []) := by
          intro n
          induction n with
          | zero => intro x38_5_42003 z38_4_42004 rx38_5_42003 rz38_4_42004 hm; exact absurd hm (Nat.not_lt_zero _)
          | succ n ih38 =>
            intro x38_5_42003 z38_4_42004 rx38_5_42003 rz38_4_42004 hm38 H locs hP hD hS ls hl
            refine lv_iload hx hb dX1_layDays_38 (lv_at hl 0 rfl) ?_
            refine lv_iload_n hx hb dX1_layDays_40 rfl (lv_at hl 5 rfl) ?_
            refine lv_icmp_ge (tgt := 122) hx hb dX1_layDays_41 (by decide) (fun c42006 => ?_) (fun c42006 => ?_)
            · subst hAe
              rw [hQ]
              exact W.vret hx hb hr (fun t ht hW => ⟨⟨z38_4_42004, rfl, rz38_4_42004, by rw [ht]; exact hP, hK.warm hW, hD⟩, hS.F ht⟩) hS.2.2 dX1_layDays_122
            · have q42007 := mm_ltL (h := 209) (mm_nle c42006) rx38_5_42003 h1 (by decide)
              have q42008 := mm_ltR (lo := 2) (mm_nle c42006) rx38_5_42003 h1 (by decide)
              refine lv_iconst (v := 0) hx hb dX1_layDays_44 (by decide) ?_
              refine lv_istore (lv' := [(6, .int 0), (5, .int x38_5_42003), (4, .int v1), (0, .ref a_0), (1, .ref a_1), (2, .int i_0), (3, .int i_1)]) hx hb dX1_layDays_45 hl (by decide) rfl ?_
              clear hl
              clear ls
              intro ls hl
              have L47_42328 : ∀ (n : Nat) (x47_6_42327 : Int32) (z47_4_42328 : Nat → Int32), mm_rg x47_6_42327 0 10 → mm_ar z47_4_42328 0 9 → (10 - x47_6_42327.toInt).toNat < n → ∀ (H : Heap) (locs : List Loc), va_P G vwCl [(a_1, .inr (0, [.int i_2, .int i_3, .int i_4, .int i_5, .int i_6, .int i_7, .int i_8, .int i_9, .ref a_2, .ref a_3, .ref a_4, .ref a_5, .ref a_6, .ref a_7, .ref a_8, .ref a_9, .ref a_10, .ref a_11])), (a_4, .inl (cy 1, 3, .inl f_0)), (a_5, .inl (cy 1, 210, .inl f_1)), (a_0, .inr (1, [.ref a_12, .ref a_13, .int i_10, .int i_11, .int i_12])), (a_12, .inl (cy 1, 2100, .inl z47_4_42328))] H → va_D A [(a_1, .inr (0, [.int i_2, .int i_3, .int i_4, .int i_5, .int i_6, .int i_7, .int i_8, .int i_9, .ref a_2, .ref a_3, .ref a_4, .ref a_5, .ref a_6, .ref a_7, .ref a_8, .ref a_9, .ref a_10, .ref a_11])), (a_4, .inl (cy 1, 3, .inl f_0)), (a_5, .inl (cy 1, 210, .inl f_1)), (a_0, .inr (1, [.ref a_12, .ref a_13, .int i_10, .int i_11, .int i_12])), (a_12, .inl (cy 1, 2100, .inl z47_4_42328))] → va_S A s.heap H locs → ∀ (ls : Array Slot), lv_has ls 8 [(6, .int x47_6_42327), (5, .int x38_5_42003), (4, .int v1), (0, .ref a_0), (1, .ref a_1), (2, .int i_0), (3, .int i_1)] → W p l e R s m args below meth c H locs 0 0 Q (F0 m 47 ls []) := by
                intro n
                induction n with
                | zero => intro x47_6_42327 z47_4_42328 rx47_6_42327 rz47_4_42328 hm; exact absurd hm (Nat.not_lt_zero _)
                | succ n ih47 =>
                  intro x47_6_42327 z47_4_42328 rx47_6_42327 rz47_4_42328 hm47 H locs hP hD hS ls hl
                  refine lv_iload hx hb dX1_layDays_47 (lv_at hl 0 rfl) ?_
                  refine lv_aload_n hx hb dX1_layDays_49 rfl (lv_at hl 3 rfl) ?_
                  refine va_get (D := G) (ci := 1) (v := .int i_10) (C := RX1) (T := TX1) (N := 5) hx hb hts (mm_i inlX1) hown hK.1 hP 3 rfl rfl 2 (by decide) (mm_h hts mm_w97) (fun _ h9 => h9) rfl dX1_layDays_50 ?_
                  refine lv_icmp_ge (tgt := 116) hx hb dX1_layDays_53 (by decide) (fun c42330 => ?_) (fun c42330 => ?_)
                  · have q42331 := mm_leR (mm_le c42330) h4 rx47_6_42327
                    obtain ⟨v42332, ev42332⟩ : ∃ y : Int32, y = x38_5_42003 + 1 := ⟨_, rfl⟩
                    refine lv_iinc (v := v42332) (lv' := [(5, .int v42332), (6, .int x47_6_42327), (4, .int v1), (0, .ref a_0), (1, .ref a_1), (2, .int i_0), (3, .int i_1)]) hx hb dX1_layDays_116 hl (k := 1) rfl (by rw [ev42332]; rfl) (by decide) rfl ?_
                    clear hl
                    clear ls
                    intro ls hl
                    have rv42332 : mm_rg v42332 2 210 := mm_add ev42332 q42007 mm_k1 (by decide) (by decide)
                    have tv42332 := mm_addEc ev42332 q42007 mm_k1 (by decide) (k := 1) (by decide)
                    refine lv_goto (tgt := 38) hx hb dX1_layDays_119 (by decide) ?_
                    exact ih38 v42332 z47_4_42328 (mm_wk rv42332 (by decide)) rz47_4_42328 (mm_mu hm38 tv42332 (by decide) (rv42332).2 (by decide)) H locs hP hD hS ls (lv_sub hl [0, 2, 3, 4, 5, 6] rfl)
                  · have q42333 := mm_ltL (h := 9) (mm_nle c42330) rx47_6_42327 h4 (by decide)
                    refine lv_iload hx hb dX1_layDays_56 (lv_at hl 2 rfl) ?_
                    refine lv_if_ne (tgt := 66) hx hb dX1_layDays_58 (by decide) (fun c42334 => ?_) (fun c42334 => ?_)
                    · have q42335 := mm_neL (lo := 1) (mm_ne c42334) rv1 mm_k0 (by decide) (by decide)
                      refine lv_aload_n hx hb dX1_layDays_66 rfl (lv_at hl 4 rfl) ?_
                      refine lv_iload_n hx hb dX1_layDays_67 rfl (lv_at hl 5 rfl) ?_
                      refine lv_iload hx hb dX1_layDays_68 (lv_at hl 1 rfl) ?_
                      refine lv_iconst (v := 1) hx hb dX1_layDays_70 (by decide) ?_
                      refine lv_isub hx hb dX1_layDays_71 ?_
                      refine lv_topi (fun v42336 ev42336 => ?_)
                      have rv42336 : mm_rg v42336 0 208 := mm_sub ev42336 q42007 mm_k1 (by decide) (by decide)
                      have tv42336 := mm_subEc ev42336 q42007 mm_k1 (by decide) (k := (-1)) (by decide)
                      refine lv_iload hx hb dX1_layDays_72 (lv_at hl 2 rfl) ?_
                      refine lv_irem hx hb dX1_layDays_74 (mm_nz q42335 (by decide)) ?_
                      refine lv_topi (fun v42337 ev42337 => ?_)
                      have rv42337 : mm_rg v42337 0 6 := mm_rem ev42337 rv42336 q42335 (by decide) (by decide)
                      refine lv_iload hx hb dX1_layDays_75 (lv_at hl 0 rfl) ?_
                      refine mm_finir (va_runV (As := [.int i_0, .int v42337, .int x47_6_42327]) (rest := []) ⟨hx, hb, hml, hown, hts⟩ (K332_X0_taken l G cy H.size a_1 i_0 v42337 x47_6_42327 i_2 i_3 i_4 i_5 i_6 i_7 i_8 i_9 a_2 a_3 a_4 a_5 a_6 a_7 a_8 a_9 a_10 a_11 f_1 h0 rv42337 q42333 h3) (cwV 3 hts (mm_gV mm_w403 mm_w404 mm_w405 mm_w28 mm_w406) rfl rfl rfl hd_X0_taken ⟨by rw [hRf]; exact Nat.le_of_ble_eq_true rfl, by rw [hRl]; exact Nat.le_of_ble_eq_true rfl⟩) (mm_preV hK hZ hS hA hP hD [0, 2] rfl rfl 0 rfl rfl rfl) rfl rfl hl.1 rfl (lv_room (Nat.le_of_ble_eq_true rfl)) dX1_layDays_77 ⟨by rw [hRc]; exact Nat.le_of_ble_eq_true rfl, by rw [hRs]; exact Nat.le_of_ble_eq_true rfl⟩) hP hD hS hA [0, 2] rfl (fun _ => rfl) ?_
                      clear hP hD hS
                      clear H locs
                      intro v42338 _u H locs hw hP hD hS
                      have w42339 := hw
                      refine lv_istore (lv' := [(7, .int v42338), (6, .int x47_6_42327), (5, .int x38_5_42003), (4, .int v1), (0, .ref a_0), (1, .ref a_1), (2, .int i_0), (3, .int i_1)]) hx hb dX1_layDays_80 hl (by decide) rfl ?_
                      clear hl
                      clear ls
                      intro ls hl
                      refine lv_aload_n hx hb dX1_layDays_82 rfl (lv_at hl 4 rfl) ?_
                      refine va_get (D := G) (ci := 1) (v := .ref a_12) (C := RX1) (T := TX1) (N := 5) hx hb hts (mm_i inlX1) hown hK.1 hP 3 rfl rfl 0 (by decide) (mm_h hts mm_w95) (fun _ h9 => h9) rfl dX1_layDays_83 ?_
                      refine lv_iload hx hb dX1_layDays_86 (lv_at hl 2 rfl) ?_
                      refine lv_bipush (v := 10) hx hb dX1_layDays_88 (by decide) ?_
                      refine lv_imul hx hb dX1_layDays_90 ?_
                      refine lv_topi (fun v42340 ev42340 => ?_)
                      have rv42340 : mm_rg v42340 10 2090 := mm_mul ev42340 q42007 mm_k10 (by decide) (by decide)
                      refine lv_iload hx hb dX1_layDays_91 (lv_at hl 1 rfl) ?_
                      refine lv_iadd hx hb dX1_layDays_93 ?_
                      refine lv_topi (fun v42341 ev42341 => ?_)
                      have rv42341 : mm_rg v42341 10 2099 := mm_add ev42341 rv42340 q42333 (by decide) (by decide)
                      have tv42341 := mm_addE ev42341 rv42340 q42333 (by decide)
                      refine lv_aload_n hx hb dX1_layDays_94 rfl (lv_at hl 4 rfl) ?_
                      refine va_get (D := G) (ci := 1) (v := .ref a_12) (C := RX1) (T := TX1) (N := 5) hx hb hts (mm_i inlX1) hown hK.1 hP 3 rfl rfl 0 (by decide) (mm_h hts mm_w95) (fun _ h9 => h9) rfl dX1_layDays_95 ?_
                      refine lv_iload hx hb dX1_layDays_98 (lv_at hl 2 rfl) ?_
                      refine lv_iconst (v := 1) hx hb dX1_layDays_100 (by decide) ?_
                      refine lv_isub hx hb dX1_layDays_101 ?_
                      refine lv_topi (fun v42342 ev42342 => ?_)
                      have rv42342 : mm_rg v42342 0 208 := mm_sub ev42342 q42007 mm_k1 (by decide) (by decide)
                      have tv42342 := mm_subEc ev42342 q42007 mm_k1 (by decide) (k := (-1)) (by decide)
                      refine lv_bipush (v := 10) hx hb dX1_layDays_102 (by decide) ?_
                      refine lv_imul hx hb dX1_layDays_104 ?_
                      refine lv_topi (fun v42343 ev42343 => ?_)
                      have rv42343 : mm_rg v42343 0 2080 := mm_mul ev42343 rv42342 mm_k10 (by decide) (by decide)
                      refine lv_iload hx hb dX1_layDays_105 (lv_at hl 0 rfl) ?_
                      refine lv_iadd hx hb dX1_layDays_107 ?_
                      refine lv_topi (fun v42344 ev42344 => ?_)
                      have rv42344 : mm_rg v42344 0 2089 := mm_add ev42344 rv42343 w42339 (by decide) (by decide)
                      have tv42344 := mm_addE ev42344 rv42343 w42339 (by decide)
                      refine va_iald hx hb hK.1 hP 4 1 rfl rfl (mm_in rv42344 (by decide)) dX1_layDays_108 ?_
                      refine lv_topi (fun v42345 ev42345 => ?_)
                      have rv42345 : mm_rg v42345 0 9 := mm_eqv ev42345 (rz47_4_42328 _)
                      refine va_iast hx hb hK.1 hP hD hS 4 1 rfl rfl (mm_in rv42341 (by decide)) dX1_layDays_109 ?_
                      clear hP hD hS
                      clear H locs
                      obtain ⟨g42346, eg42346⟩ : ∃ z : Nat → Int32, z = upd z47_4_42328 v42341.toNatClampNeg v42345 := ⟨_, rfl⟩
                      rw [← eg42346]
                      intro H locs (hP : va_P G vwCl [(a_1, .inr (0, [.int i_2, .int i_3, .int i_4, .int i_5, .int i_6, .int i_7, .int i_8, .int i_9, .ref a_2, .ref a_3, .ref a_4, .ref a_5, .ref a_6, .ref a_7, .ref a_8, .ref a_9, .ref a_10, .ref a_11])), (a_4, .inl (cy 1, 3, .inl f_0)), (a_5, .inl (cy 1, 210, .inl f_1)), (a_0, .inr (1, [.ref a_12, .ref a_13, .int i_10, .int i_11, .int i_12])), (a_12, .inl (cy 1, 2100, .inl g42346))] H) (hD : va_D A [(a_1, .inr (0, [.int i_2, .int i_3, .int i_4, .int i_5, .int i_6, .int i_7, .int i_8, .int i_9, .ref a_2, .ref a_3, .ref a_4, .ref a_5, .ref a_6, .ref a_7, .ref a_8, .ref a_9, .ref a_10, .ref a_11])), (a_4, .inl (cy 1, 3, .inl f_0)), (a_5, .inl (cy 1, 210, .inl f_1)), (a_0, .inr (1, [.ref a_12, .ref a_13, .int i_10, .int i_11, .int i_12])), (a_12, .inl (cy 1, 2100, .inl g42346))]) hS
                      have rg42346 : mm_ar g42346 0 9 := by rw [eg42346]; exact mm_ar_upd (mm_ar_wk rz47_4_42328 (by decide)) (mm_wk rv42345 (by decide)) _
                      obtain ⟨v42347, ev42347⟩ : ∃ y : Int32, y = x47_6_42327 + 1 := ⟨_, rfl⟩
                      refine lv_iinc (v := v42347) (lv' := [(6, .int v42347), (7, .int v42338), (5, .int x38_5_42003), (4, .int v1), (0, .ref a_0), (1, .ref a_1), (2, .int i_0), (3, .int i_1)]) hx hb dX1_layDays_110 hl (k := 1) rfl (by rw [ev42347]; rfl) (by decide) rfl ?_
                      clear hl
                      clear ls
                      intro ls hl
                      have rv42347 : mm_rg v42347 1 10 := mm_add ev42347 q42333 mm_k1 (by decide) (by decide)
                      have tv42347 := mm_addEc ev42347 q42333 mm_k1 (by decide) (k := 1) (by decide)
                      refine lv_goto (tgt := 47) hx hb dX1_layDays_113 (by decide) ?_
                      exact ih47 v42347 g42346 (mm_wk rv42347 (by decide)) rg42346 (mm_mu hm47 tv42347 (by decide) (rv42347).2 (by decide)) H locs hP hD hS ls (lv_sub hl [0, 2, 3, 4, 5, 6, 7] rfl)
                    · have q42348 := mm_eqI (lo := 0) (hi := 0) c42334 rv1 mm_k0 (by decide)
                      refine lv_iload hx hb dX1_layDays_61 (lv_at hl 0 rfl) ?_
                      refine lv_goto (tgt := 80) hx hb dX1_layDays_63 (by decide) ?_
                      refine lv_istore (lv' := [(7, .int x47_6_42327), (6, .int x47_6_42327), (5, .int x38_5_42003), (4, .int v1), (0, .ref a_0), (1, .ref a_1), (2, .int i_0), (3, .int i_1)]) hx hb dX1_layDays_80 hl (by decide) rfl ?_
                      clear hl
                      clear ls
                      intro ls hl
                      refine lv_aload_n hx hb dX1_layDays_82 rfl (lv_at hl 4 rfl) ?_
                      refine va_get (D := G) (ci := 1) (v := .ref a_12) (C := RX1) (T := TX1) (N := 5) hx hb hts (mm_i inlX1) hown hK.1 hP 3 rfl rfl 0 (by decide) (mm_h hts mm_w95) (fun _ h9 => h9) rfl dX1_layDays_83 ?_
                      refine lv_iload hx hb dX1_layDays_86 (lv_at hl 2 rfl) ?_
                      refine lv_bipush (v := 10) hx hb dX1_layDays_88 (by decide) ?_
                      refine lv_imul hx hb dX1_layDays_90 ?_
                      refine lv_topi (fun v42349 ev42349 => ?_)
                      have rv42349 : mm_rg v42349 10 2090 := mm_mul ev42349 q42007 mm_k10 (by decide) (by decide)
                      refine lv_iload hx hb dX1_layDays_91 (lv_at hl 1 rfl) ?_
                      refine lv_iadd hx hb dX1_layDays_93 ?_
                      refine lv_topi (fun v42350 ev42350 => ?_)
                      have rv42350 : mm_rg v42350 10 2099 := mm_add ev42350 rv42349 q42333 (by decide) (by decide)
                      have tv42350 := mm_addE ev42350 rv42349 q42333 (by decide)
                      refine lv_aload_n hx hb dX1_layDays_94 rfl (lv_at hl 4 rfl) ?_
                      refine va_get (D := G) (ci := 1) (v := .ref a_12) (C := RX1) (T := TX1) (N := 5) hx hb hts (mm_i inlX1) hown hK.1 hP 3 rfl rfl 0 (by decide) (mm_h hts mm_w95) (fun _ h9 => h9) rfl dX1_layDays_95 ?_
                      refine lv_iload hx hb dX1_layDays_98 (lv_at hl 2 rfl) ?_
                      refine lv_iconst (v := 1) hx hb dX1_layDays_100 (by decide) ?_
                      refine lv_isub hx hb dX1_layDays_101 ?_
                      refine lv_topi (fun v42351 ev42351 => ?_)
                      have rv42351 : mm_rg v42351 0 208 := mm_sub ev42351 q42007 mm_k1 (by decide) (by decide)
                      have tv42351 := mm_subEc ev42351 q42007 mm_k1 (by decide) (k := (-1)) (by decide)
                      refine lv_bipush (v := 10) hx hb dX1_layDays_102 (by decide) ?_
                      refine lv_imul hx hb dX1_layDays_104 ?_
                      refine lv_topi (fun v42352 ev42352 => ?_)
                      have rv42352 : mm_rg v42352 0 2080 := mm_mul ev42352 rv42351 mm_k10 (by decide) (by decide)
                      refine lv_iload hx hb dX1_layDays_105 (lv_at hl 0 rfl) ?_
                      refine lv_iadd hx hb dX1_layDays_107 ?_
                      refine lv_topi (fun v42353 ev42353 => ?_)
                      have rv42353 : mm_rg v42353 0 2089 := mm_add ev42353 rv42352 q42333 (by decide) (by decide)
                      have tv42353 := mm_addE ev42353 rv42352 q42333 (by decide)
                      refine va_iald hx hb hK.1 hP 4 1 rfl rfl (mm_in rv42353 (by decide)) dX1_layDays_108 ?_
                      refine lv_topi (fun v42354 ev42354 => ?_)
                      have rv42354 : mm_rg v42354 0 9 := mm_eqv ev42354 (rz47_4_42328 _)
                      refine va_iast hx hb hK.1 hP hD hS 4 1 rfl rfl (mm_in rv42350 (by decide)) dX1_layDays_109 ?_
                      clear hP hD hS
                      clear H locs
                      obtain ⟨g42355, eg42355⟩ : ∃ z : Nat → Int32, z = upd z47_4_42328 v42350.toNatClampNeg v42354 := ⟨_, rfl⟩
                      rw [← eg42355]
                      intro H locs (hP : va_P G vwCl [(a_1, .inr (0, [.int i_2, .int i_3, .int i_4, .int i_5, .int i_6, .int i_7, .int i_8, .int i_9, .ref a_2, .ref a_3, .ref a_4, .ref a_5, .ref a_6, .ref a_7, .ref a_8, .ref a_9, .ref a_10, .ref a_11])), (a_4, .inl (cy 1, 3, .inl f_0)), (a_5, .inl (cy 1, 210, .inl f_1)), (a_0, .inr (1, [.ref a_12, .ref a_13, .int i_10, .int i_11, .int i_12])), (a_12, .inl (cy 1, 2100, .inl g42355))] H) (hD : va_D A [(a_1, .inr (0, [.int i_2, .int i_3, .int i_4, .int i_5, .int i_6, .int i_7, .int i_8, .int i_9, .ref a_2, .ref a_3, .ref a_4, .ref a_5, .ref a_6, .ref a_7, .ref a_8, .ref a_9, .ref a_10, .ref a_11])), (a_4, .inl (cy 1, 3, .inl f_0)), (a_5, .inl (cy 1, 210, .inl f_1)), (a_0, .inr (1, [.ref a_12, .ref a_13, .int i_10, .int i_11, .int i_12])), (a_12, .inl (cy 1, 2100, .inl g42355))]) hS
                      have rg42355 : mm_ar g42355 0 9 := by rw [eg42355]; exact mm_ar_upd (mm_ar_wk rz47_4_42328 (by decide)) (mm_wk rv42354 (by decide)) _
                      obtain ⟨v42356, ev42356⟩ : ∃ y : Int32, y = x47_6_42327 + 1 := ⟨_, rfl⟩
                      refine lv_iinc (v := v42356) (lv' := [(6, .int v42356), (7, .int x47_6_42327), (5, .int x38_5_42003), (4, .int v1), (0, .ref a_0), (1, .ref a_1), (2, .int i_0), (3, .int i_1)]) hx hb dX1_layDays_110 hl (k := 1) rfl (by rw [ev42356]; rfl) (by decide) rfl ?_
                      clear hl
                      clear ls
                      intro ls hl
                      have rv42356 : mm_rg v42356 1 10 := mm_add ev42356 q42333 mm_k1 (by decide) (by decide)
                      have tv42356 := mm_addEc ev42356 q42333 mm_k1 (by decide) (k := 1) (by decide)
                      refine lv_goto (tgt := 47) hx hb dX1_layDays_113 (by decide) ?_
                      exact ih47 v42356 g42355 (mm_wk rv42356 (by decide)) rg42355 (mm_mu hm47 tv42356 (by decide) (rv42356).2 (by decide)) H locs hP hD hS ls (lv_sub hl [0, 2, 3, 4, 5, 6, 7] rfl)
              exact L47_42328 _ 0 z38_4_42004 (mm_wk mm_k0 (by decide)) rz38_4_42004 (Nat.lt_succ_self _) H locs hP hD hS ls (lv_sub hl [0, 1, 2, 3, 4, 5, 6] rfl)
        exact L38_42004 _ 1 z11_4_36745 (mm_wk mm_k1 (by decide)) rz11_4_36745 (Nat.lt_succ_self _) H locs hP hD hS ls (lv_sub hl [0, 1, 2, 3, 4, 5] rfl)
      · have q42357 := mm_ltL (h := 9) (mm_nle c36747) rx11_5_36744 h4 (by decide)
        refine lv_aload_n hx hb dX1_layDays_20 rfl (lv_at hl 2 rfl) ?_
        refine va_get (D := G) (ci := 1) (v := .ref a_12) (C := RX1) (T := TX1) (N := 5) hx hb hts (mm_i inlX1) hown hK.1 hP 3 rfl rfl 0 (by decide) (mm_h hts mm_w95) (fun _ h9 => h9) rfl dX1_layDays_21 ?_
        refine lv_iload hx hb dX1_layDays_24 (lv_at hl 0 rfl) ?_
        refine lv_iload hx hb dX1_layDays_26 (lv_at hl 0 rfl) ?_
        refine va_iast hx hb hK.1 hP hD hS 4 1 rfl rfl (mm_in q42357 (by decide)) dX1_layDays_28 ?_
        clear hP hD hS
        clear H locs
        obtain ⟨g42358, eg42358⟩ : ∃ z : Nat → Int32, z = upd z11_4_36745 x11_5_36744.toNatClampNeg x11_5_36744 := ⟨_, rfl⟩
        rw [← eg42358]
        intro H locs (hP : va_P G vwCl [(a_1, .inr (0, [.int i_2, .int i_3, .int i_4, .int i_5, .int i_6, .int i_7, .int i_8, .int i_9, .ref a_2, .ref a_3, .ref a_4, .ref a_5, .ref a_6, .ref a_7, .ref a_8, .ref a_9, .ref a_10, .ref a_11])), (a_4, .inl (cy 1, 3, .inl f_0)), (a_5, .inl (cy 1, 210, .inl f_1)), (a_0, .inr (1, [.ref a_12, .ref a_13, .int i_10, .int i_11, .int i_12])), (a_12, .inl (cy 1, 2100, .inl g42358))] H) (hD : va_D A [(a_1, .inr (0, [.int i_2, .int i_3, .int i_4, .int i_5, .int i_6, .int i_7, .int i_8, .int i_9, .ref a_2, .ref a_3, .ref a_4, .ref a_5, .ref a_6, .ref a_7, .ref a_8, .ref a_9, .ref a_10, .ref a_11])), (a_4, .inl (cy 1, 3, .inl f_0)), (a_5, .inl (cy 1, 210, .inl f_1)), (a_0, .inr (1, [.ref a_12, .ref a_13, .int i_10, .int i_11, .int i_12])), (a_12, .inl (cy 1, 2100, .inl g42358))]) hS
        have rg42358 : mm_ar g42358 0 9 := by rw [eg42358]; exact mm_ar_upd (mm_ar_wk rz11_4_36745 (by decide)) (mm_wk q42357 (by decide)) _
        obtain ⟨v42359, ev42359⟩ : ∃ y : Int32, y = x11_5_36744 + 1 := ⟨_, rfl⟩
        refine lv_iinc (v := v42359) (lv' := [(5, .int v42359), (4, .int v1), (0, .ref a_0), (1, .ref a_1), (2, .int i_0), (3, .int i_1)]) hx hb dX1_layDays_29 hl (k := 0) rfl (by rw [ev42359]; rfl) (by decide) rfl ?_
        clear hl
        clear ls
        intro ls hl
        have rv42359 : mm_rg v42359 1 10 := mm_add ev42359 q42357 mm_k1 (by decide) (by decide)
        have tv42359 := mm_addEc ev42359 q42357 mm_k1 (by decide) (k := 1) (by decide)
        refine lv_goto (tgt := 11) hx hb dX1_layDays_32 (by decide) ?_
        exact ih11 v42359 g42358 (mm_wk rv42359 (by decide)) rg42358 (mm_mu hm11 tv42359 (by decide) (rv42359).2 (by decide)) H locs hP hD hS ls (lv_sub hl [0, 1, 2, 3, 4, 5] rfl)
  exact L11_36745 _ 0 f_2 (mm_wk mm_k0 (by decide)) h5 (Nat.lt_succ_self _) H locs hP hD hS ls (lv_sub hl [0, 1, 2, 3, 4, 5] rfl)

set_option maxHeartbeats 4000000 in
set_option maxRecDepth 100000 in
theorem K338_X1_comesRound (l : Launch) (G : va_G) (cy : Nat → ClassId) (sz : Nat) (a_0 : Nat) (i_0 : Int32) (i_1 : Int32) (a_1 : Nat) (a_2 : Nat) (i_2 : Int32) (i_3 : Int32) (i_4 : Int32) (f_0 : Nat → Int32) (h0 : mm_rg i_0 1 209) (h1 : mm_rg i_1 (-2147483648) 210) (h2 : mm_rg i_2 1 10) (h3 : mm_ar f_0 0 9)  : mm_CI l yX1_comesRound (mm_ws yX1_comesRound cX1_comesRound 6 (some .boolean)) ({ frames := 0, cells := 0, slots := 0, locals := 0 } : Room) G cy sz [(a_0, .inr (1, [.ref a_1, .ref a_2, .int i_2, .int i_3, .int i_4])), (a_1, .inl (cy 1, 2100, .inl f_0))] [.ref a_0, .int i_0, .int i_1] (fun u : Unit => [(a_0, .inr (1, [.ref a_1, .ref a_2, .int i_2, .int i_3, .int i_4])), (a_1, .inl (cy 1, 2100, .inl f_0))]) (fun (r : Int32) (u : Unit) => ((0 = r ∧ mm_rg i_1 2 210) ∨ (1 = r))) 0 0 := by
  refine mm_begin (lv := [(0, .ref a_0), (1, .int i_0), (2, .int i_1)]) (by decide) (Nat.le_of_ble_eq_true rfl) rfl ?_
  intro p e s m below meth c A ls R args Q H locs hRe hQ hAe hx hb hr hlocks hml hown hnm hts hsz hA hS hP hK hD hZ hl
  have hRf : R.frames = 0 := by rw [hRe]
  have hRl : R.locals = 0 := by rw [hRe]
  have hRc : R.cells = 0 := by rw [hRe]
  have hRs : R.slots = 0 := by rw [hRe]
  refine lv_iload_n hx hb dX1_comesRound_0 rfl (lv_at hl 1 rfl) ?_
  refine lv_istore_n (lv' := [(3, .int i_0), (0, .ref a_0), (1, .int i_0), (2, .int i_1)]) hx hb dX1_comesRound_1 rfl hl (by decide) rfl ?_
  clear hl
  clear ls
  intro ls hl
  have L2_548 : ∀ (n : Nat) (x2_3_547 : Int32), mm_rg x2_3_547 1 210 → (i_0 : Int32).toInt ≤ (x2_3_547 : Int32).toInt → (210 - x2_3_547.toInt).toNat < n → ∀ (H : Heap) (locs : List Loc), va_P G vwCl [(a_0, .inr (1, [.ref a_1, .ref a_2, .int i_2, .int i_3, .int i_4])), (a_1, .inl (cy 1, 2100, .inl f_0))] H → va_D A [(a_0, .inr (1, [.ref a_1, .ref a_2, .int i_2, .int i_3, .int i_4])), (a_1, .inl (cy 1, 2100, .inl f_0))] → va_S A s.heap H locs → ∀ (ls : Array Slot), lv_has ls 6 [(3, .int x2_3_547), (0, .ref a_0), (1, .int i_0), (2, .int i_1)] → W p l e R s m args below meth c H locs 0 0 Q (F0 m 2 ls []) := by
    intro n
    induction n with
    | zero => intro x2_3_547 rx2_3_547 w548 hm; exact absurd hm (Nat.not_lt_zero _)
    | succ n ih2 =>
      intro x2_3_547 rx2_3_547 w548 hm2 H locs hP hD hS ls hl
      refine lv_iload_n hx hb dX1_comesRound_2 rfl (lv_at hl 0 rfl) ?_
      refine lv_iload_n hx hb dX1_comesRound_3 rfl (lv_at hl 3 rfl) ?_
      refine lv_icmp_ge (tgt := 66) hx hb dX1_comesRound_4 (by decide) (fun c550 => ?_) (fun c550 => ?_)
      · refine lv_iconst (v := 1) hx hb dX1_comesRound_66 (by decide) ?_
        subst hAe
        rw [hQ]
        exact W.zret (v := 1) hx hb hr rfl (fun t ht hW => ⟨⟨1, (), rfl, (Or.inr rfl), by rw [ht]; exact hP, hK.warm hW, hD⟩, hS.F ht⟩) hS.2.2 dX1_comesRound_67
      · have q551 := mm_ltL (h := 209) (mm_nle c550) rx2_3_547 h1 (by decide)
        have q552 := mm_ltR (lo := 2) (mm_nle c550) rx2_3_547 h1 (by decide)
        refine lv_iconst (v := 0) hx hb dX1_comesRound_7 (by decide) ?_
        refine lv_istore (lv' := [(4, .int 0), (3, .int x2_3_547), (0, .ref a_0), (1, .int i_0), (2, .int i_1)]) hx hb dX1_comesRound_8 hl (by decide) rfl ?_
        clear hl
        clear ls
        intro ls hl
        have L10_716 : ∀ (n : Nat) (x10_4_716 : Int32), mm_rg x10_4_716 0 10 → (10 - x10_4_716.toInt).toNat < n → ∀ (H : Heap) (locs : List Loc), va_P G vwCl [(a_0, .inr (1, [.ref a_1, .ref a_2, .int i_2, .int i_3, .int i_4])), (a_1, .inl (cy 1, 2100, .inl f_0))] H → va_D A [(a_0, .inr (1, [.ref a_1, .ref a_2, .int i_2, .int i_3, .int i_4])), (a_1, .inl (cy 1, 2100, .inl f_0))] → va_S A s.heap H locs → ∀ (ls : Array Slot), lv_has ls 6 [(4, .int x10_4_716), (3, .int x2_3_547), (0, .ref a_0), (1, .int i_0), (2, .int i_1)] → W p l e R s m args below meth c H locs 0 0 Q (F0 m 10 ls []) := by
          intro n
          induction n with
          | zero => intro x10_4_716 rx10_4_716 hm; exact absurd hm (Nat.not_lt_zero _)
          | succ n ih10 =>
            intro x10_4_716 rx10_4_716 hm10 H locs hP hD hS ls hl
            refine lv_iload hx hb dX1_comesRound_10 (lv_at hl 0 rfl) ?_
            refine lv_aload_n hx hb dX1_comesRound_12 rfl (lv_at hl 2 rfl) ?_
            refine va_get (D := G) (ci := 1) (v := .int i_2) (C := RX1) (T := TX1) (N := 5) hx hb hts (mm_i inlX1) hown hK.1 hP 0 rfl rfl 2 (by decide) (mm_h hts mm_w97) (fun _ h9 => h9) rfl dX1_comesRound_13 ?_
            refine lv_icmp_ge (tgt := 60) hx hb dX1_comesRound_16 (by decide) (fun c718 => ?_) (fun c718 => ?_)
            · have q719 := mm_leR (mm_le c718) h2 rx10_4_716
              obtain ⟨v720, ev720⟩ : ∃ y : Int32, y = x2_3_547 + 1 := ⟨_, rfl⟩
              refine lv_iinc (v := v720) (lv' := [(3, .int v720), (4, .int x10_4_716), (0, .ref a_0), (1, .int i_0), (2, .int i_1)]) hx hb dX1_comesRound_60 hl (k := 1) rfl (by rw [ev720]; rfl) (by decide) rfl ?_
              clear hl
              clear ls
              intro ls hl
              have rv720 : mm_rg v720 2 210 := mm_add ev720 q551 mm_k1 (by decide) (by decide)
              have tv720 := mm_addEc ev720 q551 mm_k1 (by decide) (k := 1) (by decide)
              refine lv_goto (tgt := 2) hx hb dX1_comesRound_63 (by decide) ?_
              exact ih2 v720 (mm_wk rv720 (by decide)) (by have := tv720; have := w548; omega) (mm_mu hm2 tv720 (by decide) (rv720).2 (by decide)) H locs hP hD hS ls (lv_sub hl [0, 2, 3, 4] rfl)
            · have q721 := mm_ltL (h := 9) (mm_nle c718) rx10_4_716 h2 (by decide)
              refine lv_aload_n hx hb dX1_comesRound_19 rfl (lv_at hl 2 rfl) ?_
              refine va_get (D := G) (ci := 1) (v := .ref a_1) (C := RX1) (T := TX1) (N := 5) hx hb hts (mm_i inlX1) hown hK.1 hP 0 rfl rfl 0 (by decide) (mm_h hts mm_w95) (fun _ h9 => h9) rfl dX1_comesRound_20 ?_
              refine lv_iload_n hx hb dX1_comesRound_23 rfl (lv_at hl 1 rfl) ?_
              refine lv_bipush (v := 10) hx hb dX1_comesRound_24 (by decide) ?_
              refine lv_imul hx hb dX1_comesRound_26 ?_
              refine lv_topi (fun v722 ev722 => ?_)
              have rv722 : mm_rg v722 10 2090 := mm_mul ev722 q551 mm_k10 (by decide) (by decide)
              refine lv_iload hx hb dX1_comesRound_27 (lv_at hl 0 rfl) ?_
              refine lv_iadd hx hb dX1_comesRound_29 ?_
              refine lv_topi (fun v723 ev723 => ?_)
              have rv723 : mm_rg v723 10 2099 := mm_add ev723 rv722 q721 (by decide) (by decide)
              have tv723 := mm_addE ev723 rv722 q721 (by decide)
              refine va_iald hx hb hK.1 hP 1 1 rfl rfl (mm_in rv723 (by decide)) dX1_comesRound_30 ?_
              refine lv_topi (fun v724 ev724 => ?_)
              have rv724 : mm_rg v724 0 9 := mm_eqv ev724 (h3 _)
              refine lv_istore (lv' := [(5, .int v724), (4, .int x10_4_716), (3, .int x2_3_547), (0, .ref a_0), (1, .int i_0), (2, .int i_1)]) hx hb dX1_comesRound_31 hl (by decide) rfl ?_
              clear hl
              clear ls
              intro ls hl
              refine lv_iload hx hb dX1_comesRound_33 (lv_at hl 0 rfl) ?_
              refine lv_aload_n hx hb dX1_comesRound_35 rfl (lv_at hl 3 rfl) ?_
              refine va_get (D := G) (ci := 1) (v := .ref a_1) (C := RX1) (T := TX1) (N := 5) hx hb hts (mm_i inlX1) hown hK.1 hP 0 rfl rfl 0 (by decide) (mm_h hts mm_w95) (fun _ h9 => h9) rfl dX1_comesRound_36 ?_
              refine lv_iload_n hx hb dX1_comesRound_39 rfl (lv_at hl 2 rfl) ?_
              refine lv_iload_n hx hb dX1_comesRound_40 rfl (lv_at hl 4 rfl) ?_
              refine lv_isub hx hb dX1_comesRound_41 ?_
              refine lv_topi (fun v725 ev725 => ?_)
              have rv725 : mm_rg v725 (-208) 208 := mm_sub ev725 q551 h0 (by decide) (by decide)
              have tv725 := mm_subE ev725 q551 h0 (by decide)
              have q726 : mm_rg v725 0 208 := mm_sub0 ev725 w548 q551 h0 (by decide)
              refine lv_bipush (v := 10) hx hb dX1_comesRound_42 (by decide) ?_
              refine lv_imul hx hb dX1_comesRound_44 ?_
              refine lv_topi (fun v727 ev727 => ?_)
              have rv727 : mm_rg v727 0 2080 := mm_mul ev727 q726 mm_k10 (by decide) (by decide)
              refine lv_iload hx hb dX1_comesRound_45 (lv_at hl 1 rfl) ?_
              refine lv_iadd hx hb dX1_comesRound_47 ?_
              refine lv_topi (fun v728 ev728 => ?_)
              have rv728 : mm_rg v728 0 2089 := mm_add ev728 rv727 q721 (by decide) (by decide)
              have tv728 := mm_addE ev728 rv727 q721 (by decide)
              refine va_iald hx hb hK.1 hP 1 1 rfl rfl (mm_in rv728 (by decide)) dX1_comesRound_48 ?_
              refine lv_topi (fun v729 ev729 => ?_)
              have rv729 : mm_rg v729 0 9 := mm_eqv ev729 (h3 _)
              refine lv_icmp_eq (tgt := 54) hx hb dX1_comesRound_49 (by decide) (fun c730 => ?_) (fun c730 => ?_)
              · obtain ⟨v731, ev731⟩ : ∃ y : Int32, y = x10_4_716 + 1 := ⟨_, rfl⟩
                refine lv_iinc (v := v731) (lv' := [(4, .int v731), (5, .int v724), (3, .int x2_3_547), (0, .ref a_0), (1, .int i_0), (2, .int i_1)]) hx hb dX1_comesRound_54 hl (k := 1) rfl (by rw [ev731]; rfl) (by decide) rfl ?_
                clear hl
                clear ls
                intro ls hl
                have rv731 : mm_rg v731 1 10 := mm_add ev731 q721 mm_k1 (by decide) (by decide)
                have tv731 := mm_addEc ev731 q721 mm_k1 (by decide) (k := 1) (by decide)
                refine lv_goto (tgt := 10) hx hb dX1_comesRound_57 (by decide) ?_
                exact ih10 v731 (mm_wk rv731 (by decide)) (mm_mu hm10 tv731 (by decide) (rv731).2 (by decide)) H locs hP hD hS ls (lv_sub hl [0, 2, 3, 4, 5] rfl)
              · refine lv_iconst (v := 0) hx hb dX1_comesRound_52 (by decide) ?_
                subst hAe
                rw [hQ]
                exact W.zret (v := 0) hx hb hr rfl (fun t ht hW => ⟨⟨0, (), rfl, (Or.inl ⟨rfl, q552⟩), by rw [ht]; exact hP, hK.warm hW, hD⟩, hS.F ht⟩) hS.2.2 dX1_comesRound_53
        exact L10_716 _ 0 (mm_wk mm_k0 (by decide)) (Nat.lt_succ_self _) H locs hP hD hS ls (lv_sub hl [0, 1, 2, 3, 4] rfl)
  exact L2_548 _ i_0 (mm_wk h0 (by decide)) (Int.le_refl _) (Nat.lt_succ_self _) H locs hP hD hS ls (lv_sub hl [0, 1, 2, 3] rfl)

set_option maxHeartbeats 4000000 in
set_option maxRecDepth 100000 in
theorem K339_X1_leastPeriod (l : Launch) (G : va_G) (cy : Nat → ClassId) (sz : Nat) (a_0 : Nat) (i_0 : Int32) (a_1 : Nat) (a_2 : Nat) (i_1 : Int32) (i_2 : Int32) (i_3 : Int32) (f_0 : Nat → Int32) (h0 : mm_rg i_0 (-2147483648) 210) (h1 : mm_rg i_1 1 10) (h2 : mm_ar f_0 0 9)  : mm_CI l yX1_leastPeriod (mm_ws yX1_leastPeriod cX1_leastPeriod 3 (some .int)) ({ frames := 1, cells := 0, slots := 0, locals := 25 } : Room) G cy sz [(a_0, .inr (1, [.ref a_1, .ref a_2, .int i_1, .int i_2, .int i_3])), (a_1, .inl (cy 1, 2100, .inl f_0))] [.ref a_0, .int i_0] (fun u : Unit => [(a_0, .inr (1, [.ref a_1, .ref a_2, .int i_1, .int i_2, .int i_3])), (a_1, .inl (cy 1, 2100, .inl f_0))]) (fun (r : Int32) (u : Unit) => mm_rg r (-2147483648) 210) 0 0 := by
  refine mm_begin (lv := [(0, .ref a_0), (1, .int i_0)]) (by decide) (Nat.le_of_ble_eq_true rfl) rfl ?_
  intro p e s m below meth c A ls R args Q H locs hRe hQ hAe hx hb hr hlocks hml hown hnm hts hsz hA hS hP hK hD hZ hl
  have hRf : R.frames = 1 := by rw [hRe]
  have hRl : R.locals = 25 := by rw [hRe]
  have hRc : R.cells = 0 := by rw [hRe]
  have hRs : R.slots = 0 := by rw [hRe]
  refine lv_iconst (v := 1) hx hb dX1_leastPeriod_0 (by decide) ?_
  refine lv_istore_n (lv' := [(2, .int 1), (0, .ref a_0), (1, .int i_0)]) hx hb dX1_leastPeriod_1 rfl hl (by decide) rfl ?_
  clear hl
  clear ls
  intro ls hl
  have L2_206 : ∀ (n : Nat) (x2_2_206 : Int32), mm_rg x2_2_206 1 210 → (210 - x2_2_206.toInt).toNat < n → ∀ (H : Heap) (locs : List Loc), va_P G vwCl [(a_0, .inr (1, [.ref a_1, .ref a_2, .int i_1, .int i_2, .int i_3])), (a_1, .inl (cy 1, 2100, .inl f_0))] H → va_D A [(a_0, .inr (1, [.ref a_1, .ref a_2, .int i_1, .int i_2, .int i_3])), (a_1, .inl (cy 1, 2100, .inl f_0))] → va_S A s.heap H locs → ∀ (ls : Array Slot), lv_has ls 3 [(2, .int x2_2_206), (0, .ref a_0), (1, .int i_0)] → W p l e R s m args below meth c H locs 0 0 Q (F0 m 2 ls []) := by
    intro n
    induction n with
    | zero => intro x2_2_206 rx2_2_206 hm; exact absurd hm (Nat.not_lt_zero _)
    | succ n ih2 =>
      intro x2_2_206 rx2_2_206 hm2 H locs hP hD hS ls hl
      refine lv_iload_n hx hb dX1_leastPeriod_2 rfl (lv_at hl 0 rfl) ?_
      refine lv_iload_n hx hb dX1_leastPeriod_3 rfl (lv_at hl 2 rfl) ?_
      refine lv_icmp_ge (tgt := 30) hx hb dX1_leastPeriod_4 (by decide) (fun c208 => ?_) (fun c208 => ?_)
      · refine lv_iload_n hx hb dX1_leastPeriod_30 rfl (lv_at hl 2 rfl) ?_
        subst hAe
        rw [hQ]
        exact W.iret (v := i_0) hx hb hr (fun t ht hW => ⟨⟨i_0, (), rfl, h0, by rw [ht]; exact hP, hK.warm hW, hD⟩, hS.F ht⟩) hS.2.2 dX1_leastPeriod_31
      · have q209 := mm_ltL (h := 209) (mm_nle c208) rx2_2_206 h0 (by decide)
        have q210 := mm_ltR (lo := 2) (mm_nle c208) rx2_2_206 h0 (by decide)
        refine lv_iload_n hx hb dX1_leastPeriod_7 rfl (lv_at hl 2 rfl) ?_
        refine lv_iload_n hx hb dX1_leastPeriod_8 rfl (lv_at hl 0 rfl) ?_
        refine lv_irem hx hb dX1_leastPeriod_9 (mm_nz q209 (by decide)) ?_
        refine lv_topi (fun v211 ev211 => ?_)
        have rv211 : mm_rg v211 0 208 := mm_rem ev211 q210 q209 (by decide) (by decide)
        refine lv_if_ne (tgt := 24) hx hb dX1_leastPeriod_10 (by decide) (fun c212 => ?_) (fun c212 => ?_)
        · have q213 := mm_neL (lo := 1) (mm_ne c212) rv211 mm_k0 (by decide) (by decide)
          obtain ⟨v214, ev214⟩ : ∃ y : Int32, y = x2_2_206 + 1 := ⟨_, rfl⟩
          refine lv_iinc (v := v214) (lv' := [(2, .int v214), (0, .ref a_0), (1, .int i_0)]) hx hb dX1_leastPeriod_24 hl (k := 0) rfl (by rw [ev214]; rfl) (by decide) rfl ?_
          clear hl
          clear ls
          intro ls hl
          have rv214 : mm_rg v214 2 210 := mm_add ev214 q209 mm_k1 (by decide) (by decide)
          have tv214 := mm_addEc ev214 q209 mm_k1 (by decide) (k := 1) (by decide)
          refine lv_goto (tgt := 2) hx hb dX1_leastPeriod_27 (by decide) ?_
          exact ih2 v214 (mm_wk rv214 (by decide)) (mm_mu hm2 tv214 (by decide) (rv214).2 (by decide)) H locs hP hD hS ls (lv_sub hl [0, 1, 2] rfl)
        · have q215 := mm_eqI (lo := 0) (hi := 0) c212 rv211 mm_k0 (by decide)
          refine lv_aload_n hx hb dX1_leastPeriod_13 rfl (lv_at hl 1 rfl) ?_
          refine lv_iload_n hx hb dX1_leastPeriod_14 rfl (lv_at hl 0 rfl) ?_
          refine lv_iload_n hx hb dX1_leastPeriod_15 rfl (lv_at hl 2 rfl) ?_
          refine mm_finir (va_runV (As := [.int x2_2_206, .int i_0]) (rest := []) ⟨hx, hb, hml, hown, hts⟩ (K338_X1_comesRound l G cy H.size a_0 x2_2_206 i_0 a_1 a_2 i_1 i_2 i_3 f_0 q209 (mm_wk q210 (by decide)) h1 h2) (cwV 2 hts (mm_gV mm_w424 mm_w425 mm_w426 mm_w91 mm_w427) rfl rfl rfl hd_X1_comesRound ⟨by rw [hRf]; exact Nat.le_of_ble_eq_true rfl, by rw [hRl]; exact Nat.le_of_ble_eq_true rfl⟩) (mm_preV hK hZ hS hA hP hD [0, 1] rfl rfl 0 rfl rfl rfl) rfl rfl hl.1 rfl (lv_room (Nat.le_of_ble_eq_true rfl)) dX1_leastPeriod_16 ⟨by rw [hRc]; exact Nat.le_of_ble_eq_true rfl, by rw [hRs]; exact Nat.le_of_ble_eq_true rfl⟩) hP hD hS hA [0, 1] rfl (fun _ => rfl) ?_
          clear hP hD hS
          clear H locs
          intro v216 _u H locs hw hP hD hS
          rcases hw with ⟨rfl, w217⟩ | rfl
          · refine lv_if_eq (tgt := 24) hx hb dX1_leastPeriod_19 (by decide) (fun c218 => ?_) (fun c218 => ?_)
            · obtain ⟨v219, ev219⟩ : ∃ y : Int32, y = x2_2_206 + 1 := ⟨_, rfl⟩
              refine lv_iinc (v := v219) (lv' := [(2, .int v219), (0, .ref a_0), (1, .int i_0)]) hx hb dX1_leastPeriod_24 hl (k := 0) rfl (by rw [ev219]; rfl) (by decide) rfl ?_
              clear hl
              clear ls
              intro ls hl
              have rv219 : mm_rg v219 2 210 := mm_add ev219 q209 mm_k1 (by decide) (by decide)
              have tv219 := mm_addEc ev219 q209 mm_k1 (by decide) (k := 1) (by decide)
              refine lv_goto (tgt := 2) hx hb dX1_leastPeriod_27 (by decide) ?_
              exact ih2 v219 (mm_wk rv219 (by decide)) (mm_mu hm2 tv219 (by decide) (rv219).2 (by decide)) H locs hP hD hS ls (lv_sub hl [0, 1, 2] rfl)
            · have q220 := mm_neL (lo := 1) (mm_ne c218) mm_k0 mm_k0 (by decide) (by decide)
              exact mm_no q220 (by decide)
          · refine lv_if_eq (tgt := 24) hx hb dX1_leastPeriod_19 (by decide) (fun c221 => ?_) (fun c221 => ?_)
            · exact mm_eqN c221.symm mm_k0 mm_k1 (by decide)
            · refine lv_iload_n hx hb dX1_leastPeriod_22 rfl (lv_at hl 0 rfl) ?_
              subst hAe
              rw [hQ]
              exact W.iret (v := x2_2_206) hx hb hr (fun t ht hW => ⟨⟨x2_2_206, (), rfl, (mm_wk q209 (by decide)), by rw [ht]; exact hP, hK.warm hW, hD⟩, hS.F ht⟩) hS.2.2 dX1_leastPeriod_23
  exact L2_206 _ 1 (mm_wk mm_k1 (by decide)) (Nat.lt_succ_self _) H locs hP hD hS ls (lv_sub hl [0, 1, 2] rfl)

set_option maxHeartbeats 4000000 in
set_option maxRecDepth 100000 in
theorem K340_X1_lay (l : Launch) (G : va_G) (cy : Nat → ClassId) (sz : Nat) (a_0 : Nat) (a_1 : Nat) (i_0 : Int32) (i_1 : Int32) (i_2 : Int32) (i_3 : Int32) (i_4 : Int32) (i_5 : Int32) (i_6 : Int32) (i_7 : Int32) (i_8 : Int32) (a_2 : Nat) (a_3 : Nat) (a_4 : Nat) (a_5 : Nat) (a_6 : Nat) (a_7 : Nat) (a_8 : Nat) (a_9 : Nat) (a_10 : Nat) (a_11 : Nat) (f_0 : Nat → Int32) (f_1 : Nat → Int32) (a_12 : Nat) (a_13 : Nat) (i_9 : Int32) (i_10 : Int32) (i_11 : Int32) (f_2 : Nat → Int32) (f_3 : Nat → Int32) (h0 : mm_rg i_0 0 2) (h1 : mm_rg i_5 0 9) (h2 : mm_ar f_0 0 7) (h3 : mm_ar f_1 0 9) (h4 : mm_rg i_9 1 10) (h5 : mm_rg i_11 (-2147483648) 210) (h6 : mm_ar f_2 0 9) (h7 : mm_ar f_3 0 9)  : mm_CV l yX1_lay (mm_ws yX1_lay cX1_lay 4 (none)) ({ frames := 3, cells := 0, slots := 0, locals := 77 } : Room) G cy sz [(a_1, .inr (0, [.int i_1, .int i_2, .int i_3, .int i_4, .int i_5, .int i_6, .int i_7, .int i_8, .ref a_2, .ref a_3, .ref a_4, .ref a_5, .ref a_6, .ref a_7, .ref a_8, .ref a_9, .ref a_10, .ref a_11])), (a_4, .inl (cy 1, 3, .inl f_0)), (a_5, .inl (cy 1, 210, .inl f_1)), (a_0, .inr (1, [.ref a_12, .ref a_13, .int i_9, .int i_10, .int i_11])), (a_12, .inl (cy 1, 2100, .inl f_2)), (a_13, .inl (cy 1, 10, .inl f_3))] [.ref a_0, .ref a_1, .int i_0] (fun u : Int32 × Int32 × Int32 × (Nat → Int32) × (Nat → Int32) => [(a_1, .inr (0, [.int i_1, .int i_2, .int i_3, .int i_4, .int i_5, .int i_6, .int i_7, .int i_8, .ref a_2, .ref a_3, .ref a_4, .ref a_5, .ref a_6, .ref a_7, .ref a_8, .ref a_9, .ref a_10, .ref a_11])), (a_4, .inl (cy 1, 3, .inl f_0)), (a_5, .inl (cy 1, 210, .inl f_1)), (a_0, .inr (1, [.ref a_12, .ref a_13, .int u.1, .int u.2.1, .int u.2.2.1])), (a_12, .inl (cy 1, 2100, .inl u.2.2.2.1)), (a_13, .inl (cy 1, 10, .inl u.2.2.2.2))]) (fun u : Int32 × Int32 × Int32 × (Nat → Int32) × (Nat → Int32) => mm_rg u.1 1 10 ∧ mm_rg u.2.2.1 (-2147483648) 210 ∧ mm_ar u.2.2.2.1 0 9 ∧ mm_ar u.2.2.2.2 0 9) 0 0 := by
  refine mm_begin (lv := [(0, .ref a_0), (1, .ref a_1), (2, .int i_0)]) (by decide) (Nat.le_of_ble_eq_true rfl) rfl ?_
  intro p e s m below meth c A ls R args Q H locs hRe hQ hAe hx hb hr hlocks hml hown hnm hts hsz hA hS hP hK hD hZ hl
  have hRf : R.frames = 3 := by rw [hRe]
  have hRl : R.locals = 77 := by rw [hRe]
  have hRc : R.cells = 0 := by rw [hRe]
  have hRs : R.slots = 0 := by rw [hRe]
  refine lv_aload_n hx hb dX1_lay_0 rfl (lv_at hl 0 rfl) ?_
  refine lv_aload_n hx hb dX1_lay_1 rfl (lv_at hl 1 rfl) ?_
  refine mm_finir (va_runV (As := []) (rest := [.ref a_0]) ⟨hx, hb, hml, hown, hts⟩ (K107_X0_wordCount l G cy H.size a_1 i_1 i_2 i_3 i_4 i_5 i_6 i_7 i_8 a_2 a_3 a_4 a_5 a_6 a_7 a_8 a_9 a_10 a_11 h1) (cwV 0 hts (mm_gV mm_w398 mm_w349 mm_w350 mm_w28 mm_w351) rfl rfl rfl hd_X0_wordCount ⟨by rw [hRf]; exact Nat.le_of_ble_eq_true rfl, by rw [hRl]; exact Nat.le_of_ble_eq_true rfl⟩) (mm_preV hK hZ hS hA hP hD [0] rfl rfl 0 rfl rfl rfl) rfl rfl hl.1 rfl (lv_room (Nat.le_of_ble_eq_true rfl)) dX1_lay_2 ⟨by rw [hRc]; exact Nat.le_of_ble_eq_true rfl, by rw [hRs]; exact Nat.le_of_ble_eq_true rfl⟩) hP hD hS hA [0] rfl (fun _ => rfl) ?_
  clear hP hD hS
  clear H locs
  intro v1 _u H locs hw hP hD hS
  have w2 := hw
  refine va_put (D := G) (ci := 1) (v := .int v1) (ty := tyX1 2) (C := RX1) (T := TX1) (N := 5) hx hb hts (mm_i inlX1) tyX1 tyX1_ok nmX1 hown hK.1 hP hD hS 3 rfl rfl 2 (by decide) (mm_h hts mm_w97) (fun _ h9 => h9) rfl (tyX1_ok 2 (by decide)) rfl rfl (Nat.le_of_ble_eq_true rfl) dX1_lay_5 ?_
  clear hP hD hS
  clear H locs
  intro H locs (hP : va_P G vwCl [(a_1, .inr (0, [.int i_1, .int i_2, .int i_3, .int i_4, .int i_5, .int i_6, .int i_7, .int i_8, .ref a_2, .ref a_3, .ref a_4, .ref a_5, .ref a_6, .ref a_7, .ref a_8, .ref a_9, .ref a_10, .ref a_11])), (a_4, .inl (cy 1, 3, .inl f_0)), (a_5, .inl (cy 1, 210, .inl f_1)), (a_0, .inr (1, [.ref a_12, .ref a_13, .int v1, .int i_10, .int i_11])), (a_12, .inl (cy 1, 2100, .inl f_2)), (a_13, .inl (cy 1, 10, .inl f_3))] H) (hD : va_D A [(a_1, .inr (0, [.int i_1, .int i_2, .int i_3, .int i_4, .int i_5, .int i_6, .int i_7, .int i_8, .ref a_2, .ref a_3, .ref a_4, .ref a_5, .ref a_6, .ref a_7, .ref a_8, .ref a_9, .ref a_10, .ref a_11])), (a_4, .inl (cy 1, 3, .inl f_0)), (a_5, .inl (cy 1, 210, .inl f_1)), (a_0, .inr (1, [.ref a_12, .ref a_13, .int v1, .int i_10, .int i_11])), (a_12, .inl (cy 1, 2100, .inl f_2)), (a_13, .inl (cy 1, 10, .inl f_3))]) hS
  refine lv_aload_n hx hb dX1_lay_8 rfl (lv_at hl 0 rfl) ?_
  refine lv_aload_n hx hb dX1_lay_9 rfl (lv_at hl 1 rfl) ?_
  refine lv_iload_n hx hb dX1_lay_10 rfl (lv_at hl 2 rfl) ?_
  refine mm_finv (va_runV (As := [.ref a_1, .int i_0]) (rest := []) ⟨hx, hb, hml, hown, hts⟩ (K336_X1_layTurn l G cy H.size a_0 a_1 i_0 i_1 i_2 i_3 i_4 i_5 i_6 i_7 i_8 a_2 a_3 a_4 a_5 a_6 a_7 a_8 a_9 a_10 a_11 f_0 f_1 a_12 a_13 v1 i_10 i_11 f_3 h0 h2 h3 w2 h7) (cwV 2 hts (mm_gV mm_w399 mm_w400 mm_w401 mm_w91 mm_w402) rfl rfl rfl hd_X1_layTurn ⟨by rw [hRf]; exact Nat.le_of_ble_eq_true rfl, by rw [hRl]; exact Nat.le_of_ble_eq_true rfl⟩) (mm_preV hK hZ hS hA hP hD [0, 1, 2, 3, 5] rfl rfl 3 rfl rfl rfl) rfl rfl hl.1 rfl (lv_room (Nat.le_of_ble_eq_true rfl)) dX1_lay_11 ⟨by rw [hRc]; exact Nat.le_of_ble_eq_true rfl, by rw [hRs]; exact Nat.le_of_ble_eq_true rfl⟩) hP hD hS hA (fun u : Int32 × (Nat → Int32) => [(a_1, .inr (0, [.int i_1, .int i_2, .int i_3, .int i_4, .int i_5, .int i_6, .int i_7, .int i_8, .ref a_2, .ref a_3, .ref a_4, .ref a_5, .ref a_6, .ref a_7, .ref a_8, .ref a_9, .ref a_10, .ref a_11])), (a_4, .inl (cy 1, 3, .inl f_0)), (a_5, .inl (cy 1, 210, .inl f_1)), (a_0, .inr (1, [.ref a_12, .ref a_13, .int v1, .int u.1, .int i_11])), (a_12, .inl (cy 1, 2100, .inl f_2)), (a_13, .inl (cy 1, 10, .inl u.2))]) [0, 1, 2, 3, 5] [4] (n := 6) (fun _ => rfl) (by decide +kernel) (by decide +kernel) rfl (fun _ => rfl) (wr := [(a_12, .inl (cy 1, 2100, .inl f_2))]) rfl (fun _ => rfl) (fun _ => rfl) ?_
  clear hP hD hS
  clear H locs
  intro u
  obtain ⟨n3, n4⟩ := u
  intro H locs hw (hP : va_P G vwCl [(a_1, .inr (0, [.int i_1, .int i_2, .int i_3, .int i_4, .int i_5, .int i_6, .int i_7, .int i_8, .ref a_2, .ref a_3, .ref a_4, .ref a_5, .ref a_6, .ref a_7, .ref a_8, .ref a_9, .ref a_10, .ref a_11])), (a_4, .inl (cy 1, 3, .inl f_0)), (a_5, .inl (cy 1, 210, .inl f_1)), (a_0, .inr (1, [.ref a_12, .ref a_13, .int v1, .int n3, .int i_11])), (a_12, .inl (cy 1, 2100, .inl f_2)), (a_13, .inl (cy 1, 10, .inl n4))] H) (hD : va_D A [(a_1, .inr (0, [.int i_1, .int i_2, .int i_3, .int i_4, .int i_5, .int i_6, .int i_7, .int i_8, .ref a_2, .ref a_3, .ref a_4, .ref a_5, .ref a_6, .ref a_7, .ref a_8, .ref a_9, .ref a_10, .ref a_11])), (a_4, .inl (cy 1, 3, .inl f_0)), (a_5, .inl (cy 1, 210, .inl f_1)), (a_0, .inr (1, [.ref a_12, .ref a_13, .int v1, .int n3, .int i_11])), (a_12, .inl (cy 1, 2100, .inl f_2)), (a_13, .inl (cy 1, 10, .inl n4))]) hS
  have w5 := hw
  refine lv_sipush (v := 210) hx hb dX1_lay_14 (by decide) ?_
  refine lv_iconst (v := 1) hx hb dX1_lay_17 (by decide) ?_
  refine lv_aload_n hx hb dX1_lay_18 rfl (lv_at hl 1 rfl) ?_
  refine va_get (D := G) (ci := 0) (v := .ref a_4) (C := RX0) (T := TX0) (N := 18) hx hb hts (mm_i inlX0) hown hK.1 hP 0 rfl rfl 10 (by decide) (mm_h hts mm_w395) (fun _ h9 => h9) rfl dX1_lay_19 ?_
  refine lv_iload_n hx hb dX1_lay_22 rfl (lv_at hl 2 rfl) ?_
  refine va_iald hx hb hK.1 hP 1 1 rfl rfl (mm_in h0 (by decide)) dX1_lay_23 ?_
  refine lv_topi (fun v6 ev6 => ?_)
  have rv6 : mm_rg v6 0 7 := mm_eqv ev6 (h2 _)
  refine va_mmax hx hb (by rw [hml]; exact hl.1.symm) hown (mm_h hts mm_w396) (mm_h hts mm_w345) (mm_h hts mm_w346) (mm_h hts mm_w347) (by rw [hRf]; exact Nat.le_of_ble_eq_true rfl) (by rw [hRl]; exact Nat.le_of_ble_eq_true rfl) (by rw [hRc]; exact Nat.le_of_ble_eq_true rfl) (by rw [hRs]; exact Nat.le_of_ble_eq_true rfl) dX1_lay_24 ?_
  refine lv_topi (fun v7 ev7 => ?_)
  have rv7 : mm_rg v7 1 7 := mm_max ev7 mm_k1 rv6 (by decide)
  refine lv_aload_n hx hb dX1_lay_27 rfl (lv_at hl 0 rfl) ?_
  refine va_get (D := G) (ci := 1) (v := .int n3) (C := RX1) (T := TX1) (N := 5) hx hb hts (mm_i inlX1) hown hK.1 hP 3 rfl rfl 3 (by decide) (mm_h hts mm_w98) (fun _ h9 => h9) rfl dX1_lay_28 ?_
  refine lv_imul hx hb dX1_lay_31 ?_
  refine lv_topi (fun v8 ev8 => ?_)
  refine va_mmin hx hb (by rw [hml]; exact hl.1.symm) hown (mm_h hts mm_w397) (mm_h hts mm_w385) (mm_h hts mm_w346) (mm_h hts mm_w386) (by rw [hRf]; exact Nat.le_of_ble_eq_true rfl) (by rw [hRl]; exact Nat.le_of_ble_eq_true rfl) (by rw [hRc]; exact Nat.le_of_ble_eq_true rfl) (by rw [hRs]; exact Nat.le_of_ble_eq_true rfl) dX1_lay_32 ?_
  refine lv_topi (fun v9 ev9 => ?_)
  have rv9 : mm_rg v9 (-2147483648) 210 := mm_min ev9 mm_k210 (mm_top v8) (by decide)
  refine lv_istore_n (lv' := [(3, .int v9), (0, .ref a_0), (1, .ref a_1), (2, .int i_0)]) hx hb dX1_lay_35 rfl hl (by decide) rfl ?_
  clear hl
  clear ls
  intro ls hl
  refine lv_aload_n hx hb dX1_lay_36 rfl (lv_at hl 1 rfl) ?_
  refine lv_aload_n hx hb dX1_lay_37 rfl (lv_at hl 2 rfl) ?_
  refine lv_iload_n hx hb dX1_lay_38 rfl (lv_at hl 3 rfl) ?_
  refine lv_iload_n hx hb dX1_lay_39 rfl (lv_at hl 0 rfl) ?_
  refine mm_finv (va_runV (As := [.ref a_1, .int i_0, .int v9]) (rest := []) ⟨hx, hb, hml, hown, hts⟩ (K337_X1_layDays l G cy H.size a_0 a_1 i_0 v9 i_1 i_2 i_3 i_4 i_5 i_6 i_7 i_8 a_2 a_3 a_4 a_5 a_6 a_7 a_8 a_9 a_10 a_11 f_0 f_1 a_12 a_13 v1 n3 i_11 f_2 h0 rv9 h2 h3 w2 h6) (cwV 3 hts (mm_gV mm_w416 mm_w417 mm_w418 mm_w91 mm_w419) rfl rfl rfl hd_X1_layDays ⟨by rw [hRf]; exact Nat.le_of_ble_eq_true rfl, by rw [hRl]; exact Nat.le_of_ble_eq_true rfl⟩) (mm_preV hK hZ hS hA hP hD [0, 1, 2, 3, 4] rfl rfl 3 rfl rfl rfl) rfl rfl hl.1 rfl (lv_room (Nat.le_of_ble_eq_true rfl)) dX1_lay_40 ⟨by rw [hRc]; exact Nat.le_of_ble_eq_true rfl, by rw [hRs]; exact Nat.le_of_ble_eq_true rfl⟩) hP hD hS hA (fun u : (Nat → Int32) => [(a_1, .inr (0, [.int i_1, .int i_2, .int i_3, .int i_4, .int i_5, .int i_6, .int i_7, .int i_8, .ref a_2, .ref a_3, .ref a_4, .ref a_5, .ref a_6, .ref a_7, .ref a_8, .ref a_9, .ref a_10, .ref a_11])), (a_4, .inl (cy 1, 3, .inl f_0)), (a_5, .inl (cy 1, 210, .inl f_1)), (a_0, .inr (1, [.ref a_12, .ref a_13, .int v1, .int n3, .int i_11])), (a_12, .inl (cy 1, 2100, .inl u)), (a_13, .inl (cy 1, 10, .inl n4))]) [0, 1, 2, 3, 4] [5] (n := 6) (fun _ => rfl) (by decide +kernel) (by decide +kernel) rfl (fun _ => rfl) (wr := [(a_13, .inl (cy 1, 10, .inl n4))]) rfl (fun _ => rfl) (fun _ => rfl) ?_
  clear hP hD hS
  clear H locs
  intro n10 H locs hw (hP : va_P G vwCl [(a_1, .inr (0, [.int i_1, .int i_2, .int i_3, .int i_4, .int i_5, .int i_6, .int i_7, .int i_8, .ref a_2, .ref a_3, .ref a_4, .ref a_5, .ref a_6, .ref a_7, .ref a_8, .ref a_9, .ref a_10, .ref a_11])), (a_4, .inl (cy 1, 3, .inl f_0)), (a_5, .inl (cy 1, 210, .inl f_1)), (a_0, .inr (1, [.ref a_12, .ref a_13, .int v1, .int n3, .int i_11])), (a_12, .inl (cy 1, 2100, .inl n10)), (a_13, .inl (cy 1, 10, .inl n4))] H) (hD : va_D A [(a_1, .inr (0, [.int i_1, .int i_2, .int i_3, .int i_4, .int i_5, .int i_6, .int i_7, .int i_8, .ref a_2, .ref a_3, .ref a_4, .ref a_5, .ref a_6, .ref a_7, .ref a_8, .ref a_9, .ref a_10, .ref a_11])), (a_4, .inl (cy 1, 3, .inl f_0)), (a_5, .inl (cy 1, 210, .inl f_1)), (a_0, .inr (1, [.ref a_12, .ref a_13, .int v1, .int n3, .int i_11])), (a_12, .inl (cy 1, 2100, .inl n10)), (a_13, .inl (cy 1, 10, .inl n4))]) hS
  have w11 := hw
  refine lv_aload_n hx hb dX1_lay_43 rfl (lv_at hl 1 rfl) ?_
  refine lv_aload_n hx hb dX1_lay_44 rfl (lv_at hl 1 rfl) ?_
  refine lv_iload_n hx hb dX1_lay_45 rfl (lv_at hl 0 rfl) ?_
  refine mm_finir (va_runV (As := [.int v9]) (rest := [.ref a_0]) ⟨hx, hb, hml, hown, hts⟩ (K339_X1_leastPeriod l G cy H.size a_0 v9 a_12 a_13 v1 n3 i_11 n10 rv9 w2 w11) (cwV 1 hts (mm_gV mm_w420 mm_w421 mm_w422 mm_w91 mm_w423) rfl rfl rfl hd_X1_leastPeriod ⟨by rw [hRf]; exact Nat.le_of_ble_eq_true rfl, by rw [hRl]; exact Nat.le_of_ble_eq_true rfl⟩) (mm_preV hK hZ hS hA hP hD [3, 4] rfl rfl 3 rfl rfl rfl) rfl rfl hl.1 rfl (lv_room (Nat.le_of_ble_eq_true rfl)) dX1_lay_46 ⟨by rw [hRc]; exact Nat.le_of_ble_eq_true rfl, by rw [hRs]; exact Nat.le_of_ble_eq_true rfl⟩) hP hD hS hA [3, 4] rfl (fun _ => rfl) ?_
  clear hP hD hS
  clear H locs
  intro v12 _u H locs hw hP hD hS
  have w13 := hw
  refine va_put (D := G) (ci := 1) (v := .int v12) (ty := tyX1 4) (C := RX1) (T := TX1) (N := 5) hx hb hts (mm_i inlX1) tyX1 tyX1_ok nmX1 hown hK.1 hP hD hS 3 rfl rfl 4 (by decide) (mm_h hts mm_w99) (fun _ h9 => h9) rfl (tyX1_ok 4 (by decide)) rfl rfl (Nat.le_of_ble_eq_true rfl) dX1_lay_49 ?_
  clear hP hD hS
  clear H locs
  intro H locs (hP : va_P G vwCl [(a_1, .inr (0, [.int i_1, .int i_2, .int i_3, .int i_4, .int i_5, .int i_6, .int i_7, .int i_8, .ref a_2, .ref a_3, .ref a_4, .ref a_5, .ref a_6, .ref a_7, .ref a_8, .ref a_9, .ref a_10, .ref a_11])), (a_4, .inl (cy 1, 3, .inl f_0)), (a_5, .inl (cy 1, 210, .inl f_1)), (a_0, .inr (1, [.ref a_12, .ref a_13, .int v1, .int n3, .int v12])), (a_12, .inl (cy 1, 2100, .inl n10)), (a_13, .inl (cy 1, 10, .inl n4))] H) (hD : va_D A [(a_1, .inr (0, [.int i_1, .int i_2, .int i_3, .int i_4, .int i_5, .int i_6, .int i_7, .int i_8, .ref a_2, .ref a_3, .ref a_4, .ref a_5, .ref a_6, .ref a_7, .ref a_8, .ref a_9, .ref a_10, .ref a_11])), (a_4, .inl (cy 1, 3, .inl f_0)), (a_5, .inl (cy 1, 210, .inl f_1)), (a_0, .inr (1, [.ref a_12, .ref a_13, .int v1, .int n3, .int v12])), (a_12, .inl (cy 1, 2100, .inl n10)), (a_13, .inl (cy 1, 10, .inl n4))]) hS
  subst hAe
  rw [hQ]
  exact W.vret hx hb hr (fun t ht hW => ⟨⟨(v1, n3, v12, n10, n4), rfl, ⟨w2, w13, w11, w5⟩, by rw [ht]; exact hP, hK.warm hW, hD⟩, hS.F ht⟩) hS.2.2 dX1_lay_52

set_option maxHeartbeats 4000000 in
set_option maxRecDepth 100000 in
theorem K341_X10_turnTo (l : Launch) (G : va_G) (cy : Nat → ClassId) (sz : Nat) (a_0 : Nat) (a_1 : Nat) (i_0 : Int32) (i_1 : Int32) (i_2 : Int32) (i_3 : Int32) (i_4 : Int32) (i_5 : Int32) (i_6 : Int32) (i_7 : Int32) (a_2 : Nat) (a_3 : Nat) (a_4 : Nat) (a_5 : Nat) (a_6 : Nat) (a_7 : Nat) (a_8 : Nat) (a_9 : Nat) (a_10 : Nat) (a_11 : Nat) (f_0 : Nat → Int32) (f_1 : Nat → Int32) (f_2 : Nat → Int32) (f_3 : Nat → Int32) (f_4 : Nat → Int32) (f_5 : Nat → Int32) (f_6 : Nat → Int32) (f_7 : Nat → Int32) (f_8 : Nat → Int32) (f_9 : Nat → Int32) (a_12 : Nat) (a_13 : Nat) (i_8 : Int32) (i_9 : Int32) (i_10 : Int32) (i_11 : Int32) (i_12 : Int32) (i_13 : Int32) (i_14 : Int32) (i_15 : Int32) (a_14 : Nat) (a_15 : Nat) (a_16 : Nat) (a_17 : Nat) (a_18 : Nat) (a_19 : Nat) (a_20 : Nat) (a_21 : Nat) (a_22 : Nat) (a_23 : Nat) (f_10 : Nat → Int32) (f_11 : Nat → Int32) (f_12 : Nat → Int32) (f_13 : Nat → Int32) (f_14 : Nat → Int32) (f_15 : Nat → Int32) (f_16 : Nat → Int32) (f_17 : Nat → Int32) (f_18 : Nat → Int32) (f_19 : Nat → Int32) (a_24 : Nat) (a_25 : Nat) (a_26 : Nat) (a_27 : Nat) (a_28 : Nat) (i_16 : Int32) (i_17 : Int32) (i_18 : Int32) (f_20 : Nat → Int32) (f_21 : Nat → Int32) (a_29 : Nat) (a_30 : Nat) (i_19 : Int32) (i_20 : Int32) (i_21 : Int32) (f_22 : Nat → Int32) (f_23 : Nat → Int32) (a_31 : Nat) (a_32 : Nat) (i_22 : Int32) (i_23 : Int32) (i_24 : Int32) (f_24 : Nat → Int32) (f_25 : Nat → Int32) (h0 : mm_rg i_1 0 10) (h1 : mm_rg i_2 0 99) (h2 : mm_rg i_3 0 99) (h3 : mm_rg i_4 0 9) (h4 : mm_rg i_5 0 3) (h5 : mm_rg i_6 0 6) (h6 : mm_rg i_7 0 30) (h7 : mm_ar f_0 (-1) 4) (h8 : mm_ar f_1 0 99) (h9 : mm_ar f_2 0 7) (h10 : mm_ar f_3 0 9) (h11 : mm_ar f_4 0 8) (h12 : mm_ar f_5 0 9) (h13 : mm_ar f_6 0 9) (h14 : mm_ar f_7 (-1) 2) (h15 : mm_ar f_8 0 99) (h16 : mm_ar f_9 0 9) (h17 : mm_rg i_9 0 10) (h18 : mm_rg i_10 0 99) (h19 : mm_rg i_11 0 99) (h20 : mm_rg i_12 0 9) (h21 : mm_rg i_13 0 3) (h22 : mm_rg i_14 0 6) (h23 : mm_rg i_15 0 30) (h24 : mm_ar f_10 (-1) 4) (h25 : mm_ar f_11 0 99) (h26 : mm_ar f_12 0 7) (h27 : mm_ar f_13 0 9) (h28 : mm_ar f_14 0 8) (h29 : mm_ar f_15 0 9) (h30 : mm_ar f_16 0 9) (h31 : mm_ar f_17 (-1) 2) (h32 : mm_ar f_18 0 99) (h33 : mm_ar f_19 0 9) (h34 : mm_rg i_16 1 10) (h35 : mm_rg i_18 (-2147483648) 210) (h36 : mm_ar f_20 0 9) (h37 : mm_ar f_21 0 9) (h38 : mm_rg i_19 1 10) (h39 : mm_rg i_21 (-2147483648) 210) (h40 : mm_ar f_22 0 9) (h41 : mm_ar f_23 0 9) (h42 : mm_rg i_22 1 10) (h43 : mm_rg i_24 (-2147483648) 210) (h44 : mm_ar f_24 0 9) (h45 : mm_ar f_25 0 9) (h46 : mm_act f_7 f_8) (h47 : mm_act f_17 f_18)  : mm_CV l yX10_turnTo (mm_ws yX10_turnTo cX10_turnTo 3 (none)) ({ frames := 4, cells := 0, slots := 0, locals := 106 } : Room) G cy sz [(a_1, .inr (0, [.int i_0, .int i_1, .int i_2, .int i_3, .int i_4, .int i_5, .int i_6, .int i_7, .ref a_2, .ref a_3, .ref a_4, .ref a_5, .ref a_6, .ref a_7, .ref a_8, .ref a_9, .ref a_10, .ref a_11])), (a_2, .inl (cy 1, 9, .inl f_0)), (a_3, .inl (cy 1, 9, .inl f_1)), (a_4, .inl (cy 1, 3, .inl f_2)), (a_5, .inl (cy 1, 210, .inl f_3)), (a_6, .inl (cy 1, 6, .inl f_4)), (a_7, .inl (cy 1, 48, .inl f_5)), (a_8, .inl (cy 1, 30, .inl f_6)), (a_9, .inl (cy 1, 30, .inl f_7)), (a_10, .inl (cy 1, 30, .inl f_8)), (a_11, .inl (cy 1, 30, .inl f_9)), (a_0, .inr (10, [.ref a_12, .ref a_13])), (a_12, .inr (0, [.int i_8, .int i_9, .int i_10, .int i_11, .int i_12, .int i_13, .int i_14, .int i_15, .ref a_14, .ref a_15, .ref a_16, .ref a_17, .ref a_18, .ref a_19, .ref a_20, .ref a_21, .ref a_22, .ref a_23])), (a_14, .inl (cy 1, 9, .inl f_10)), (a_15, .inl (cy 1, 9, .inl f_11)), (a_16, .inl (cy 1, 3, .inl f_12)), (a_17, .inl (cy 1, 210, .inl f_13)), (a_18, .inl (cy 1, 6, .inl f_14)), (a_19, .inl (cy 1, 48, .inl f_15)), (a_20, .inl (cy 1, 30, .inl f_16)), (a_21, .inl (cy 1, 30, .inl f_17)), (a_22, .inl (cy 1, 30, .inl f_18)), (a_23, .inl (cy 1, 30, .inl f_19)), (a_13, .inl (cy 5, 3, .inr (.inr (.inr (.inr (va_up (va_up (va_up (fun _ => none) 0 (some a_24)) 1 (some a_25)) 2 (some a_26))))))), (a_24, .inr (1, [.ref a_27, .ref a_28, .int i_16, .int i_17, .int i_18])), (a_27, .inl (cy 1, 2100, .inl f_20)), (a_28, .inl (cy 1, 10, .inl f_21)), (a_25, .inr (1, [.ref a_29, .ref a_30, .int i_19, .int i_20, .int i_21])), (a_29, .inl (cy 1, 2100, .inl f_22)), (a_30, .inl (cy 1, 10, .inl f_23)), (a_26, .inr (1, [.ref a_31, .ref a_32, .int i_22, .int i_23, .int i_24])), (a_31, .inl (cy 1, 2100, .inl f_24)), (a_32, .inl (cy 1, 10, .inl f_25))] [.ref a_0, .ref a_1] (fun u : Int32 × Int32 × Int32 × (Nat → Int32) × (Nat → Int32) × Int32 × Int32 × Int32 × (Nat → Int32) × (Nat → Int32) × Int32 × Int32 × Int32 × (Nat → Int32) × (Nat → Int32) => [(a_1, .inr (0, [.int i_0, .int i_1, .int i_2, .int i_3, .int i_4, .int i_5, .int i_6, .int i_7, .ref a_2, .ref a_3, .ref a_4, .ref a_5, .ref a_6, .ref a_7, .ref a_8, .ref a_9, .ref a_10, .ref a_11])), (a_2, .inl (cy 1, 9, .inl f_0)), (a_3, .inl (cy 1, 9, .inl f_1)), (a_4, .inl (cy 1, 3, .inl f_2)), (a_5, .inl (cy 1, 210, .inl f_3)), (a_6, .inl (cy 1, 6, .inl f_4)), (a_7, .inl (cy 1, 48, .inl f_5)), (a_8, .inl (cy 1, 30, .inl f_6)), (a_9, .inl (cy 1, 30, .inl f_7)), (a_10, .inl (cy 1, 30, .inl f_8)), (a_11, .inl (cy 1, 30, .inl f_9)), (a_0, .inr (10, [.ref a_12, .ref a_13])), (a_12, .inr (0, [.int i_0, .int i_1, .int i_2, .int i_3, .int i_4, .int i_5, .int i_6, .int i_7, .ref a_14, .ref a_15, .ref a_16, .ref a_17, .ref a_18, .ref a_19, .ref a_20, .ref a_21, .ref a_22, .ref a_23])), (a_14, .inl (cy 1, 9, .inl f_0)), (a_15, .inl (cy 1, 9, .inl f_1)), (a_16, .inl (cy 1, 3, .inl f_2)), (a_17, .inl (cy 1, 210, .inl f_3)), (a_18, .inl (cy 1, 6, .inl f_4)), (a_19, .inl (cy 1, 48, .inl f_5)), (a_20, .inl (cy 1, 30, .inl f_6)), (a_21, .inl (cy 1, 30, .inl f_7)), (a_22, .inl (cy 1, 30, .inl f_8)), (a_23, .inl (cy 1, 30, .inl f_9)), (a_13, .inl (cy 5, 3, .inr (.inr (.inr (.inr (va_up (va_up (va_up (fun _ => none) 0 (some a_24)) 1 (some a_25)) 2 (some a_26))))))), (a_24, .inr (1, [.ref a_27, .ref a_28, .int u.1, .int u.2.1, .int u.2.2.1])), (a_27, .inl (cy 1, 2100, .inl u.2.2.2.1)), (a_28, .inl (cy 1, 10, .inl u.2.2.2.2.1)), (a_25, .inr (1, [.ref a_29, .ref a_30, .int u.2.2.2.2.2.1, .int u.2.2.2.2.2.2.1, .int u.2.2.2.2.2.2.2.1])), (a_29, .inl (cy 1, 2100, .inl u.2.2.2.2.2.2.2.2.1)), (a_30, .inl (cy 1, 10, .inl u.2.2.2.2.2.2.2.2.2.1)), (a_26, .inr (1, [.ref a_31, .ref a_32, .int u.2.2.2.2.2.2.2.2.2.2.1, .int u.2.2.2.2.2.2.2.2.2.2.2.1, .int u.2.2.2.2.2.2.2.2.2.2.2.2.1])), (a_31, .inl (cy 1, 2100, .inl u.2.2.2.2.2.2.2.2.2.2.2.2.2.1)), (a_32, .inl (cy 1, 10, .inl u.2.2.2.2.2.2.2.2.2.2.2.2.2.2))]) (fun u : Int32 × Int32 × Int32 × (Nat → Int32) × (Nat → Int32) × Int32 × Int32 × Int32 × (Nat → Int32) × (Nat → Int32) × Int32 × Int32 × Int32 × (Nat → Int32) × (Nat → Int32) => mm_rg u.1 1 10 ∧ mm_rg u.2.2.1 (-2147483648) 210 ∧ mm_ar u.2.2.2.1 0 9 ∧ mm_ar u.2.2.2.2.1 0 9 ∧ mm_rg u.2.2.2.2.2.1 1 10 ∧ mm_rg u.2.2.2.2.2.2.2.1 (-2147483648) 210 ∧ mm_ar u.2.2.2.2.2.2.2.2.1 0 9 ∧ mm_ar u.2.2.2.2.2.2.2.2.2.1 0 9 ∧ mm_rg u.2.2.2.2.2.2.2.2.2.2.1 1 10 ∧ mm_rg u.2.2.2.2.2.2.2.2.2.2.2.2.1 (-2147483648) 210 ∧ mm_ar u.2.2.2.2.2.2.2.2.2.2.2.2.2.1 0 9 ∧ mm_ar u.2.2.2.2.2.2.2.2.2.2.2.2.2.2 0 9) 0 0 := by
  refine mm_begin (lv := [(0, .ref a_0), (1, .ref a_1)]) (by decide) (Nat.le_of_ble_eq_true rfl) rfl ?_
  intro p e s m below meth c A ls R args Q H locs hRe hQ hAe hx hb hr hlocks hml hown hnm hts hsz hA hS hP hK hD hZ hl
  have hRf : R.frames = 4 := by rw [hRe]
  have hRl : R.locals = 106 := by rw [hRe]
  have hRc : R.cells = 0 := by rw [hRe]
  have hRs : R.slots = 0 := by rw [hRe]
  refine lv_aload_n hx hb dX10_turnTo_0 rfl (lv_at hl 0 rfl) ?_
  refine va_get (D := G) (ci := 10) (v := .ref a_12) (C := RX10) (T := TX10) (N := 2) hx hb hts (mm_i inlX10) hown hK.1 hP 11 rfl rfl 0 (by decide) (mm_h hts mm_w87) (fun _ h9 => h9) rfl dX10_turnTo_1 ?_
  refine lv_aload_n hx hb dX10_turnTo_4 rfl (lv_at hl 1 rfl) ?_
  refine mm_finv (va_runV (As := [.ref a_1]) (rest := []) ⟨hx, hb, hml, hown, hts⟩ (K331_X0_copyFrom l G cy H.size a_12 a_1 i_0 i_1 i_2 i_3 i_4 i_5 i_6 i_7 a_2 a_3 a_4 a_5 a_6 a_7 a_8 a_9 a_10 a_11 f_0 f_1 f_2 f_3 f_4 f_5 f_6 f_7 f_8 f_9 i_8 i_9 i_10 i_11 i_12 i_13 i_14 i_15 a_14 a_15 a_16 a_17 a_18 a_19 a_20 a_21 a_22 a_23 f_10 f_11 f_12 f_13 f_14 f_15 f_16 f_17 f_18 f_19 h0 h1 h2 h3 h4 h5 h6 h7 h8 h9 h10 h11 h12 h13 h14 h15 h16 h17 h18 h19 h20 h21 h22 h23 h24 h25 h26 h27 h28 h29 h30 h31 h32 h33 h46 h47) (cwV 1 hts (mm_gV mm_w377 mm_w378 mm_w379 mm_w28 mm_w380) rfl rfl rfl hd_X0_copyFrom ⟨by rw [hRf]; exact Nat.le_of_ble_eq_true rfl, by rw [hRl]; exact Nat.le_of_ble_eq_true rfl⟩) (mm_preV hK hZ hS hA hP hD [0, 1, 2, 3, 4, 5, 6, 7, 8, 9, 10, 12, 13, 14, 15, 16, 17, 18, 19, 20, 21, 22] rfl rfl 12 rfl rfl rfl) rfl rfl hl.1 rfl (lv_room (Nat.le_of_ble_eq_true rfl)) dX10_turnTo_5 ⟨by rw [hRc]; exact Nat.le_of_ble_eq_true rfl, by rw [hRs]; exact Nat.le_of_ble_eq_true rfl⟩) hP hD hS hA (fun u : Unit => [(a_1, .inr (0, [.int i_0, .int i_1, .int i_2, .int i_3, .int i_4, .int i_5, .int i_6, .int i_7, .ref a_2, .ref a_3, .ref a_4, .ref a_5, .ref a_6, .ref a_7, .ref a_8, .ref a_9, .ref a_10, .ref a_11])), (a_2, .inl (cy 1, 9, .inl f_0)), (a_3, .inl (cy 1, 9, .inl f_1)), (a_4, .inl (cy 1, 3, .inl f_2)), (a_5, .inl (cy 1, 210, .inl f_3)), (a_6, .inl (cy 1, 6, .inl f_4)), (a_7, .inl (cy 1, 48, .inl f_5)), (a_8, .inl (cy 1, 30, .inl f_6)), (a_9, .inl (cy 1, 30, .inl f_7)), (a_10, .inl (cy 1, 30, .inl f_8)), (a_11, .inl (cy 1, 30, .inl f_9)), (a_0, .inr (10, [.ref a_12, .ref a_13])), (a_12, .inr (0, [.int i_0, .int i_1, .int i_2, .int i_3, .int i_4, .int i_5, .int i_6, .int i_7, .ref a_14, .ref a_15, .ref a_16, .ref a_17, .ref a_18, .ref a_19, .ref a_20, .ref a_21, .ref a_22, .ref a_23])), (a_14, .inl (cy 1, 9, .inl f_0)), (a_15, .inl (cy 1, 9, .inl f_1)), (a_16, .inl (cy 1, 3, .inl f_2)), (a_17, .inl (cy 1, 210, .inl f_3)), (a_18, .inl (cy 1, 6, .inl f_4)), (a_19, .inl (cy 1, 48, .inl f_5)), (a_20, .inl (cy 1, 30, .inl f_6)), (a_21, .inl (cy 1, 30, .inl f_7)), (a_22, .inl (cy 1, 30, .inl f_8)), (a_23, .inl (cy 1, 30, .inl f_9)), (a_13, .inl (cy 5, 3, .inr (.inr (.inr (.inr (va_up (va_up (va_up (fun _ => none) 0 (some a_24)) 1 (some a_25)) 2 (some a_26))))))), (a_24, .inr (1, [.ref a_27, .ref a_28, .int i_16, .int i_17, .int i_18])), (a_27, .inl (cy 1, 2100, .inl f_20)), (a_28, .inl (cy 1, 10, .inl f_21)), (a_25, .inr (1, [.ref a_29, .ref a_30, .int i_19, .int i_20, .int i_21])), (a_29, .inl (cy 1, 2100, .inl f_22)), (a_30, .inl (cy 1, 10, .inl f_23)), (a_26, .inr (1, [.ref a_31, .ref a_32, .int i_22, .int i_23, .int i_24])), (a_31, .inl (cy 1, 2100, .inl f_24)), (a_32, .inl (cy 1, 10, .inl f_25))]) [0, 1, 2, 3, 4, 5, 6, 7, 8, 9, 10, 12, 13, 14, 15, 16, 17, 18, 19, 20, 21, 22] [11, 23, 24, 25, 26, 27, 28, 29, 30, 31, 32] (n := 33) (fun _ => rfl) (by decide +kernel) (by decide +kernel) rfl (fun _ => rfl) (wr := [(a_0, .inr (10, [.ref a_12, .ref a_13])), (a_13, .inl (cy 5, 3, .inr (.inr (.inr (.inr (va_up (va_up (va_up (fun _ => none) 0 (some a_24)) 1 (some a_25)) 2 (some a_26))))))), (a_24, .inr (1, [.ref a_27, .ref a_28, .int i_16, .int i_17, .int i_18])), (a_27, .inl (cy 1, 2100, .inl f_20)), (a_28, .inl (cy 1, 10, .inl f_21)), (a_25, .inr (1, [.ref a_29, .ref a_30, .int i_19, .int i_20, .int i_21])), (a_29, .inl (cy 1, 2100, .inl f_22)), (a_30, .inl (cy 1, 10, .inl f_23)), (a_26, .inr (1, [.ref a_31, .ref a_32, .int i_22, .int i_23, .int i_24])), (a_31, .inl (cy 1, 2100, .inl f_24)), (a_32, .inl (cy 1, 10, .inl f_25))]) rfl (fun _ => rfl) (fun _ => rfl) ?_
  clear hP hD hS
  clear H locs
  intro _u H locs hw (hP : va_P G vwCl [(a_1, .inr (0, [.int i_0, .int i_1, .int i_2, .int i_3, .int i_4, .int i_5, .int i_6, .int i_7, .ref a_2, .ref a_3, .ref a_4, .ref a_5, .ref a_6, .ref a_7, .ref a_8, .ref a_9, .ref a_10, .ref a_11])), (a_2, .inl (cy 1, 9, .inl f_0)), (a_3, .inl (cy 1, 9, .inl f_1)), (a_4, .inl (cy 1, 3, .inl f_2)), (a_5, .inl (cy 1, 210, .inl f_3)), (a_6, .inl (cy 1, 6, .inl f_4)), (a_7, .inl (cy 1, 48, .inl f_5)), (a_8, .inl (cy 1, 30, .inl f_6)), (a_9, .inl (cy 1, 30, .inl f_7)), (a_10, .inl (cy 1, 30, .inl f_8)), (a_11, .inl (cy 1, 30, .inl f_9)), (a_0, .inr (10, [.ref a_12, .ref a_13])), (a_12, .inr (0, [.int i_0, .int i_1, .int i_2, .int i_3, .int i_4, .int i_5, .int i_6, .int i_7, .ref a_14, .ref a_15, .ref a_16, .ref a_17, .ref a_18, .ref a_19, .ref a_20, .ref a_21, .ref a_22, .ref a_23])), (a_14, .inl (cy 1, 9, .inl f_0)), (a_15, .inl (cy 1, 9, .inl f_1)), (a_16, .inl (cy 1, 3, .inl f_2)), (a_17, .inl (cy 1, 210, .inl f_3)), (a_18, .inl (cy 1, 6, .inl f_4)), (a_19, .inl (cy 1, 48, .inl f_5)), (a_20, .inl (cy 1, 30, .inl f_6)), (a_21, .inl (cy 1, 30, .inl f_7)), (a_22, .inl (cy 1, 30, .inl f_8)), (a_23, .inl (cy 1, 30, .inl f_9)), (a_13, .inl (cy 5, 3, .inr (.inr (.inr (.inr (va_up (va_up (va_up (fun _ => none) 0 (some a_24)) 1 (some a_25)) 2 (some a_26))))))), (a_24, .inr (1, [.ref a_27, .ref a_28, .int i_16, .int i_17, .int i_18])), (a_27, .inl (cy 1, 2100, .inl f_20)), (a_28, .inl (cy 1, 10, .inl f_21)), (a_25, .inr (1, [.ref a_29, .ref a_30, .int i_19, .int i_20, .int i_21])), (a_29, .inl (cy 1, 2100, .inl f_22)), (a_30, .inl (cy 1, 10, .inl f_23)), (a_26, .inr (1, [.ref a_31, .ref a_32, .int i_22, .int i_23, .int i_24])), (a_31, .inl (cy 1, 2100, .inl f_24)), (a_32, .inl (cy 1, 10, .inl f_25))] H) (hD : va_D A [(a_1, .inr (0, [.int i_0, .int i_1, .int i_2, .int i_3, .int i_4, .int i_5, .int i_6, .int i_7, .ref a_2, .ref a_3, .ref a_4, .ref a_5, .ref a_6, .ref a_7, .ref a_8, .ref a_9, .ref a_10, .ref a_11])), (a_2, .inl (cy 1, 9, .inl f_0)), (a_3, .inl (cy 1, 9, .inl f_1)), (a_4, .inl (cy 1, 3, .inl f_2)), (a_5, .inl (cy 1, 210, .inl f_3)), (a_6, .inl (cy 1, 6, .inl f_4)), (a_7, .inl (cy 1, 48, .inl f_5)), (a_8, .inl (cy 1, 30, .inl f_6)), (a_9, .inl (cy 1, 30, .inl f_7)), (a_10, .inl (cy 1, 30, .inl f_8)), (a_11, .inl (cy 1, 30, .inl f_9)), (a_0, .inr (10, [.ref a_12, .ref a_13])), (a_12, .inr (0, [.int i_0, .int i_1, .int i_2, .int i_3, .int i_4, .int i_5, .int i_6, .int i_7, .ref a_14, .ref a_15, .ref a_16, .ref a_17, .ref a_18, .ref a_19, .ref a_20, .ref a_21, .ref a_22, .ref a_23])), (a_14, .inl (cy 1, 9, .inl f_0)), (a_15, .inl (cy 1, 9, .inl f_1)), (a_16, .inl (cy 1, 3, .inl f_2)), (a_17, .inl (cy 1, 210, .inl f_3)), (a_18, .inl (cy 1, 6, .inl f_4)), (a_19, .inl (cy 1, 48, .inl f_5)), (a_20, .inl (cy 1, 30, .inl f_6)), (a_21, .inl (cy 1, 30, .inl f_7)), (a_22, .inl (cy 1, 30, .inl f_8)), (a_23, .inl (cy 1, 30, .inl f_9)), (a_13, .inl (cy 5, 3, .inr (.inr (.inr (.inr (va_up (va_up (va_up (fun _ => none) 0 (some a_24)) 1 (some a_25)) 2 (some a_26))))))), (a_24, .inr (1, [.ref a_27, .ref a_28, .int i_16, .int i_17, .int i_18])), (a_27, .inl (cy 1, 2100, .inl f_20)), (a_28, .inl (cy 1, 10, .inl f_21)), (a_25, .inr (1, [.ref a_29, .ref a_30, .int i_19, .int i_20, .int i_21])), (a_29, .inl (cy 1, 2100, .inl f_22)), (a_30, .inl (cy 1, 10, .inl f_23)), (a_26, .inr (1, [.ref a_31, .ref a_32, .int i_22, .int i_23, .int i_24])), (a_31, .inl (cy 1, 2100, .inl f_24)), (a_32, .inl (cy 1, 10, .inl f_25))]) hS
  refine lv_iconst (v := 0) hx hb dX10_turnTo_8 (by decide) ?_
  refine lv_istore_n (lv' := [(2, .int 0), (0, .ref a_0), (1, .ref a_1)]) hx hb dX10_turnTo_9 rfl hl (by decide) rfl ?_
  clear hl
  clear ls
  intro ls hl
  have L10_177 : ∀ (n : Nat) (x10_2_162 : Int32) (y10_24_2_163 : Int32) (y10_24_3_164 : Int32) (y10_24_4_165 : Int32) (y10_27_2_166 : Int32) (y10_27_3_167 : Int32) (y10_27_4_168 : Int32) (y10_30_2_169 : Int32) (y10_30_3_170 : Int32) (y10_30_4_171 : Int32) (z10_25_172 : Nat → Int32) (z10_26_173 : Nat → Int32) (z10_28_174 : Nat → Int32) (z10_29_175 : Nat → Int32) (z10_31_176 : Nat → Int32) (z10_32_177 : Nat → Int32), mm_rg x10_2_162 0 3 → mm_rg y10_24_2_163 1 10 → mm_rg y10_24_4_165 (-2147483648) 210 → mm_rg y10_27_2_166 1 10 → mm_rg y10_27_4_168 (-2147483648) 210 → mm_rg y10_30_2_169 1 10 → mm_rg y10_30_4_171 (-2147483648) 210 → mm_ar z10_25_172 0 9 → mm_ar z10_26_173 0 9 → mm_ar z10_28_174 0 9 → mm_ar z10_29_175 0 9 → mm_ar z10_31_176 0 9 → mm_ar z10_32_177 0 9 → (3 - x10_2_162.toInt).toNat < n → ∀ (H : Heap) (locs : List Loc), va_P G vwCl [(a_1, .inr (0, [.int i_0, .int i_1, .int i_2, .int i_3, .int i_4, .int i_5, .int i_6, .int i_7, .ref a_2, .ref a_3, .ref a_4, .ref a_5, .ref a_6, .ref a_7, .ref a_8, .ref a_9, .ref a_10, .ref a_11])), (a_2, .inl (cy 1, 9, .inl f_0)), (a_3, .inl (cy 1, 9, .inl f_1)), (a_4, .inl (cy 1, 3, .inl f_2)), (a_5, .inl (cy 1, 210, .inl f_3)), (a_6, .inl (cy 1, 6, .inl f_4)), (a_7, .inl (cy 1, 48, .inl f_5)), (a_8, .inl (cy 1, 30, .inl f_6)), (a_9, .inl (cy 1, 30, .inl f_7)), (a_10, .inl (cy 1, 30, .inl f_8)), (a_11, .inl (cy 1, 30, .inl f_9)), (a_0, .inr (10, [.ref a_12, .ref a_13])), (a_12, .inr (0, [.int i_0, .int i_1, .int i_2, .int i_3, .int i_4, .int i_5, .int i_6, .int i_7, .ref a_14, .ref a_15, .ref a_16, .ref a_17, .ref a_18, .ref a_19, .ref a_20, .ref a_21, .ref a_22, .ref a_23])), (a_14, .inl (cy 1, 9, .inl f_0)), (a_15, .inl (cy 1, 9, .inl f_1)), (a_16, .inl (cy 1, 3, .inl f_2)), (a_17, .inl (cy 1, 210, .inl f_3)), (a_18, .inl (cy 1, 6, .inl f_4)), (a_19, .inl (cy 1, 48, .inl f_5)), (a_20, .inl (cy 1, 30, .inl f_6)), (a_21, .inl (cy 1, 30, .inl f_7)), (a_22, .inl (cy 1, 30, .inl f_8)), (a_23, .inl (cy 1, 30, .inl f_9)), (a_13, .inl (cy 5, 3, .inr (.inr (.inr (.inr (va_up (va_up (va_up (fun _ => none) 0 (some a_24)) 1 (some a_25)) 2 (some a_26))))))), (a_24, .inr (1, [.ref a_27, .ref a_28, .int y10_24_2_163, .int y10_24_3_164, .int y10_24_4_165])), (a_27, .inl (cy 1, 2100, .inl z10_25_172)), (a_28, .inl (cy 1, 10, .inl z10_26_173)), (a_25, .inr (1, [.ref a_29, .ref a_30, .int y10_27_2_166, .int y10_27_3_167, .int y10_27_4_168])), (a_29, .inl (cy 1, 2100, .inl z10_28_174)), (a_30, .inl (cy 1, 10, .inl z10_29_175)), (a_26, .inr (1, [.ref a_31, .ref a_32, .int y10_30_2_169, .int y10_30_3_170, .int y10_30_4_171])), (a_31, .inl (cy 1, 2100, .inl z10_31_176)), (a_32, .inl (cy 1, 10, .inl z10_32_177))] H → va_D A [(a_1, .inr (0, [.int i_0, .int i_1, .int i_2, .int i_3, .int i_4, .int i_5, .int i_6, .int i_7, .ref a_2, .ref a_3, .ref a_4, .ref a_5, .ref a_6, .ref a_7, .ref a_8, .ref a_9, .ref a_10, .ref a_11])), (a_2, .inl (cy 1, 9, .inl f_0)), (a_3, .inl (cy 1, 9, .inl f_1)), (a_4, .inl (cy 1, 3, .inl f_2)), (a_5, .inl (cy 1, 210, .inl f_3)), (a_6, .inl (cy 1, 6, .inl f_4)), (a_7, .inl (cy 1, 48, .inl f_5)), (a_8, .inl (cy 1, 30, .inl f_6)), (a_9, .inl (cy 1, 30, .inl f_7)), (a_10, .inl (cy 1, 30, .inl f_8)), (a_11, .inl (cy 1, 30, .inl f_9)), (a_0, .inr (10, [.ref a_12, .ref a_13])), (a_12, .inr (0, [.int i_0, .int i_1, .int i_2, .int i_3, .int i_4, .int i_5, .int i_6, .int i_7, .ref a_14, .ref a_15, .ref a_16, .ref a_17, .ref a_18, .ref a_19, .ref a_20, .ref a_21, .ref a_22, .ref a_23])), (a_14, .inl (cy 1, 9, .inl f_0)), (a_15, .inl (cy 1, 9, .inl f_1)), (a_16, .inl (cy 1, 3, .inl f_2)), (a_17, .inl (cy 1, 210, .inl f_3)), (a_18, .inl (cy 1, 6, .inl f_4)), (a_19, .inl (cy 1, 48, .inl f_5)), (a_20, .inl (cy 1, 30, .inl f_6)), (a_21, .inl (cy 1, 30, .inl f_7)), (a_22, .inl (cy 1, 30, .inl f_8)), (a_23, .inl (cy 1, 30, .inl f_9)), (a_13, .inl (cy 5, 3, .inr (.inr (.inr (.inr (va_up (va_up (va_up (fun _ => none) 0 (some a_24)) 1 (some a_25)) 2 (some a_26))))))), (a_24, .inr (1, [.ref a_27, .ref a_28, .int y10_24_2_163, .int y10_24_3_164, .int y10_24_4_165])), (a_27, .inl (cy 1, 2100, .inl z10_25_172)), (a_28, .inl (cy 1, 10, .inl z10_26_173)), (a_25, .inr (1, [.ref a_29, .ref a_30, .int y10_27_2_166, .int y10_27_3_167, .int y10_27_4_168])), (a_29, .inl (cy 1, 2100, .inl z10_28_174)), (a_30, .inl (cy 1, 10, .inl z10_29_175)), (a_26, .inr (1, [.ref a_31, .ref a_32, .int y10_30_2_169, .int y10_30_3_170, .int y10_30_4_171])), (a_31, .inl (cy 1, 2100, .inl z10_31_176)), (a_32, .inl (cy 1, 10, .inl z10_32_177))] → va_S A s.heap H locs → ∀ (ls : Array Slot), lv_has ls 3 [(2, .int x10_2_162), (0, .ref a_0), (1, .ref a_1)] → W p l e R s m args below meth c H locs 0 0 Q (F0 m 10 ls []) := by
    intro n
    induction n with
    | zero => intro x10_2_162 y10_24_2_163 y10_24_3_164 y10_24_4_165 y10_27_2_166 y10_27_3_167 y10_27_4_168 y10_30_2_169 y10_30_3_170 y10_30_4_171 z10_25_172 z10_26_173 z10_28_174 z10_29_175 z10_31_176 z10_32_177 rx10_2_162 ry10_24_2_163 ry10_24_4_165 ry10_27_2_166 ry10_27_4_168 ry10_30_2_169 ry10_30_4_171 rz10_25_172 rz10_26_173 rz10_28_174 rz10_29_175 rz10_31_176 rz10_32_177 hm; exact absurd hm (Nat.not_lt_zero _)
    | succ n ih10 =>
      intro x10_2_162 y10_24_2_163 y10_24_3_164 y10_24_4_165 y10_27_2_166 y10_27_3_167 y10_27_4_168 y10_30_2_169 y10_30_3_170 y10_30_4_171 z10_25_172 z10_26_173 z10_28_174 z10_29_175 z10_31_176 z10_32_177 rx10_2_162 ry10_24_2_163 ry10_24_4_165 ry10_27_2_166 ry10_27_4_168 ry10_30_2_169 ry10_30_4_171 rz10_25_172 rz10_26_173 rz10_28_174 rz10_29_175 rz10_31_176 rz10_32_177 hm10 H locs hP hD hS ls hl
      refine lv_iload_n hx hb dX10_turnTo_10 rfl (lv_at hl 0 rfl) ?_
      refine lv_aload_n hx hb dX10_turnTo_11 rfl (lv_at hl 1 rfl) ?_
      refine va_get (D := G) (ci := 10) (v := .ref a_12) (C := RX10) (T := TX10) (N := 2) hx hb hts (mm_i inlX10) hown hK.1 hP 11 rfl rfl 0 (by decide) (mm_h hts mm_w87) (fun _ h9 => h9) rfl dX10_turnTo_12 ?_
      refine va_get (D := G) (ci := 0) (v := .int i_5) (C := RX0) (T := TX0) (N := 18) hx hb hts (mm_i inlX0) hown hK.1 hP 12 rfl rfl 5 (by decide) (mm_h hts mm_w376) (fun _ h9 => h9) rfl dX10_turnTo_15 ?_
      refine lv_icmp_ge (tgt := 41) hx hb dX10_turnTo_18 (by decide) (fun c179 => ?_) (fun c179 => ?_)
      · subst hAe
        rw [hQ]
        exact W.vret hx hb hr (fun t ht hW => ⟨⟨(y10_24_2_163, y10_24_3_164, y10_24_4_165, z10_25_172, z10_26_173, y10_27_2_166, y10_27_3_167, y10_27_4_168, z10_28_174, z10_29_175, y10_30_2_169, y10_30_3_170, y10_30_4_171, z10_31_176, z10_32_177), rfl, ⟨ry10_24_2_163, ry10_24_4_165, rz10_25_172, rz10_26_173, ry10_27_2_166, ry10_27_4_168, rz10_28_174, rz10_29_175, ry10_30_2_169, ry10_30_4_171, rz10_31_176, rz10_32_177⟩, by rw [ht]; exact hP, hK.warm hW, hD⟩, hS.F ht⟩) hS.2.2 dX10_turnTo_41
      · have q180 := mm_ltL (h := 2) (mm_nle c179) rx10_2_162 h4 (by decide)
        have q181 := mm_ltR (lo := 1) (mm_nle c179) rx10_2_162 h4 (by decide)
        refine lv_aload_n hx hb dX10_turnTo_21 rfl (lv_at hl 1 rfl) ?_
        refine va_get (D := G) (ci := 10) (v := .ref a_13) (C := RX10) (T := TX10) (N := 2) hx hb hts (mm_i inlX10) hown hK.1 hP 11 rfl rfl 1 (by decide) (mm_h hts mm_w89) (fun _ h9 => h9) rfl dX10_turnTo_22 ?_
        refine lv_iload_n hx hb dX10_turnTo_25 rfl (lv_at hl 0 rfl) ?_
        refine va_aldq hx hb hK.1 hP 23 5 rfl rfl (mm_in q180 (by decide)) dX10_turnTo_26 ?_
        have c182 := mm_cases3 q180
        rcases c182 with rfl | rfl | rfl
        · refine W.eq (g2 := F0 m 27 ls [.ref a_24]) rfl ?_
          refine lv_aload_n hx hb dX10_turnTo_27 rfl (lv_at hl 1 rfl) ?_
          refine va_get (D := G) (ci := 10) (v := .ref a_12) (C := RX10) (T := TX10) (N := 2) hx hb hts (mm_i inlX10) hown hK.1 hP 11 rfl rfl 0 (by decide) (mm_h hts mm_w87) (fun _ h9 => h9) rfl dX10_turnTo_28 ?_
          refine lv_iload_n hx hb dX10_turnTo_31 rfl (lv_at hl 0 rfl) ?_
          refine mm_finv (va_runV (As := [.ref a_12, .int 0]) (rest := []) ⟨hx, hb, hml, hown, hts⟩ (K340_X1_lay l G cy H.size a_24 a_12 0 i_0 i_1 i_2 i_3 i_4 i_5 i_6 i_7 a_14 a_15 a_16 a_17 a_18 a_19 a_20 a_21 a_22 a_23 f_2 f_3 a_27 a_28 y10_24_2_163 y10_24_3_164 y10_24_4_165 z10_25_172 z10_26_173 (mm_wk mm_k0 (by decide)) h3 h9 h10 ry10_24_2_163 ry10_24_4_165 rz10_25_172 rz10_26_173) (cwV 2 hts (mm_gV mm_w391 mm_w392 mm_w393 mm_w91 mm_w394) rfl rfl rfl hd_X1_lay ⟨by rw [hRf]; exact Nat.le_of_ble_eq_true rfl, by rw [hRl]; exact Nat.le_of_ble_eq_true rfl⟩) (mm_preV hK hZ hS hA hP hD [12, 15, 16, 24, 25, 26] rfl rfl 24 rfl rfl rfl) rfl rfl hl.1 rfl (lv_room (Nat.le_of_ble_eq_true rfl)) dX10_turnTo_32 ⟨by rw [hRc]; exact Nat.le_of_ble_eq_true rfl, by rw [hRs]; exact Nat.le_of_ble_eq_true rfl⟩) hP hD hS hA (fun u : Int32 × Int32 × Int32 × (Nat → Int32) × (Nat → Int32) => [(a_1, .inr (0, [.int i_0, .int i_1, .int i_2, .int i_3, .int i_4, .int i_5, .int i_6, .int i_7, .ref a_2, .ref a_3, .ref a_4, .ref a_5, .ref a_6, .ref a_7, .ref a_8, .ref a_9, .ref a_10, .ref a_11])), (a_2, .inl (cy 1, 9, .inl f_0)), (a_3, .inl (cy 1, 9, .inl f_1)), (a_4, .inl (cy 1, 3, .inl f_2)), (a_5, .inl (cy 1, 210, .inl f_3)), (a_6, .inl (cy 1, 6, .inl f_4)), (a_7, .inl (cy 1, 48, .inl f_5)), (a_8, .inl (cy 1, 30, .inl f_6)), (a_9, .inl (cy 1, 30, .inl f_7)), (a_10, .inl (cy 1, 30, .inl f_8)), (a_11, .inl (cy 1, 30, .inl f_9)), (a_0, .inr (10, [.ref a_12, .ref a_13])), (a_12, .inr (0, [.int i_0, .int i_1, .int i_2, .int i_3, .int i_4, .int i_5, .int i_6, .int i_7, .ref a_14, .ref a_15, .ref a_16, .ref a_17, .ref a_18, .ref a_19, .ref a_20, .ref a_21, .ref a_22, .ref a_23])), (a_14, .inl (cy 1, 9, .inl f_0)), (a_15, .inl (cy 1, 9, .inl f_1)), (a_16, .inl (cy 1, 3, .inl f_2)), (a_17, .inl (cy 1, 210, .inl f_3)), (a_18, .inl (cy 1, 6, .inl f_4)), (a_19, .inl (cy 1, 48, .inl f_5)), (a_20, .inl (cy 1, 30, .inl f_6)), (a_21, .inl (cy 1, 30, .inl f_7)), (a_22, .inl (cy 1, 30, .inl f_8)), (a_23, .inl (cy 1, 30, .inl f_9)), (a_13, .inl (cy 5, 3, .inr (.inr (.inr (.inr (va_up (va_up (va_up (fun _ => none) 0 (some a_24)) 1 (some a_25)) 2 (some a_26))))))), (a_24, .inr (1, [.ref a_27, .ref a_28, .int u.1, .int u.2.1, .int u.2.2.1])), (a_27, .inl (cy 1, 2100, .inl u.2.2.2.1)), (a_28, .inl (cy 1, 10, .inl u.2.2.2.2)), (a_25, .inr (1, [.ref a_29, .ref a_30, .int y10_27_2_166, .int y10_27_3_167, .int y10_27_4_168])), (a_29, .inl (cy 1, 2100, .inl z10_28_174)), (a_30, .inl (cy 1, 10, .inl z10_29_175)), (a_26, .inr (1, [.ref a_31, .ref a_32, .int y10_30_2_169, .int y10_30_3_170, .int y10_30_4_171])), (a_31, .inl (cy 1, 2100, .inl z10_31_176)), (a_32, .inl (cy 1, 10, .inl z10_32_177))]) [12, 15, 16, 24, 25, 26] [0, 1, 2, 3, 4, 5, 6, 7, 8, 9, 10, 11, 13, 14, 17, 18, 19, 20, 21, 22, 23, 27, 28, 29, 30, 31, 32] (n := 33) (fun _ => rfl) (by decide +kernel) (by decide +kernel) rfl (fun _ => rfl) (wr := [(a_1, .inr (0, [.int i_0, .int i_1, .int i_2, .int i_3, .int i_4, .int i_5, .int i_6, .int i_7, .ref a_2, .ref a_3, .ref a_4, .ref a_5, .ref a_6, .ref a_7, .ref a_8, .ref a_9, .ref a_10, .ref a_11])), (a_2, .inl (cy 1, 9, .inl f_0)), (a_3, .inl (cy 1, 9, .inl f_1)), (a_4, .inl (cy 1, 3, .inl f_2)), (a_5, .inl (cy 1, 210, .inl f_3)), (a_6, .inl (cy 1, 6, .inl f_4)), (a_7, .inl (cy 1, 48, .inl f_5)), (a_8, .inl (cy 1, 30, .inl f_6)), (a_9, .inl (cy 1, 30, .inl f_7)), (a_10, .inl (cy 1, 30, .inl f_8)), (a_11, .inl (cy 1, 30, .inl f_9)), (a_0, .inr (10, [.ref a_12, .ref a_13])), (a_14, .inl (cy 1, 9, .inl f_0)), (a_15, .inl (cy 1, 9, .inl f_1)), (a_18, .inl (cy 1, 6, .inl f_4)), (a_19, .inl (cy 1, 48, .inl f_5)), (a_20, .inl (cy 1, 30, .inl f_6)), (a_21, .inl (cy 1, 30, .inl f_7)), (a_22, .inl (cy 1, 30, .inl f_8)), (a_23, .inl (cy 1, 30, .inl f_9)), (a_13, .inl (cy 5, 3, .inr (.inr (.inr (.inr (va_up (va_up (va_up (fun _ => none) 0 (some a_24)) 1 (some a_25)) 2 (some a_26))))))), (a_25, .inr (1, [.ref a_29, .ref a_30, .int y10_27_2_166, .int y10_27_3_167, .int y10_27_4_168])), (a_29, .inl (cy 1, 2100, .inl z10_28_174)), (a_30, .inl (cy 1, 10, .inl z10_29_175)), (a_26, .inr (1, [.ref a_31, .ref a_32, .int y10_30_2_169, .int y10_30_3_170, .int y10_30_4_171])), (a_31, .inl (cy 1, 2100, .inl z10_31_176)), (a_32, .inl (cy 1, 10, .inl z10_32_177))]) rfl (fun _ => rfl) (fun _ => rfl) ?_
          clear hP hD hS
          clear H locs
          intro u
          obtain ⟨n183, n184, n185, n186, n187⟩ := u
          intro H locs hw (hP : va_P G vwCl [(a_1, .inr (0, [.int i_0, .int i_1, .int i_2, .int i_3, .int i_4, .int i_5, .int i_6, .int i_7, .ref a_2, .ref a_3, .ref a_4, .ref a_5, .ref a_6, .ref a_7, .ref a_8, .ref a_9, .ref a_10, .ref a_11])), (a_2, .inl (cy 1, 9, .inl f_0)), (a_3, .inl (cy 1, 9, .inl f_1)), (a_4, .inl (cy 1, 3, .inl f_2)), (a_5, .inl (cy 1, 210, .inl f_3)), (a_6, .inl (cy 1, 6, .inl f_4)), (a_7, .inl (cy 1, 48, .inl f_5)), (a_8, .inl (cy 1, 30, .inl f_6)), (a_9, .inl (cy 1, 30, .inl f_7)), (a_10, .inl (cy 1, 30, .inl f_8)), (a_11, .inl (cy 1, 30, .inl f_9)), (a_0, .inr (10, [.ref a_12, .ref a_13])), (a_12, .inr (0, [.int i_0, .int i_1, .int i_2, .int i_3, .int i_4, .int i_5, .int i_6, .int i_7, .ref a_14, .ref a_15, .ref a_16, .ref a_17, .ref a_18, .ref a_19, .ref a_20, .ref a_21, .ref a_22, .ref a_23])), (a_14, .inl (cy 1, 9, .inl f_0)), (a_15, .inl (cy 1, 9, .inl f_1)), (a_16, .inl (cy 1, 3, .inl f_2)), (a_17, .inl (cy 1, 210, .inl f_3)), (a_18, .inl (cy 1, 6, .inl f_4)), (a_19, .inl (cy 1, 48, .inl f_5)), (a_20, .inl (cy 1, 30, .inl f_6)), (a_21, .inl (cy 1, 30, .inl f_7)), (a_22, .inl (cy 1, 30, .inl f_8)), (a_23, .inl (cy 1, 30, .inl f_9)), (a_13, .inl (cy 5, 3, .inr (.inr (.inr (.inr (va_up (va_up (va_up (fun _ => none) 0 (some a_24)) 1 (some a_25)) 2 (some a_26))))))), (a_24, .inr (1, [.ref a_27, .ref a_28, .int n183, .int n184, .int n185])), (a_27, .inl (cy 1, 2100, .inl n186)), (a_28, .inl (cy 1, 10, .inl n187)), (a_25, .inr (1, [.ref a_29, .ref a_30, .int y10_27_2_166, .int y10_27_3_167, .int y10_27_4_168])), (a_29, .inl (cy 1, 2100, .inl z10_28_174)), (a_30, .inl (cy 1, 10, .inl z10_29_175)), (a_26, .inr (1, [.ref a_31, .ref a_32, .int y10_30_2_169, .int y10_30_3_170, .int y10_30_4_171])), (a_31, .inl (cy 1, 2100, .inl z10_31_176)), (a_32, .inl (cy 1, 10, .inl z10_32_177))] H) (hD : va_D A [(a_1, .inr (0, [.int i_0, .int i_1, .int i_2, .int i_3, .int i_4, .int i_5, .int i_6, .int i_7, .ref a_2, .ref a_3, .ref a_4, .ref a_5, .ref a_6, .ref a_7, .ref a_8, .ref a_9, .ref a_10, .ref a_11])), (a_2, .inl (cy 1, 9, .inl f_0)), (a_3, .inl (cy 1, 9, .inl f_1)), (a_4, .inl (cy 1, 3, .inl f_2)), (a_5, .inl (cy 1, 210, .inl f_3)), (a_6, .inl (cy 1, 6, .inl f_4)), (a_7, .inl (cy 1, 48, .inl f_5)), (a_8, .inl (cy 1, 30, .inl f_6)), (a_9, .inl (cy 1, 30, .inl f_7)), (a_10, .inl (cy 1, 30, .inl f_8)), (a_11, .inl (cy 1, 30, .inl f_9)), (a_0, .inr (10, [.ref a_12, .ref a_13])), (a_12, .inr (0, [.int i_0, .int i_1, .int i_2, .int i_3, .int i_4, .int i_5, .int i_6, .int i_7, .ref a_14, .ref a_15, .ref a_16, .ref a_17, .ref a_18, .ref a_19, .ref a_20, .ref a_21, .ref a_22, .ref a_23])), (a_14, .inl (cy 1, 9, .inl f_0)), (a_15, .inl (cy 1, 9, .inl f_1)), (a_16, .inl (cy 1, 3, .inl f_2)), (a_17, .inl (cy 1, 210, .inl f_3)), (a_18, .inl (cy 1, 6, .inl f_4)), (a_19, .inl (cy 1, 48, .inl f_5)), (a_20, .inl (cy 1, 30, .inl f_6)), (a_21, .inl (cy 1, 30, .inl f_7)), (a_22, .inl (cy 1, 30, .inl f_8)), (a_23, .inl (cy 1, 30, .inl f_9)), (a_13, .inl (cy 5, 3, .inr (.inr (.inr (.inr (va_up (va_up (va_up (fun _ => none) 0 (some a_24)) 1 (some a_25)) 2 (some a_26))))))), (a_24, .inr (1, [.ref a_27, .ref a_28, .int n183, .int n184, .int n185])), (a_27, .inl (cy 1, 2100, .inl n186)), (a_28, .inl (cy 1, 10, .inl n187)), (a_25, .inr (1, [.ref a_29, .ref a_30, .int y10_27_2_166, .int y10_27_3_167, .int y10_27_4_168])), (a_29, .inl (cy 1, 2100, .inl z10_28_174)), (a_30, .inl (cy 1, 10, .inl z10_29_175)), (a_26, .inr (1, [.ref a_31, .ref a_32, .int y10_30_2_169, .int y10_30_3_170, .int y10_30_4_171])), (a_31, .inl (cy 1, 2100, .inl z10_31_176)), (a_32, .inl (cy 1, 10, .inl z10_32_177))]) hS
          obtain ⟨w188, w189, w190, w191⟩ := hw
          refine lv_iinc (v := 1) (lv' := [(2, .int 1), (0, .ref a_0), (1, .ref a_1)]) hx hb dX10_turnTo_35 hl (k := 0) rfl (by decide) (by decide) rfl ?_
          clear hl
          clear ls
          intro ls hl
          refine lv_goto (tgt := 10) hx hb dX10_turnTo_38 (by decide) ?_
          exact ih10 1 n183 n184 n185 y10_27_2_166 y10_27_3_167 y10_27_4_168 y10_30_2_169 y10_30_3_170 y10_30_4_171 n186 n187 z10_28_174 z10_29_175 z10_31_176 z10_32_177 (mm_wk mm_k1 (by decide)) w188 w189 ry10_27_2_166 ry10_27_4_168 ry10_30_2_169 ry10_30_4_171 w190 w191 rz10_28_174 rz10_29_175 rz10_31_176 rz10_32_177 (mm_muL hm10 (by decide)) H locs hP hD hS ls (lv_sub hl [0, 1, 2] rfl)
        · refine W.eq (g2 := F0 m 27 ls [.ref a_25]) rfl ?_
          refine lv_aload_n hx hb dX10_turnTo_27 rfl (lv_at hl 1 rfl) ?_
          refine va_get (D := G) (ci := 10) (v := .ref a_12) (C := RX10) (T := TX10) (N := 2) hx hb hts (mm_i inlX10) hown hK.1 hP 11 rfl rfl 0 (by decide) (mm_h hts mm_w87) (fun _ h9 => h9) rfl dX10_turnTo_28 ?_
          refine lv_iload_n hx hb dX10_turnTo_31 rfl (lv_at hl 0 rfl) ?_
          refine mm_finv (va_runV (As := [.ref a_12, .int 1]) (rest := []) ⟨hx, hb, hml, hown, hts⟩ (K340_X1_lay l G cy H.size a_25 a_12 1 i_0 i_1 i_2 i_3 i_4 i_5 i_6 i_7 a_14 a_15 a_16 a_17 a_18 a_19 a_20 a_21 a_22 a_23 f_2 f_3 a_29 a_30 y10_27_2_166 y10_27_3_167 y10_27_4_168 z10_28_174 z10_29_175 (mm_wk mm_k1 (by decide)) h3 h9 h10 ry10_27_2_166 ry10_27_4_168 rz10_28_174 rz10_29_175) (cwV 2 hts (mm_gV mm_w391 mm_w392 mm_w393 mm_w91 mm_w394) rfl rfl rfl hd_X1_lay ⟨by rw [hRf]; exact Nat.le_of_ble_eq_true rfl, by rw [hRl]; exact Nat.le_of_ble_eq_true rfl⟩) (mm_preV hK hZ hS hA hP hD [12, 15, 16, 27, 28, 29] rfl rfl 27 rfl rfl rfl) rfl rfl hl.1 rfl (lv_room (Nat.le_of_ble_eq_true rfl)) dX10_turnTo_32 ⟨by rw [hRc]; exact Nat.le_of_ble_eq_true rfl, by rw [hRs]; exact Nat.le_of_ble_eq_true rfl⟩) hP hD hS hA (fun u : Int32 × Int32 × Int32 × (Nat → Int32) × (Nat → Int32) => [(a_1, .inr (0, [.int i_0, .int i_1, .int i_2, .int i_3, .int i_4, .int i_5, .int i_6, .int i_7, .ref a_2, .ref a_3, .ref a_4, .ref a_5, .ref a_6, .ref a_7, .ref a_8, .ref a_9, .ref a_10, .ref a_11])), (a_2, .inl (cy 1, 9, .inl f_0)), (a_3, .inl (cy 1, 9, .inl f_1)), (a_4, .inl (cy 1, 3, .inl f_2)), (a_5, .inl (cy 1, 210, .inl f_3)), (a_6, .inl (cy 1, 6, .inl f_4)), (a_7, .inl (cy 1, 48, .inl f_5)), (a_8, .inl (cy 1, 30, .inl f_6)), (a_9, .inl (cy 1, 30, .inl f_7)), (a_10, .inl (cy 1, 30, .inl f_8)), (a_11, .inl (cy 1, 30, .inl f_9)), (a_0, .inr (10, [.ref a_12, .ref a_13])), (a_12, .inr (0, [.int i_0, .int i_1, .int i_2, .int i_3, .int i_4, .int i_5, .int i_6, .int i_7, .ref a_14, .ref a_15, .ref a_16, .ref a_17, .ref a_18, .ref a_19, .ref a_20, .ref a_21, .ref a_22, .ref a_23])), (a_14, .inl (cy 1, 9, .inl f_0)), (a_15, .inl (cy 1, 9, .inl f_1)), (a_16, .inl (cy 1, 3, .inl f_2)), (a_17, .inl (cy 1, 210, .inl f_3)), (a_18, .inl (cy 1, 6, .inl f_4)), (a_19, .inl (cy 1, 48, .inl f_5)), (a_20, .inl (cy 1, 30, .inl f_6)), (a_21, .inl (cy 1, 30, .inl f_7)), (a_22, .inl (cy 1, 30, .inl f_8)), (a_23, .inl (cy 1, 30, .inl f_9)), (a_13, .inl (cy 5, 3, .inr (.inr (.inr (.inr (va_up (va_up (va_up (fun _ => none) 0 (some a_24)) 1 (some a_25)) 2 (some a_26))))))), (a_24, .inr (1, [.ref a_27, .ref a_28, .int y10_24_2_163, .int y10_24_3_164, .int y10_24_4_165])), (a_27, .inl (cy 1, 2100, .inl z10_25_172)), (a_28, .inl (cy 1, 10, .inl z10_26_173)), (a_25, .inr (1, [.ref a_29, .ref a_30, .int u.1, .int u.2.1, .int u.2.2.1])), (a_29, .inl (cy 1, 2100, .inl u.2.2.2.1)), (a_30, .inl (cy 1, 10, .inl u.2.2.2.2)), (a_26, .inr (1, [.ref a_31, .ref a_32, .int y10_30_2_169, .int y10_30_3_170, .int y10_30_4_171])), (a_31, .inl (cy 1, 2100, .inl z10_31_176)), (a_32, .inl (cy 1, 10, .inl z10_32_177))]) [12, 15, 16, 27, 28, 29] [0, 1, 2, 3, 4, 5, 6, 7, 8, 9, 10, 11, 13, 14, 17, 18, 19, 20, 21, 22, 23, 24, 25, 26, 30, 31, 32] (n := 33) (fun _ => rfl) (by decide +kernel) (by decide +kernel) rfl (fun _ => rfl) (wr := [(a_1, .inr (0, [.int i_0, .int i_1, .int i_2, .int i_3, .int i_4, .int i_5, .int i_6, .int i_7, .ref a_2, .ref a_3, .ref a_4, .ref a_5, .ref a_6, .ref a_7, .ref a_8, .ref a_9, .ref a_10, .ref a_11])), (a_2, .inl (cy 1, 9, .inl f_0)), (a_3, .inl (cy 1, 9, .inl f_1)), (a_4, .inl (cy 1, 3, .inl f_2)), (a_5, .inl (cy 1, 210, .inl f_3)), (a_6, .inl (cy 1, 6, .inl f_4)), (a_7, .inl (cy 1, 48, .inl f_5)), (a_8, .inl (cy 1, 30, .inl f_6)), (a_9, .inl (cy 1, 30, .inl f_7)), (a_10, .inl (cy 1, 30, .inl f_8)), (a_11, .inl (cy 1, 30, .inl f_9)), (a_0, .inr (10, [.ref a_12, .ref a_13])), (a_14, .inl (cy 1, 9, .inl f_0)), (a_15, .inl (cy 1, 9, .inl f_1)), (a_18, .inl (cy 1, 6, .inl f_4)), (a_19, .inl (cy 1, 48, .inl f_5)), (a_20, .inl (cy 1, 30, .inl f_6)), (a_21, .inl (cy 1, 30, .inl f_7)), (a_22, .inl (cy 1, 30, .inl f_8)), (a_23, .inl (cy 1, 30, .inl f_9)), (a_13, .inl (cy 5, 3, .inr (.inr (.inr (.inr (va_up (va_up (va_up (fun _ => none) 0 (some a_24)) 1 (some a_25)) 2 (some a_26))))))), (a_24, .inr (1, [.ref a_27, .ref a_28, .int y10_24_2_163, .int y10_24_3_164, .int y10_24_4_165])), (a_27, .inl (cy 1, 2100, .inl z10_25_172)), (a_28, .inl (cy 1, 10, .inl z10_26_173)), (a_26, .inr (1, [.ref a_31, .ref a_32, .int y10_30_2_169, .int y10_30_3_170, .int y10_30_4_171])), (a_31, .inl (cy 1, 2100, .inl z10_31_176)), (a_32, .inl (cy 1, 10, .inl z10_32_177))]) rfl (fun _ => rfl) (fun _ => rfl) ?_
          clear hP hD hS
          clear H locs
          intro u
          obtain ⟨n192, n193, n194, n195, n196⟩ := u
          intro H locs hw (hP : va_P G vwCl [(a_1, .inr (0, [.int i_0, .int i_1, .int i_2, .int i_3, .int i_4, .int i_5, .int i_6, .int i_7, .ref a_2, .ref a_3, .ref a_4, .ref a_5, .ref a_6, .ref a_7, .ref a_8, .ref a_9, .ref a_10, .ref a_11])), (a_2, .inl (cy 1, 9, .inl f_0)), (a_3, .inl (cy 1, 9, .inl f_1)), (a_4, .inl (cy 1, 3, .inl f_2)), (a_5, .inl (cy 1, 210, .inl f_3)), (a_6, .inl (cy 1, 6, .inl f_4)), (a_7, .inl (cy 1, 48, .inl f_5)), (a_8, .inl (cy 1, 30, .inl f_6)), (a_9, .inl (cy 1, 30, .inl f_7)), (a_10, .inl (cy 1, 30, .inl f_8)), (a_11, .inl (cy 1, 30, .inl f_9)), (a_0, .inr (10, [.ref a_12, .ref a_13])), (a_12, .inr (0, [.int i_0, .int i_1, .int i_2, .int i_3, .int i_4, .int i_5, .int i_6, .int i_7, .ref a_14, .ref a_15, .ref a_16, .ref a_17, .ref a_18, .ref a_19, .ref a_20, .ref a_21, .ref a_22, .ref a_23])), (a_14, .inl (cy 1, 9, .inl f_0)), (a_15, .inl (cy 1, 9, .inl f_1)), (a_16, .inl (cy 1, 3, .inl f_2)), (a_17, .inl (cy 1, 210, .inl f_3)), (a_18, .inl (cy 1, 6, .inl f_4)), (a_19, .inl (cy 1, 48, .inl f_5)), (a_20, .inl (cy 1, 30, .inl f_6)), (a_21, .inl (cy 1, 30, .inl f_7)), (a_22, .inl (cy 1, 30, .inl f_8)), (a_23, .inl (cy 1, 30, .inl f_9)), (a_13, .inl (cy 5, 3, .inr (.inr (.inr (.inr (va_up (va_up (va_up (fun _ => none) 0 (some a_24)) 1 (some a_25)) 2 (some a_26))))))), (a_24, .inr (1, [.ref a_27, .ref a_28, .int y10_24_2_163, .int y10_24_3_164, .int y10_24_4_165])), (a_27, .inl (cy 1, 2100, .inl z10_25_172)), (a_28, .inl (cy 1, 10, .inl z10_26_173)), (a_25, .inr (1, [.ref a_29, .ref a_30, .int n192, .int n193, .int n194])), (a_29, .inl (cy 1, 2100, .inl n195)), (a_30, .inl (cy 1, 10, .inl n196)), (a_26, .inr (1, [.ref a_31, .ref a_32, .int y10_30_2_169, .int y10_30_3_170, .int y10_30_4_171])), (a_31, .inl (cy 1, 2100, .inl z10_31_176)), (a_32, .inl (cy 1, 10, .inl z10_32_177))] H) (hD : va_D A [(a_1, .inr (0, [.int i_0, .int i_1, .int i_2, .int i_3, .int i_4, .int i_5, .int i_6, .int i_7, .ref a_2, .ref a_3, .ref a_4, .ref a_5, .ref a_6, .ref a_7, .ref a_8, .ref a_9, .ref a_10, .ref a_11])), (a_2, .inl (cy 1, 9, .inl f_0)), (a_3, .inl (cy 1, 9, .inl f_1)), (a_4, .inl (cy 1, 3, .inl f_2)), (a_5, .inl (cy 1, 210, .inl f_3)), (a_6, .inl (cy 1, 6, .inl f_4)), (a_7, .inl (cy 1, 48, .inl f_5)), (a_8, .inl (cy 1, 30, .inl f_6)), (a_9, .inl (cy 1, 30, .inl f_7)), (a_10, .inl (cy 1, 30, .inl f_8)), (a_11, .inl (cy 1, 30, .inl f_9)), (a_0, .inr (10, [.ref a_12, .ref a_13])), (a_12, .inr (0, [.int i_0, .int i_1, .int i_2, .int i_3, .int i_4, .int i_5, .int i_6, .int i_7, .ref a_14, .ref a_15, .ref a_16, .ref a_17, .ref a_18, .ref a_19, .ref a_20, .ref a_21, .ref a_22, .ref a_23])), (a_14, .inl (cy 1, 9, .inl f_0)), (a_15, .inl (cy 1, 9, .inl f_1)), (a_16, .inl (cy 1, 3, .inl f_2)), (a_17, .inl (cy 1, 210, .inl f_3)), (a_18, .inl (cy 1, 6, .inl f_4)), (a_19, .inl (cy 1, 48, .inl f_5)), (a_20, .inl (cy 1, 30, .inl f_6)), (a_21, .inl (cy 1, 30, .inl f_7)), (a_22, .inl (cy 1, 30, .inl f_8)), (a_23, .inl (cy 1, 30, .inl f_9)), (a_13, .inl (cy 5, 3, .inr (.inr (.inr (.inr (va_up (va_up (va_up (fun _ => none) 0 (some a_24)) 1 (some a_25)) 2 (some a_26))))))), (a_24, .inr (1, [.ref a_27, .ref a_28, .int y10_24_2_163, .int y10_24_3_164, .int y10_24_4_165])), (a_27, .inl (cy 1, 2100, .inl z10_25_172)), (a_28, .inl (cy 1, 10, .inl z10_26_173)), (a_25, .inr (1, [.ref a_29, .ref a_30, .int n192, .int n193, .int n194])), (a_29, .inl (cy 1, 2100, .inl n195)), (a_30, .inl (cy 1, 10, .inl n196)), (a_26, .inr (1, [.ref a_31, .ref a_32, .int y10_30_2_169, .int y10_30_3_170, .int y10_30_4_171])), (a_31, .inl (cy 1, 2100, .inl z10_31_176)), (a_32, .inl (cy 1, 10, .inl z10_32_177))]) hS
          obtain ⟨w197, w198, w199, w200⟩ := hw
          refine lv_iinc (v := 2) (lv' := [(2, .int 2), (0, .ref a_0), (1, .ref a_1)]) hx hb dX10_turnTo_35 hl (k := 0) rfl (by decide) (by decide) rfl ?_
          clear hl
          clear ls
          intro ls hl
          refine lv_goto (tgt := 10) hx hb dX10_turnTo_38 (by decide) ?_
          exact ih10 2 y10_24_2_163 y10_24_3_164 y10_24_4_165 n192 n193 n194 y10_30_2_169 y10_30_3_170 y10_30_4_171 z10_25_172 z10_26_173 n195 n196 z10_31_176 z10_32_177 (mm_wk mm_k2 (by decide)) ry10_24_2_163 ry10_24_4_165 w197 w198 ry10_30_2_169 ry10_30_4_171 rz10_25_172 rz10_26_173 w199 w200 rz10_31_176 rz10_32_177 (mm_muL hm10 (by decide)) H locs hP hD hS ls (lv_sub hl [0, 1, 2] rfl)
        · refine W.eq (g2 := F0 m 27 ls [.ref a_26]) rfl ?_
          refine lv_aload_n hx hb dX10_turnTo_27 rfl (lv_at hl 1 rfl) ?_
          refine va_get (D := G) (ci := 10) (v := .ref a_12) (C := RX10) (T := TX10) (N := 2) hx hb hts (mm_i inlX10) hown hK.1 hP 11 rfl rfl 0 (by decide) (mm_h hts mm_w87) (fun _ h9 => h9) rfl dX10_turnTo_28 ?_
          refine lv_iload_n hx hb dX10_turnTo_31 rfl (lv_at hl 0 rfl) ?_
          refine mm_finv (va_runV (As := [.ref a_12, .int 2]) (rest := []) ⟨hx, hb, hml, hown, hts⟩ (K340_X1_lay l G cy H.size a_26 a_12 2 i_0 i_1 i_2 i_3 i_4 i_5 i_6 i_7 a_14 a_15 a_16 a_17 a_18 a_19 a_20 a_21 a_22 a_23 f_2 f_3 a_31 a_32 y10_30_2_169 y10_30_3_170 y10_30_4_171 z10_31_176 z10_32_177 (mm_wk mm_k2 (by decide)) h3 h9 h10 ry10_30_2_169 ry10_30_4_171 rz10_31_176 rz10_32_177) (cwV 2 hts (mm_gV mm_w391 mm_w392 mm_w393 mm_w91 mm_w394) rfl rfl rfl hd_X1_lay ⟨by rw [hRf]; exact Nat.le_of_ble_eq_true rfl, by rw [hRl]; exact Nat.le_of_ble_eq_true rfl⟩) (mm_preV hK hZ hS hA hP hD [12, 15, 16, 30, 31, 32] rfl rfl 30 rfl rfl rfl) rfl rfl hl.1 rfl (lv_room (Nat.le_of_ble_eq_true rfl)) dX10_turnTo_32 ⟨by rw [hRc]; exact Nat.le_of_ble_eq_true rfl, by rw [hRs]; exact Nat.le_of_ble_eq_true rfl⟩) hP hD hS hA (fun u : Int32 × Int32 × Int32 × (Nat → Int32) × (Nat → Int32) => [(a_1, .inr (0, [.int i_0, .int i_1, .int i_2, .int i_3, .int i_4, .int i_5, .int i_6, .int i_7, .ref a_2, .ref a_3, .ref a_4, .ref a_5, .ref a_6, .ref a_7, .ref a_8, .ref a_9, .ref a_10, .ref a_11])), (a_2, .inl (cy 1, 9, .inl f_0)), (a_3, .inl (cy 1, 9, .inl f_1)), (a_4, .inl (cy 1, 3, .inl f_2)), (a_5, .inl (cy 1, 210, .inl f_3)), (a_6, .inl (cy 1, 6, .inl f_4)), (a_7, .inl (cy 1, 48, .inl f_5)), (a_8, .inl (cy 1, 30, .inl f_6)), (a_9, .inl (cy 1, 30, .inl f_7)), (a_10, .inl (cy 1, 30, .inl f_8)), (a_11, .inl (cy 1, 30, .inl f_9)), (a_0, .inr (10, [.ref a_12, .ref a_13])), (a_12, .inr (0, [.int i_0, .int i_1, .int i_2, .int i_3, .int i_4, .int i_5, .int i_6, .int i_7, .ref a_14, .ref a_15, .ref a_16, .ref a_17, .ref a_18, .ref a_19, .ref a_20, .ref a_21, .ref a_22, .ref a_23])), (a_14, .inl (cy 1, 9, .inl f_0)), (a_15, .inl (cy 1, 9, .inl f_1)), (a_16, .inl (cy 1, 3, .inl f_2)), (a_17, .inl (cy 1, 210, .inl f_3)), (a_18, .inl (cy 1, 6, .inl f_4)), (a_19, .inl (cy 1, 48, .inl f_5)), (a_20, .inl (cy 1, 30, .inl f_6)), (a_21, .inl (cy 1, 30, .inl f_7)), (a_22, .inl (cy 1, 30, .inl f_8)), (a_23, .inl (cy 1, 30, .inl f_9)), (a_13, .inl (cy 5, 3, .inr (.inr (.inr (.inr (va_up (va_up (va_up (fun _ => none) 0 (some a_24)) 1 (some a_25)) 2 (some a_26))))))), (a_24, .inr (1, [.ref a_27, .ref a_28, .int y10_24_2_163, .int y10_24_3_164, .int y10_24_4_165])), (a_27, .inl (cy 1, 2100, .inl z10_25_172)), (a_28, .inl (cy 1, 10, .inl z10_26_173)), (a_25, .inr (1, [.ref a_29, .ref a_30, .int y10_27_2_166, .int y10_27_3_167, .int y10_27_4_168])), (a_29, .inl (cy 1, 2100, .inl z10_28_174)), (a_30, .inl (cy 1, 10, .inl z10_29_175)), (a_26, .inr (1, [.ref a_31, .ref a_32, .int u.1, .int u.2.1, .int u.2.2.1])), (a_31, .inl (cy 1, 2100, .inl u.2.2.2.1)), (a_32, .inl (cy 1, 10, .inl u.2.2.2.2))]) [12, 15, 16, 30, 31, 32] [0, 1, 2, 3, 4, 5, 6, 7, 8, 9, 10, 11, 13, 14, 17, 18, 19, 20, 21, 22, 23, 24, 25, 26, 27, 28, 29] (n := 33) (fun _ => rfl) (by decide +kernel) (by decide +kernel) rfl (fun _ => rfl) (wr := [(a_1, .inr (0, [.int i_0, .int i_1, .int i_2, .int i_3, .int i_4, .int i_5, .int i_6, .int i_7, .ref a_2, .ref a_3, .ref a_4, .ref a_5, .ref a_6, .ref a_7, .ref a_8, .ref a_9, .ref a_10, .ref a_11])), (a_2, .inl (cy 1, 9, .inl f_0)), (a_3, .inl (cy 1, 9, .inl f_1)), (a_4, .inl (cy 1, 3, .inl f_2)), (a_5, .inl (cy 1, 210, .inl f_3)), (a_6, .inl (cy 1, 6, .inl f_4)), (a_7, .inl (cy 1, 48, .inl f_5)), (a_8, .inl (cy 1, 30, .inl f_6)), (a_9, .inl (cy 1, 30, .inl f_7)), (a_10, .inl (cy 1, 30, .inl f_8)), (a_11, .inl (cy 1, 30, .inl f_9)), (a_0, .inr (10, [.ref a_12, .ref a_13])), (a_14, .inl (cy 1, 9, .inl f_0)), (a_15, .inl (cy 1, 9, .inl f_1)), (a_18, .inl (cy 1, 6, .inl f_4)), (a_19, .inl (cy 1, 48, .inl f_5)), (a_20, .inl (cy 1, 30, .inl f_6)), (a_21, .inl (cy 1, 30, .inl f_7)), (a_22, .inl (cy 1, 30, .inl f_8)), (a_23, .inl (cy 1, 30, .inl f_9)), (a_13, .inl (cy 5, 3, .inr (.inr (.inr (.inr (va_up (va_up (va_up (fun _ => none) 0 (some a_24)) 1 (some a_25)) 2 (some a_26))))))), (a_24, .inr (1, [.ref a_27, .ref a_28, .int y10_24_2_163, .int y10_24_3_164, .int y10_24_4_165])), (a_27, .inl (cy 1, 2100, .inl z10_25_172)), (a_28, .inl (cy 1, 10, .inl z10_26_173)), (a_25, .inr (1, [.ref a_29, .ref a_30, .int y10_27_2_166, .int y10_27_3_167, .int y10_27_4_168])), (a_29, .inl (cy 1, 2100, .inl z10_28_174)), (a_30, .inl (cy 1, 10, .inl z10_29_175))]) rfl (fun _ => rfl) (fun _ => rfl) ?_
          clear hP hD hS
          clear H locs
          intro u
          obtain ⟨n201, n202, n203, n204, n205⟩ := u
          intro H locs hw (hP : va_P G vwCl [(a_1, .inr (0, [.int i_0, .int i_1, .int i_2, .int i_3, .int i_4, .int i_5, .int i_6, .int i_7, .ref a_2, .ref a_3, .ref a_4, .ref a_5, .ref a_6, .ref a_7, .ref a_8, .ref a_9, .ref a_10, .ref a_11])), (a_2, .inl (cy 1, 9, .inl f_0)), (a_3, .inl (cy 1, 9, .inl f_1)), (a_4, .inl (cy 1, 3, .inl f_2)), (a_5, .inl (cy 1, 210, .inl f_3)), (a_6, .inl (cy 1, 6, .inl f_4)), (a_7, .inl (cy 1, 48, .inl f_5)), (a_8, .inl (cy 1, 30, .inl f_6)), (a_9, .inl (cy 1, 30, .inl f_7)), (a_10, .inl (cy 1, 30, .inl f_8)), (a_11, .inl (cy 1, 30, .inl f_9)), (a_0, .inr (10, [.ref a_12, .ref a_13])), (a_12, .inr (0, [.int i_0, .int i_1, .int i_2, .int i_3, .int i_4, .int i_5, .int i_6, .int i_7, .ref a_14, .ref a_15, .ref a_16, .ref a_17, .ref a_18, .ref a_19, .ref a_20, .ref a_21, .ref a_22, .ref a_23])), (a_14, .inl (cy 1, 9, .inl f_0)), (a_15, .inl (cy 1, 9, .inl f_1)), (a_16, .inl (cy 1, 3, .inl f_2)), (a_17, .inl (cy 1, 210, .inl f_3)), (a_18, .inl (cy 1, 6, .inl f_4)), (a_19, .inl (cy 1, 48, .inl f_5)), (a_20, .inl (cy 1, 30, .inl f_6)), (a_21, .inl (cy 1, 30, .inl f_7)), (a_22, .inl (cy 1, 30, .inl f_8)), (a_23, .inl (cy 1, 30, .inl f_9)), (a_13, .inl (cy 5, 3, .inr (.inr (.inr (.inr (va_up (va_up (va_up (fun _ => none) 0 (some a_24)) 1 (some a_25)) 2 (some a_26))))))), (a_24, .inr (1, [.ref a_27, .ref a_28, .int y10_24_2_163, .int y10_24_3_164, .int y10_24_4_165])), (a_27, .inl (cy 1, 2100, .inl z10_25_172)), (a_28, .inl (cy 1, 10, .inl z10_26_173)), (a_25, .inr (1, [.ref a_29, .ref a_30, .int y10_27_2_166, .int y10_27_3_167, .int y10_27_4_168])), (a_29, .inl (cy 1, 2100, .inl z10_28_174)), (a_30, .inl (cy 1, 10, .inl z10_29_175)), (a_26, .inr (1, [.ref a_31, .ref a_32, .int n201, .int n202, .int n203])), (a_31, .inl (cy 1, 2100, .inl n204)), (a_32, .inl (cy 1, 10, .inl n205))] H) (hD : va_D A [(a_1, .inr (0, [.int i_0, .int i_1, .int i_2, .int i_3, .int i_4, .int i_5, .int i_6, .int i_7, .ref a_2, .ref a_3, .ref a_4, .ref a_5, .ref a_6, .ref a_7, .ref a_8, .ref a_9, .ref a_10, .ref a_11])), (a_2, .inl (cy 1, 9, .inl f_0)), (a_3, .inl (cy 1, 9, .inl f_1)), (a_4, .inl (cy 1, 3, .inl f_2)), (a_5, .inl (cy 1, 210, .inl f_3)), (a_6, .inl (cy 1, 6, .inl f_4)), (a_7, .inl (cy 1, 48, .inl f_5)), (a_8, .inl (cy 1, 30, .inl f_6)), (a_9, .inl (cy 1, 30, .inl f_7)), (a_10, .inl (cy 1, 30, .inl f_8)), (a_11, .inl (cy 1, 30, .inl f_9)), (a_0, .inr (10, [.ref a_12, .ref a_13])), (a_12, .inr (0, [.int i_0, .int i_1, .int i_2, .int i_3, .int i_4, .int i_5, .int i_6, .int i_7, .ref a_14, .ref a_15, .ref a_16, .ref a_17, .ref a_18, .ref a_19, .ref a_20, .ref a_21, .ref a_22, .ref a_23])), (a_14, .inl (cy 1, 9, .inl f_0)), (a_15, .inl (cy 1, 9, .inl f_1)), (a_16, .inl (cy 1, 3, .inl f_2)), (a_17, .inl (cy 1, 210, .inl f_3)), (a_18, .inl (cy 1, 6, .inl f_4)), (a_19, .inl (cy 1, 48, .inl f_5)), (a_20, .inl (cy 1, 30, .inl f_6)), (a_21, .inl (cy 1, 30, .inl f_7)), (a_22, .inl (cy 1, 30, .inl f_8)), (a_23, .inl (cy 1, 30, .inl f_9)), (a_13, .inl (cy 5, 3, .inr (.inr (.inr (.inr (va_up (va_up (va_up (fun _ => none) 0 (some a_24)) 1 (some a_25)) 2 (some a_26))))))), (a_24, .inr (1, [.ref a_27, .ref a_28, .int y10_24_2_163, .int y10_24_3_164, .int y10_24_4_165])), (a_27, .inl (cy 1, 2100, .inl z10_25_172)), (a_28, .inl (cy 1, 10, .inl z10_26_173)), (a_25, .inr (1, [.ref a_29, .ref a_30, .int y10_27_2_166, .int y10_27_3_167, .int y10_27_4_168])), (a_29, .inl (cy 1, 2100, .inl z10_28_174)), (a_30, .inl (cy 1, 10, .inl z10_29_175)), (a_26, .inr (1, [.ref a_31, .ref a_32, .int n201, .int n202, .int n203])), (a_31, .inl (cy 1, 2100, .inl n204)), (a_32, .inl (cy 1, 10, .inl n205))]) hS
          obtain ⟨w206, w207, w208, w209⟩ := hw
          refine lv_iinc (v := 3) (lv' := [(2, .int 3), (0, .ref a_0), (1, .ref a_1)]) hx hb dX10_turnTo_35 hl (k := 0) rfl (by decide) (by decide) rfl ?_
          clear hl
          clear ls
          intro ls hl
          refine lv_goto (tgt := 10) hx hb dX10_turnTo_38 (by decide) ?_
          exact ih10 3 y10_24_2_163 y10_24_3_164 y10_24_4_165 y10_27_2_166 y10_27_3_167 y10_27_4_168 n201 n202 n203 z10_25_172 z10_26_173 z10_28_174 z10_29_175 n204 n205 (mm_wk mm_k3 (by decide)) ry10_24_2_163 ry10_24_4_165 ry10_27_2_166 ry10_27_4_168 w206 w207 rz10_25_172 rz10_26_173 rz10_28_174 rz10_29_175 w208 w209 (mm_muL hm10 (by decide)) H locs hP hD hS ls (lv_sub hl [0, 1, 2] rfl)
  exact L10_177 _ 0 i_16 i_17 i_18 i_19 i_20 i_21 i_22 i_23 i_24 f_20 f_21 f_22 f_23 f_24 f_25 (mm_wk mm_k0 (by decide)) h34 h35 h38 h39 h42 h43 h36 h37 h40 h41 h44 h45 (Nat.lt_succ_self _) H locs hP hD hS ls (lv_sub hl [0, 1, 2] rfl)

