theorem dX12_book_0 : decode cX12_book 0 = .ok (.aload_n 0, 1) := by decide +kernel
theorem dX12_book_1 : decode cX12_book 1 = .ok (.iconst 0, 1) := by decide +kernel
theorem dX12_book_2 : decode cX12_book 2 = .ok (.putfield 77, 3) := by decide +kernel
theorem dX12_book_5 : decode cX12_book 5 = .ok (.aload_n 0, 1) := by decide +kernel
theorem dX12_book_6 : decode cX12_book 6 = .ok (.invokevirtual 216, 3) := by decide +kernel
theorem dX12_book_9 : decode cX12_book 9 = .ok (.aload_n 0, 1) := by decide +kernel
theorem dX12_book_10 : decode cX12_book 10 = .ok (.invokevirtual 219, 3) := by decide +kernel
theorem dX12_book_13 : decode cX12_book 13 = .ok (.aload_n 0, 1) := by decide +kernel
theorem dX12_book_14 : decode cX12_book 14 = .ok (.invokevirtual 222, 3) := by decide +kernel
theorem dX12_book_17 : decode cX12_book 17 = .ok (.ifCond .eq 87, 3) := by decide +kernel
theorem dX12_book_20 : decode cX12_book 20 = .ok (.aload_n 0, 1) := by decide +kernel
theorem dX12_book_21 : decode cX12_book 21 = .ok (.getfield 118, 3) := by decide +kernel
theorem dX12_book_24 : decode cX12_book 24 = .ok (.ifCond .eq 80, 3) := by decide +kernel
theorem dX12_book_27 : decode cX12_book 27 = .ok (.aload_n 0, 1) := by decide +kernel
theorem dX12_book_28 : decode cX12_book 28 = .ok (.getfield 31, 3) := by decide +kernel
theorem dX12_book_31 : decode cX12_book 31 = .ok (.iconst 4, 1) := by decide +kernel
theorem dX12_book_32 : decode cX12_book 32 = .ok (.iaload, 1) := by decide +kernel
theorem dX12_book_33 : decode cX12_book 33 = .ok (.ifCond .ne 43, 3) := by decide +kernel
theorem dX12_book_36 : decode cX12_book 36 = .ok (.aload_n 0, 1) := by decide +kernel
theorem dX12_book_37 : decode cX12_book 37 = .ok (.ldc2_w 226, 3) := by decide +kernel
theorem dX12_book_40 : decode cX12_book 40 = .ok (.invokevirtual 148, 3) := by decide +kernel
theorem dX12_book_43 : decode cX12_book 43 = .ok (.aload_n 0, 1) := by decide +kernel
theorem dX12_book_44 : decode cX12_book 44 = .ok (.iconst 0, 1) := by decide +kernel
theorem dX12_book_45 : decode cX12_book 45 = .ok (.aload_n 0, 1) := by decide +kernel
theorem dX12_book_46 : decode cX12_book 46 = .ok (.ldc2_w 228, 3) := by decide +kernel
theorem dX12_book_49 : decode cX12_book 49 = .ok (.iconst 0, 1) := by decide +kernel
theorem dX12_book_50 : decode cX12_book 50 = .ok (.bipush 10, 2) := by decide +kernel
theorem dX12_book_52 : decode cX12_book 52 = .ok (.invokevirtual 230, 3) := by decide +kernel
theorem dX12_book_55 : decode cX12_book 55 = .ok (.invokevirtual 173, 3) := by decide +kernel
theorem dX12_book_58 : decode cX12_book 58 = .ok (.aload_n 0, 1) := by decide +kernel
theorem dX12_book_59 : decode cX12_book 59 = .ok (.iconst 1, 1) := by decide +kernel
theorem dX12_book_60 : decode cX12_book 60 = .ok (.aload_n 0, 1) := by decide +kernel
theorem dX12_book_61 : decode cX12_book 61 = .ok (.ldc2_w 233, 3) := by decide +kernel
theorem dX12_book_64 : decode cX12_book 64 = .ok (.iconst 0, 1) := by decide +kernel
theorem dX12_book_65 : decode cX12_book 65 = .ok (.bipush 99, 2) := by decide +kernel
theorem dX12_book_67 : decode cX12_book 67 = .ok (.invokevirtual 230, 3) := by decide +kernel
theorem dX12_book_70 : decode cX12_book 70 = .ok (.invokevirtual 173, 3) := by decide +kernel
theorem dX12_book_73 : decode cX12_book 73 = .ok (.goto 7, 3) := by decide +kernel
theorem dX12_book_76 : decode cX12_book 76 = .ok (.aload_n 0, 1) := by decide +kernel
theorem dX12_book_77 : decode cX12_book 77 = .ok (.invokevirtual 235, 3) := by decide +kernel
theorem dX12_book_80 : decode cX12_book 80 = .ok (.aload_n 0, 1) := by decide +kernel
theorem dX12_book_81 : decode cX12_book 81 = .ok (.invokevirtual 222, 3) := by decide +kernel
theorem dX12_book_84 : decode cX12_book 84 = .ok (.ifCond .eq 7, 3) := by decide +kernel
theorem dX12_book_87 : decode cX12_book 87 = .ok (.aload_n 0, 1) := by decide +kernel
theorem dX12_book_88 : decode cX12_book 88 = .ok (.invokevirtual 238, 3) := by decide +kernel
theorem dX12_book_91 : decode cX12_book 91 = .ok (.aload_n 0, 1) := by decide +kernel
theorem dX12_book_92 : decode cX12_book 92 = .ok (.getfield 31, 3) := by decide +kernel
theorem dX12_book_95 : decode cX12_book 95 = .ok (.iconst 4, 1) := by decide +kernel
theorem dX12_book_96 : decode cX12_book 96 = .ok (.dup2, 1) := by decide +kernel
theorem dX12_book_97 : decode cX12_book 97 = .ok (.iaload, 1) := by decide +kernel
theorem dX12_book_98 : decode cX12_book 98 = .ok (.iconst 1, 1) := by decide +kernel
theorem dX12_book_99 : decode cX12_book 99 = .ok (.iadd, 1) := by decide +kernel
theorem dX12_book_100 : decode cX12_book 100 = .ok (.iastore, 1) := by decide +kernel
theorem dX12_book_101 : decode cX12_book 101 = .ok (.goto (-88), 3) := by decide +kernel
theorem dX12_book_104 : decode cX12_book 104 = .ok (.aload_n 0, 1) := by decide +kernel
theorem dX12_book_105 : decode cX12_book 105 = .ok (.invokevirtual 241, 3) := by decide +kernel
theorem dX12_book_108 : decode cX12_book 108 = .ok (.aload_n 0, 1) := by decide +kernel
theorem dX12_book_109 : decode cX12_book 109 = .ok (.getfield 129, 3) := by decide +kernel
theorem dX12_book_112 : decode cX12_book 112 = .ok (.ifCond .eq 6, 3) := by decide +kernel
theorem dX12_book_115 : decode cX12_book 115 = .ok (.bipush (-4), 2) := by decide +kernel
theorem dX12_book_117 : decode cX12_book 117 = .ok (.ireturn, 1) := by decide +kernel
theorem dX12_book_118 : decode cX12_book 118 = .ok (.aload_n 0, 1) := by decide +kernel
theorem dX12_book_119 : decode cX12_book 119 = .ok (.iconst 4, 1) := by decide +kernel
theorem dX12_book_120 : decode cX12_book 120 = .ok (.iconst 0, 1) := by decide +kernel
theorem dX12_book_121 : decode cX12_book 121 = .ok (.invokevirtual 244, 3) := by decide +kernel
theorem dX12_book_124 : decode cX12_book 124 = .ok (.aload_n 0, 1) := by decide +kernel
theorem dX12_book_125 : decode cX12_book 125 = .ok (.getfield 31, 3) := by decide +kernel
theorem dX12_book_128 : decode cX12_book 128 = .ok (.iconst 0, 1) := by decide +kernel
theorem dX12_book_129 : decode cX12_book 129 = .ok (.iaload, 1) := by decide +kernel
theorem dX12_book_130 : decode cX12_book 130 = .ok (.ireturn, 1) := by decide +kernel
theorem dX12_common_0 : decode cX12_common 0 = .ok (.iload_n 1, 1) := by decide +kernel
theorem dX12_common_1 : decode cX12_common 1 = .ok (.ifCond .ne 7, 3) := by decide +kernel
theorem dX12_common_4 : decode cX12_common 4 = .ok (.iload_n 0, 1) := by decide +kernel
theorem dX12_common_5 : decode cX12_common 5 = .ok (.goto 10, 3) := by decide +kernel
theorem dX12_common_8 : decode cX12_common 8 = .ok (.iload_n 1, 1) := by decide +kernel
theorem dX12_common_9 : decode cX12_common 9 = .ok (.iload_n 0, 1) := by decide +kernel
theorem dX12_common_10 : decode cX12_common 10 = .ok (.iload_n 1, 1) := by decide +kernel
theorem dX12_common_11 : decode cX12_common 11 = .ok (.irem, 1) := by decide +kernel
theorem dX12_common_12 : decode cX12_common 12 = .ok (.invokestatic 276, 3) := by decide +kernel
theorem dX12_common_15 : decode cX12_common 15 = .ok (.ireturn, 1) := by decide +kernel
theorem dX12_copyBook_0 : decode cX12_copyBook 0 = .ok (.aload_n 0, 1) := by decide +kernel
theorem dX12_copyBook_1 : decode cX12_copyBook 1 = .ok (.getfield 31, 3) := by decide +kernel
theorem dX12_copyBook_4 : decode cX12_copyBook 4 = .ok (.iconst 1, 1) := by decide +kernel
theorem dX12_copyBook_5 : decode cX12_copyBook 5 = .ok (.iload_n 1, 1) := by decide +kernel
theorem dX12_copyBook_6 : decode cX12_copyBook 6 = .ok (.iload_n 2, 1) := by decide +kernel
theorem dX12_copyBook_7 : decode cX12_copyBook 7 = .ok (.invokestatic 247, 3) := by decide +kernel
theorem dX12_copyBook_10 : decode cX12_copyBook 10 = .ok (.aload_n 0, 1) := by decide +kernel
theorem dX12_copyBook_11 : decode cX12_copyBook 11 = .ok (.getfield 34, 3) := by decide +kernel
theorem dX12_copyBook_14 : decode cX12_copyBook 14 = .ok (.bipush 6, 2) := by decide +kernel
theorem dX12_copyBook_16 : decode cX12_copyBook 16 = .ok (.iload_n 1, 1) := by decide +kernel
theorem dX12_copyBook_17 : decode cX12_copyBook 17 = .ok (.iload_n 2, 1) := by decide +kernel
theorem dX12_copyBook_18 : decode cX12_copyBook 18 = .ok (.invokestatic 247, 3) := by decide +kernel
theorem dX12_copyBook_21 : decode cX12_copyBook 21 = .ok (.aload_n 0, 1) := by decide +kernel
theorem dX12_copyBook_22 : decode cX12_copyBook 22 = .ok (.getfield 37, 3) := by decide +kernel
theorem dX12_copyBook_25 : decode cX12_copyBook 25 = .ok (.bipush 18, 2) := by decide +kernel
theorem dX12_copyBook_27 : decode cX12_copyBook 27 = .ok (.iload_n 1, 1) := by decide +kernel
theorem dX12_copyBook_28 : decode cX12_copyBook 28 = .ok (.iload_n 2, 1) := by decide +kernel
theorem dX12_copyBook_29 : decode cX12_copyBook 29 = .ok (.invokestatic 247, 3) := by decide +kernel
theorem dX12_copyBook_32 : decode cX12_copyBook 32 = .ok (.aload_n 0, 1) := by decide +kernel
theorem dX12_copyBook_33 : decode cX12_copyBook 33 = .ok (.getfield 40, 3) := by decide +kernel
theorem dX12_copyBook_36 : decode cX12_copyBook 36 = .ok (.iconst 3, 1) := by decide +kernel
theorem dX12_copyBook_37 : decode cX12_copyBook 37 = .ok (.iload_n 1, 1) := by decide +kernel
theorem dX12_copyBook_38 : decode cX12_copyBook 38 = .ok (.iload_n 2, 1) := by decide +kernel
theorem dX12_copyBook_39 : decode cX12_copyBook 39 = .ok (.invokestatic 247, 3) := by decide +kernel
theorem dX12_copyBook_42 : decode cX12_copyBook 42 = .ok (.aload_n 0, 1) := by decide +kernel
theorem dX12_copyBook_43 : decode cX12_copyBook 43 = .ok (.getfield 43, 3) := by decide +kernel
theorem dX12_copyBook_46 : decode cX12_copyBook 46 = .ok (.sipush 210, 3) := by decide +kernel
theorem dX12_copyBook_49 : decode cX12_copyBook 49 = .ok (.iload_n 1, 1) := by decide +kernel
theorem dX12_copyBook_50 : decode cX12_copyBook 50 = .ok (.iload_n 2, 1) := by decide +kernel
theorem dX12_copyBook_51 : decode cX12_copyBook 51 = .ok (.invokestatic 247, 3) := by decide +kernel
theorem dX12_copyBook_54 : decode cX12_copyBook 54 = .ok (.aload_n 0, 1) := by decide +kernel
theorem dX12_copyBook_55 : decode cX12_copyBook 55 = .ok (.getfield 46, 3) := by decide +kernel
theorem dX12_copyBook_58 : decode cX12_copyBook 58 = .ok (.bipush 6, 2) := by decide +kernel
theorem dX12_copyBook_60 : decode cX12_copyBook 60 = .ok (.iload_n 1, 1) := by decide +kernel
theorem dX12_copyBook_61 : decode cX12_copyBook 61 = .ok (.iload_n 2, 1) := by decide +kernel
theorem dX12_copyBook_62 : decode cX12_copyBook 62 = .ok (.invokestatic 247, 3) := by decide +kernel
theorem dX12_copyBook_65 : decode cX12_copyBook 65 = .ok (.aload_n 0, 1) := by decide +kernel
theorem dX12_copyBook_66 : decode cX12_copyBook 66 = .ok (.getfield 49, 3) := by decide +kernel
theorem dX12_copyBook_69 : decode cX12_copyBook 69 = .ok (.bipush 48, 2) := by decide +kernel
theorem dX12_copyBook_71 : decode cX12_copyBook 71 = .ok (.iload_n 1, 1) := by decide +kernel
theorem dX12_copyBook_72 : decode cX12_copyBook 72 = .ok (.iload_n 2, 1) := by decide +kernel
theorem dX12_copyBook_73 : decode cX12_copyBook 73 = .ok (.invokestatic 247, 3) := by decide +kernel
theorem dX12_copyBook_76 : decode cX12_copyBook 76 = .ok (.aload_n 0, 1) := by decide +kernel
theorem dX12_copyBook_77 : decode cX12_copyBook 77 = .ok (.getfield 52, 3) := by decide +kernel
theorem dX12_copyBook_80 : decode cX12_copyBook 80 = .ok (.bipush 90, 2) := by decide +kernel
theorem dX12_copyBook_82 : decode cX12_copyBook 82 = .ok (.iload_n 1, 1) := by decide +kernel
theorem dX12_copyBook_83 : decode cX12_copyBook 83 = .ok (.iload_n 2, 1) := by decide +kernel
theorem dX12_copyBook_84 : decode cX12_copyBook 84 = .ok (.invokestatic 247, 3) := by decide +kernel
theorem dX12_copyBook_87 : decode cX12_copyBook 87 = .ok (.return_, 1) := by decide +kernel
theorem dX12_copyRow_0 : decode cX12_copyRow 0 = .ok (.iconst 0, 1) := by decide +kernel
theorem dX12_copyRow_1 : decode cX12_copyRow 1 = .ok (.istore 4, 2) := by decide +kernel
theorem dX12_copyRow_3 : decode cX12_copyRow 3 = .ok (.iload 4, 2) := by decide +kernel
theorem dX12_copyRow_5 : decode cX12_copyRow 5 = .ok (.iload_n 1, 1) := by decide +kernel
theorem dX12_copyRow_6 : decode cX12_copyRow 6 = .ok (.if_icmp .ge 25, 3) := by decide +kernel
theorem dX12_copyRow_9 : decode cX12_copyRow 9 = .ok (.aload_n 0, 1) := by decide +kernel
theorem dX12_copyRow_10 : decode cX12_copyRow 10 = .ok (.iload_n 1, 1) := by decide +kernel
theorem dX12_copyRow_11 : decode cX12_copyRow 11 = .ok (.iload_n 3, 1) := by decide +kernel
theorem dX12_copyRow_12 : decode cX12_copyRow 12 = .ok (.imul, 1) := by decide +kernel
theorem dX12_copyRow_13 : decode cX12_copyRow 13 = .ok (.iload 4, 2) := by decide +kernel
theorem dX12_copyRow_15 : decode cX12_copyRow 15 = .ok (.iadd, 1) := by decide +kernel
theorem dX12_copyRow_16 : decode cX12_copyRow 16 = .ok (.aload_n 0, 1) := by decide +kernel
theorem dX12_copyRow_17 : decode cX12_copyRow 17 = .ok (.iload_n 1, 1) := by decide +kernel
theorem dX12_copyRow_18 : decode cX12_copyRow 18 = .ok (.iload_n 2, 1) := by decide +kernel
theorem dX12_copyRow_19 : decode cX12_copyRow 19 = .ok (.imul, 1) := by decide +kernel
theorem dX12_copyRow_20 : decode cX12_copyRow 20 = .ok (.iload 4, 2) := by decide +kernel
theorem dX12_copyRow_22 : decode cX12_copyRow 22 = .ok (.iadd, 1) := by decide +kernel
theorem dX12_copyRow_23 : decode cX12_copyRow 23 = .ok (.iaload, 1) := by decide +kernel
theorem dX12_copyRow_24 : decode cX12_copyRow 24 = .ok (.iastore, 1) := by decide +kernel
theorem dX12_copyRow_25 : decode cX12_copyRow 25 = .ok (.iinc 4 1, 3) := by decide +kernel
theorem dX12_copyRow_28 : decode cX12_copyRow 28 = .ok (.goto (-25), 3) := by decide +kernel
theorem dX12_copyRow_31 : decode cX12_copyRow 31 = .ok (.return_, 1) := by decide +kernel
theorem dX12_cycleOf_0 : decode cX12_cycleOf 0 = .ok (.iconst 1, 1) := by decide +kernel
theorem dX12_cycleOf_1 : decode cX12_cycleOf 1 = .ok (.istore_n 3, 1) := by decide +kernel
theorem dX12_cycleOf_2 : decode cX12_cycleOf 2 = .ok (.aload_n 0, 1) := by decide +kernel
theorem dX12_cycleOf_3 : decode cX12_cycleOf 3 = .ok (.iload_n 1, 1) := by decide +kernel
theorem dX12_cycleOf_4 : decode cX12_cycleOf 4 = .ok (.iload_n 2, 1) := by decide +kernel
theorem dX12_cycleOf_5 : decode cX12_cycleOf 5 = .ok (.invokevirtual 273, 3) := by decide +kernel
theorem dX12_cycleOf_8 : decode cX12_cycleOf 8 = .ok (.istore 4, 2) := by decide +kernel
theorem dX12_cycleOf_10 : decode cX12_cycleOf 10 = .ok (.iload 4, 2) := by decide +kernel
theorem dX12_cycleOf_12 : decode cX12_cycleOf 12 = .ok (.iload_n 2, 1) := by decide +kernel
theorem dX12_cycleOf_13 : decode cX12_cycleOf 13 = .ok (.if_icmp .eq 18, 3) := by decide +kernel
theorem dX12_cycleOf_16 : decode cX12_cycleOf 16 = .ok (.iinc 3 1, 3) := by decide +kernel
theorem dX12_cycleOf_19 : decode cX12_cycleOf 19 = .ok (.aload_n 0, 1) := by decide +kernel
theorem dX12_cycleOf_20 : decode cX12_cycleOf 20 = .ok (.iload_n 1, 1) := by decide +kernel
theorem dX12_cycleOf_21 : decode cX12_cycleOf 21 = .ok (.iload 4, 2) := by decide +kernel
theorem dX12_cycleOf_23 : decode cX12_cycleOf 23 = .ok (.invokevirtual 273, 3) := by decide +kernel
theorem dX12_cycleOf_26 : decode cX12_cycleOf 26 = .ok (.istore 4, 2) := by decide +kernel
theorem dX12_cycleOf_28 : decode cX12_cycleOf 28 = .ok (.goto (-18), 3) := by decide +kernel
theorem dX12_cycleOf_31 : decode cX12_cycleOf 31 = .ok (.iload_n 3, 1) := by decide +kernel
theorem dX12_cycleOf_32 : decode cX12_cycleOf 32 = .ok (.ireturn, 1) := by decide +kernel
theorem dX12_fault_0 : decode cX12_fault 0 = .ok (.aload_n 0, 1) := by decide +kernel
theorem dX12_fault_1 : decode cX12_fault 1 = .ok (.iconst 0, 1) := by decide +kernel
theorem dX12_fault_2 : decode cX12_fault 2 = .ok (.putfield 77, 3) := by decide +kernel
theorem dX12_fault_5 : decode cX12_fault 5 = .ok (.iload_n 1, 1) := by decide +kernel
theorem dX12_fault_6 : decode cX12_fault 6 = .ok (.ifCond .ne 10, 3) := by decide +kernel
theorem dX12_fault_9 : decode cX12_fault 9 = .ok (.aload_n 0, 1) := by decide +kernel
theorem dX12_fault_10 : decode cX12_fault 10 = .ok (.getfield 156, 3) := by decide +kernel
theorem dX12_fault_13 : decode cX12_fault 13 = .ok (.goto 16, 3) := by decide +kernel
theorem dX12_fault_16 : decode cX12_fault 16 = .ok (.iload_n 1, 1) := by decide +kernel
theorem dX12_fault_17 : decode cX12_fault 17 = .ok (.iconst 1, 1) := by decide +kernel
theorem dX12_fault_18 : decode cX12_fault 18 = .ok (.if_icmp .ne 10, 3) := by decide +kernel
theorem dX12_fault_21 : decode cX12_fault 21 = .ok (.aload_n 0, 1) := by decide +kernel
theorem dX12_fault_22 : decode cX12_fault 22 = .ok (.getfield 27, 3) := by decide +kernel
theorem dX12_fault_25 : decode cX12_fault 25 = .ok (.goto 4, 3) := by decide +kernel
theorem dX12_fault_28 : decode cX12_fault 28 = .ok (.iconst (-1), 1) := by decide +kernel
theorem dX12_fault_29 : decode cX12_fault 29 = .ok (.ireturn, 1) := by decide +kernel
theorem dX12_isBook_0 : decode cX12_isBook 0 = .ok (.aload_n 0, 1) := by decide +kernel
theorem dX12_isBook_1 : decode cX12_isBook 1 = .ok (.getfield 31, 3) := by decide +kernel
theorem dX12_isBook_4 : decode cX12_isBook 4 = .ok (.iconst 0, 1) := by decide +kernel
theorem dX12_isBook_5 : decode cX12_isBook 5 = .ok (.iaload, 1) := by decide +kernel
theorem dX12_isBook_6 : decode cX12_isBook 6 = .ok (.ifCond .le 7, 3) := by decide +kernel
theorem dX12_isBook_9 : decode cX12_isBook 9 = .ok (.iconst 1, 1) := by decide +kernel
theorem dX12_isBook_10 : decode cX12_isBook 10 = .ok (.goto 4, 3) := by decide +kernel
theorem dX12_isBook_14 : decode cX12_isBook 14 = .ok (.ireturn, 1) := by decide +kernel
theorem dX12_isDay_0 : decode cX12_isDay 0 = .ok (.iload_n 0, 1) := by decide +kernel
theorem dX12_isDay_1 : decode cX12_isDay 1 = .ok (.i2l, 1) := by decide +kernel
theorem dX12_isDay_2 : decode cX12_isDay 2 = .ok (.lconst 0, 1) := by decide +kernel
theorem dX12_isDay_3 : decode cX12_isDay 3 = .ok (.ldc2_w 263, 3) := by decide +kernel
theorem dX12_isDay_6 : decode cX12_isDay 6 = .ok (.invokestatic 82, 3) := by decide +kernel
theorem dX12_isDay_9 : decode cX12_isDay 9 = .ok (.ireturn, 1) := by decide +kernel
theorem dX12_isHalf_0 : decode cX12_isHalf 0 = .ok (.iload_n 0, 1) := by decide +kernel
theorem dX12_isHalf_1 : decode cX12_isHalf 1 = .ok (.i2l, 1) := by decide +kernel
theorem dX12_isHalf_2 : decode cX12_isHalf 2 = .ok (.lconst 0, 1) := by decide +kernel
theorem dX12_isHalf_3 : decode cX12_isHalf 3 = .ok (.lconst 1, 1) := by decide +kernel
theorem dX12_isHalf_4 : decode cX12_isHalf 4 = .ok (.invokestatic 82, 3) := by decide +kernel
theorem dX12_isHalf_7 : decode cX12_isHalf 7 = .ok (.ireturn, 1) := by decide +kernel
theorem dX12_isLand_0 : decode cX12_isLand 0 = .ok (.iload_n 1, 1) := by decide +kernel
theorem dX12_isLand_1 : decode cX12_isLand 1 = .ok (.i2l, 1) := by decide +kernel
theorem dX12_isLand_2 : decode cX12_isLand 2 = .ok (.lconst 0, 1) := by decide +kernel
theorem dX12_isLand_3 : decode cX12_isLand 3 = .ok (.aload_n 0, 1) := by decide +kernel
theorem dX12_isLand_4 : decode cX12_isLand 4 = .ok (.getfield 34, 3) := by decide +kernel
theorem dX12_isLand_7 : decode cX12_isLand 7 = .ok (.iconst 3, 1) := by decide +kernel
theorem dX12_isLand_8 : decode cX12_isLand 8 = .ok (.iaload, 1) := by decide +kernel
theorem dX12_isLand_9 : decode cX12_isLand 9 = .ok (.i2l, 1) := by decide +kernel
theorem dX12_isLand_10 : decode cX12_isLand 10 = .ok (.lconst 1, 1) := by decide +kernel
theorem dX12_isLand_11 : decode cX12_isLand 11 = .ok (.lsub, 1) := by decide +kernel
theorem dX12_isLand_12 : decode cX12_isLand 12 = .ok (.invokestatic 82, 3) := by decide +kernel
theorem dX12_isLand_15 : decode cX12_isLand 15 = .ok (.ireturn, 1) := by decide +kernel
theorem dX12_isOver_0 : decode cX12_isOver 0 = .ok (.aload_n 0, 1) := by decide +kernel
theorem dX12_isOver_1 : decode cX12_isOver 1 = .ok (.iconst 0, 1) := by decide +kernel
theorem dX12_isOver_2 : decode cX12_isOver 2 = .ok (.putfield 94, 3) := by decide +kernel
theorem dX12_isOver_5 : decode cX12_isOver 5 = .ok (.aload_n 0, 1) := by decide +kernel
theorem dX12_isOver_6 : decode cX12_isOver 6 = .ok (.aload_n 0, 1) := by decide +kernel
theorem dX12_isOver_7 : decode cX12_isOver 7 = .ok (.getfield 129, 3) := by decide +kernel
theorem dX12_isOver_10 : decode cX12_isOver 10 = .ok (.putfield 156, 3) := by decide +kernel
theorem dX12_isOver_13 : decode cX12_isOver 13 = .ok (.aload_n 0, 1) := by decide +kernel
theorem dX12_isOver_14 : decode cX12_isOver 14 = .ok (.aload_n 0, 1) := by decide +kernel
theorem dX12_isOver_15 : decode cX12_isOver 15 = .ok (.getfield 129, 3) := by decide +kernel
theorem dX12_isOver_18 : decode cX12_isOver 18 = .ok (.ifCond .ne 7, 3) := by decide +kernel
theorem dX12_isOver_21 : decode cX12_isOver 21 = .ok (.iconst (-1), 1) := by decide +kernel
theorem dX12_isOver_22 : decode cX12_isOver 22 = .ok (.goto 7, 3) := by decide +kernel
theorem dX12_isOver_25 : decode cX12_isOver 25 = .ok (.aload_n 0, 1) := by decide +kernel
theorem dX12_isOver_26 : decode cX12_isOver 26 = .ok (.getfield 132, 3) := by decide +kernel
theorem dX12_isOver_29 : decode cX12_isOver 29 = .ok (.putfield 27, 3) := by decide +kernel
theorem dX12_isOver_32 : decode cX12_isOver 32 = .ok (.return_, 1) := by decide +kernel
theorem dX12_isText_0 : decode cX12_isText 0 = .ok (.lload_n 1, 1) := by decide +kernel
theorem dX12_isText_1 : decode cX12_isText 1 = .ok (.lconst 0, 1) := by decide +kernel
theorem dX12_isText_2 : decode cX12_isText 2 = .ok (.aload_n 0, 1) := by decide +kernel
theorem dX12_isText_3 : decode cX12_isText 3 = .ok (.invokevirtual 260, 3) := by decide +kernel
theorem dX12_isText_6 : decode cX12_isText 6 = .ok (.i2l, 1) := by decide +kernel
theorem dX12_isText_7 : decode cX12_isText 7 = .ok (.lconst 1, 1) := by decide +kernel
theorem dX12_isText_8 : decode cX12_isText 8 = .ok (.lsub, 1) := by decide +kernel
theorem dX12_isText_9 : decode cX12_isText 9 = .ok (.invokestatic 82, 3) := by decide +kernel
theorem dX12_isText_12 : decode cX12_isText 12 = .ok (.ireturn, 1) := by decide +kernel
theorem dX12_isThen_0 : decode cX12_isThen 0 = .ok (.aload_n 0, 1) := by decide +kernel
theorem dX12_isThen_1 : decode cX12_isThen 1 = .ok (.iload_n 1, 1) := by decide +kernel
theorem dX12_isThen_2 : decode cX12_isThen 2 = .ok (.invokevirtual 265, 3) := by decide +kernel
theorem dX12_isThen_5 : decode cX12_isThen 5 = .ok (.ifCond .eq 14, 3) := by decide +kernel
theorem dX12_isThen_8 : decode cX12_isThen 8 = .ok (.iload_n 2, 1) := by decide +kernel
theorem dX12_isThen_9 : decode cX12_isThen 9 = .ok (.invokestatic 268, 3) := by decide +kernel
theorem dX12_isThen_12 : decode cX12_isThen 12 = .ok (.ifCond .eq 7, 3) := by decide +kernel
theorem dX12_isThen_15 : decode cX12_isThen 15 = .ok (.iconst 1, 1) := by decide +kernel
theorem dX12_isThen_16 : decode cX12_isThen 16 = .ok (.goto 4, 3) := by decide +kernel
theorem dX12_isThen_19 : decode cX12_isThen 19 = .ok (.iconst 0, 1) := by decide +kernel
theorem dX12_isThen_20 : decode cX12_isThen 20 = .ok (.ireturn, 1) := by decide +kernel
theorem dX12_isWord_0 : decode cX12_isWord 0 = .ok (.iload_n 1, 1) := by decide +kernel
theorem dX12_isWord_1 : decode cX12_isWord 1 = .ok (.i2l, 1) := by decide +kernel
theorem dX12_isWord_2 : decode cX12_isWord 2 = .ok (.lconst 0, 1) := by decide +kernel
theorem dX12_isWord_3 : decode cX12_isWord 3 = .ok (.aload_n 0, 1) := by decide +kernel
theorem dX12_isWord_4 : decode cX12_isWord 4 = .ok (.invokevirtual 257, 3) := by decide +kernel
theorem dX12_isWord_7 : decode cX12_isWord 7 = .ok (.i2l, 1) := by decide +kernel
theorem dX12_isWord_8 : decode cX12_isWord 8 = .ok (.lconst 1, 1) := by decide +kernel
theorem dX12_isWord_9 : decode cX12_isWord 9 = .ok (.lsub, 1) := by decide +kernel
theorem dX12_isWord_10 : decode cX12_isWord 10 = .ok (.invokestatic 82, 3) := by decide +kernel
theorem dX12_isWord_13 : decode cX12_isWord 13 = .ok (.ireturn, 1) := by decide +kernel
theorem dX12_rule_0 : decode cX12_rule 0 = .ok (.aload_n 0, 1) := by decide +kernel
theorem dX12_rule_1 : decode cX12_rule 1 = .ok (.iconst 0, 1) := by decide +kernel
theorem dX12_rule_2 : decode cX12_rule 2 = .ok (.putfield 77, 3) := by decide +kernel
theorem dX12_rule_5 : decode cX12_rule 5 = .ok (.aload_n 0, 1) := by decide +kernel
theorem dX12_rule_6 : decode cX12_rule 6 = .ok (.iload_n 1, 1) := by decide +kernel
theorem dX12_rule_7 : decode cX12_rule 7 = .ok (.invokevirtual 265, 3) := by decide +kernel
theorem dX12_rule_10 : decode cX12_rule 10 = .ok (.ifCond .eq 48, 3) := by decide +kernel
theorem dX12_rule_13 : decode cX12_rule 13 = .ok (.iload_n 2, 1) := by decide +kernel
theorem dX12_rule_14 : decode cX12_rule 14 = .ok (.i2l, 1) := by decide +kernel
theorem dX12_rule_15 : decode cX12_rule 15 = .ok (.lconst 0, 1) := by decide +kernel
theorem dX12_rule_16 : decode cX12_rule 16 = .ok (.aload_n 0, 1) := by decide +kernel
theorem dX12_rule_17 : decode cX12_rule 17 = .ok (.getfield 40, 3) := by decide +kernel
theorem dX12_rule_20 : decode cX12_rule 20 = .ok (.iload_n 1, 1) := by decide +kernel
theorem dX12_rule_21 : decode cX12_rule 21 = .ok (.iaload, 1) := by decide +kernel
theorem dX12_rule_22 : decode cX12_rule 22 = .ok (.i2l, 1) := by decide +kernel
theorem dX12_rule_23 : decode cX12_rule 23 = .ok (.lconst 1, 1) := by decide +kernel
theorem dX12_rule_24 : decode cX12_rule 24 = .ok (.lsub, 1) := by decide +kernel
theorem dX12_rule_25 : decode cX12_rule 25 = .ok (.invokestatic 82, 3) := by decide +kernel
theorem dX12_rule_28 : decode cX12_rule 28 = .ok (.ifCond .eq 30, 3) := by decide +kernel
theorem dX12_rule_31 : decode cX12_rule 31 = .ok (.aload_n 0, 1) := by decide +kernel
theorem dX12_rule_32 : decode cX12_rule 32 = .ok (.iload_n 3, 1) := by decide +kernel
theorem dX12_rule_33 : decode cX12_rule 33 = .ok (.invokevirtual 320, 3) := by decide +kernel
theorem dX12_rule_36 : decode cX12_rule 36 = .ok (.ifCond .eq 22, 3) := by decide +kernel
theorem dX12_rule_39 : decode cX12_rule 39 = .ok (.aload_n 0, 1) := by decide +kernel
theorem dX12_rule_40 : decode cX12_rule 40 = .ok (.getfield 43, 3) := by decide +kernel
theorem dX12_rule_43 : decode cX12_rule 43 = .ok (.bipush 10, 2) := by decide +kernel
theorem dX12_rule_45 : decode cX12_rule 45 = .ok (.bipush 7, 2) := by decide +kernel
theorem dX12_rule_47 : decode cX12_rule 47 = .ok (.iload_n 1, 1) := by decide +kernel
theorem dX12_rule_48 : decode cX12_rule 48 = .ok (.imul, 1) := by decide +kernel
theorem dX12_rule_49 : decode cX12_rule 49 = .ok (.iload_n 2, 1) := by decide +kernel
theorem dX12_rule_50 : decode cX12_rule 50 = .ok (.iadd, 1) := by decide +kernel
theorem dX12_rule_51 : decode cX12_rule 51 = .ok (.imul, 1) := by decide +kernel
theorem dX12_rule_52 : decode cX12_rule 52 = .ok (.iload_n 3, 1) := by decide +kernel
theorem dX12_rule_53 : decode cX12_rule 53 = .ok (.iadd, 1) := by decide +kernel
theorem dX12_rule_54 : decode cX12_rule 54 = .ok (.iaload, 1) := by decide +kernel
theorem dX12_rule_55 : decode cX12_rule 55 = .ok (.goto 5, 3) := by decide +kernel
theorem dX12_rule_58 : decode cX12_rule 58 = .ok (.bipush (-2), 2) := by decide +kernel
theorem dX12_rule_60 : decode cX12_rule 60 = .ok (.ireturn, 1) := by decide +kernel
theorem dX12_sense_0 : decode cX12_sense 0 = .ok (.aload_n 0, 1) := by decide +kernel
theorem dX12_sense_1 : decode cX12_sense 1 = .ok (.iconst 0, 1) := by decide +kernel
theorem dX12_sense_2 : decode cX12_sense 2 = .ok (.putfield 77, 3) := by decide +kernel
theorem dX12_sense_5 : decode cX12_sense 5 = .ok (.iload_n 1, 1) := by decide +kernel
theorem dX12_sense_6 : decode cX12_sense 6 = .ok (.i2l, 1) := by decide +kernel
theorem dX12_sense_7 : decode cX12_sense 7 = .ok (.lconst 0, 1) := by decide +kernel
theorem dX12_sense_8 : decode cX12_sense 8 = .ok (.aload_n 0, 1) := by decide +kernel
theorem dX12_sense_9 : decode cX12_sense 9 = .ok (.invokevirtual 254, 3) := by decide +kernel
theorem dX12_sense_12 : decode cX12_sense 12 = .ok (.i2l, 1) := by decide +kernel
theorem dX12_sense_13 : decode cX12_sense 13 = .ok (.lconst 1, 1) := by decide +kernel
theorem dX12_sense_14 : decode cX12_sense 14 = .ok (.lsub, 1) := by decide +kernel
theorem dX12_sense_15 : decode cX12_sense 15 = .ok (.invokestatic 82, 3) := by decide +kernel
theorem dX12_sense_18 : decode cX12_sense 18 = .ok (.ifCond .eq 23, 3) := by decide +kernel
theorem dX12_sense_21 : decode cX12_sense 21 = .ok (.iload_n 2, 1) := by decide +kernel
theorem dX12_sense_22 : decode cX12_sense 22 = .ok (.invokestatic 314, 3) := by decide +kernel
theorem dX12_sense_25 : decode cX12_sense 25 = .ok (.ifCond .eq 16, 3) := by decide +kernel
theorem dX12_sense_28 : decode cX12_sense 28 = .ok (.aload_n 0, 1) := by decide +kernel
theorem dX12_sense_29 : decode cX12_sense 29 = .ok (.getfield 37, 3) := by decide +kernel
theorem dX12_sense_32 : decode cX12_sense 32 = .ok (.iconst 2, 1) := by decide +kernel
theorem dX12_sense_33 : decode cX12_sense 33 = .ok (.iload_n 1, 1) := by decide +kernel
theorem dX12_sense_34 : decode cX12_sense 34 = .ok (.imul, 1) := by decide +kernel
theorem dX12_sense_35 : decode cX12_sense 35 = .ok (.iload_n 2, 1) := by decide +kernel
theorem dX12_sense_36 : decode cX12_sense 36 = .ok (.iadd, 1) := by decide +kernel
theorem dX12_sense_37 : decode cX12_sense 37 = .ok (.iaload, 1) := by decide +kernel
theorem dX12_sense_38 : decode cX12_sense 38 = .ok (.goto 5, 3) := by decide +kernel
theorem dX12_sense_41 : decode cX12_sense 41 = .ok (.bipush (-2), 2) := by decide +kernel
theorem dX12_sense_43 : decode cX12_sense 43 = .ok (.ireturn, 1) := by decide +kernel
theorem dX12_senses_0 : decode cX12_senses 0 = .ok (.aload_n 0, 1) := by decide +kernel
theorem dX12_senses_1 : decode cX12_senses 1 = .ok (.getfield 34, 3) := by decide +kernel
theorem dX12_senses_4 : decode cX12_senses 4 = .ok (.iconst 2, 1) := by decide +kernel
theorem dX12_senses_5 : decode cX12_senses 5 = .ok (.iaload, 1) := by decide +kernel
theorem dX12_senses_6 : decode cX12_senses 6 = .ok (.ireturn, 1) := by decide +kernel
theorem dX12_texts_0 : decode cX12_texts 0 = .ok (.aload_n 0, 1) := by decide +kernel
theorem dX12_texts_1 : decode cX12_texts 1 = .ok (.getfield 34, 3) := by decide +kernel
theorem dX12_texts_4 : decode cX12_texts 4 = .ok (.iconst 4, 1) := by decide +kernel
theorem dX12_texts_5 : decode cX12_texts 5 = .ok (.iaload, 1) := by decide +kernel
theorem dX12_texts_6 : decode cX12_texts 6 = .ok (.ireturn, 1) := by decide +kernel
theorem dX12_turnOf_0 : decode cX12_turnOf 0 = .ok (.iload_n 2, 1) := by decide +kernel
theorem dX12_turnOf_1 : decode cX12_turnOf 1 = .ok (.istore_n 3, 1) := by decide +kernel
theorem dX12_turnOf_2 : decode cX12_turnOf 2 = .ok (.aload_n 0, 1) := by decide +kernel
theorem dX12_turnOf_3 : decode cX12_turnOf 3 = .ok (.getfield 40, 3) := by decide +kernel
theorem dX12_turnOf_6 : decode cX12_turnOf 6 = .ok (.iload_n 1, 1) := by decide +kernel
theorem dX12_turnOf_7 : decode cX12_turnOf 7 = .ok (.iaload, 1) := by decide +kernel
theorem dX12_turnOf_8 : decode cX12_turnOf 8 = .ok (.iconst 1, 1) := by decide +kernel
theorem dX12_turnOf_9 : decode cX12_turnOf 9 = .ok (.isub, 1) := by decide +kernel
theorem dX12_turnOf_10 : decode cX12_turnOf 10 = .ok (.istore 4, 2) := by decide +kernel
theorem dX12_turnOf_12 : decode cX12_turnOf 12 = .ok (.iload 4, 2) := by decide +kernel
theorem dX12_turnOf_14 : decode cX12_turnOf 14 = .ok (.ifCond .lt 27, 3) := by decide +kernel
theorem dX12_turnOf_17 : decode cX12_turnOf 17 = .ok (.aload_n 0, 1) := by decide +kernel
theorem dX12_turnOf_18 : decode cX12_turnOf 18 = .ok (.getfield 43, 3) := by decide +kernel
theorem dX12_turnOf_21 : decode cX12_turnOf 21 = .ok (.bipush 10, 2) := by decide +kernel
theorem dX12_turnOf_23 : decode cX12_turnOf 23 = .ok (.bipush 7, 2) := by decide +kernel
theorem dX12_turnOf_25 : decode cX12_turnOf 25 = .ok (.iload_n 1, 1) := by decide +kernel
theorem dX12_turnOf_26 : decode cX12_turnOf 26 = .ok (.imul, 1) := by decide +kernel
theorem dX12_turnOf_27 : decode cX12_turnOf 27 = .ok (.iload 4, 2) := by decide +kernel
theorem dX12_turnOf_29 : decode cX12_turnOf 29 = .ok (.iadd, 1) := by decide +kernel
theorem dX12_turnOf_30 : decode cX12_turnOf 30 = .ok (.imul, 1) := by decide +kernel
theorem dX12_turnOf_31 : decode cX12_turnOf 31 = .ok (.iload_n 3, 1) := by decide +kernel
theorem dX12_turnOf_32 : decode cX12_turnOf 32 = .ok (.iadd, 1) := by decide +kernel
theorem dX12_turnOf_33 : decode cX12_turnOf 33 = .ok (.iaload, 1) := by decide +kernel
theorem dX12_turnOf_34 : decode cX12_turnOf 34 = .ok (.istore_n 3, 1) := by decide +kernel
theorem dX12_turnOf_35 : decode cX12_turnOf 35 = .ok (.iinc 4 (-1), 3) := by decide +kernel
theorem dX12_turnOf_38 : decode cX12_turnOf 38 = .ok (.goto (-26), 3) := by decide +kernel
theorem dX12_turnOf_41 : decode cX12_turnOf 41 = .ok (.iload_n 3, 1) := by decide +kernel
theorem dX12_turnOf_42 : decode cX12_turnOf 42 = .ok (.ireturn, 1) := by decide +kernel
theorem dX12_word_0 : decode cX12_word 0 = .ok (.aload_n 0, 1) := by decide +kernel
theorem dX12_word_1 : decode cX12_word 1 = .ok (.iconst 0, 1) := by decide +kernel
theorem dX12_word_2 : decode cX12_word 2 = .ok (.putfield 77, 3) := by decide +kernel
theorem dX12_word_5 : decode cX12_word 5 = .ok (.aload_n 0, 1) := by decide +kernel
theorem dX12_word_6 : decode cX12_word 6 = .ok (.iload_n 1, 1) := by decide +kernel
theorem dX12_word_7 : decode cX12_word 7 = .ok (.i2l, 1) := by decide +kernel
theorem dX12_word_8 : decode cX12_word 8 = .ok (.invokevirtual 317, 3) := by decide +kernel
theorem dX12_word_11 : decode cX12_word 11 = .ok (.ifCond .ne 6, 3) := by decide +kernel
theorem dX12_word_14 : decode cX12_word 14 = .ok (.bipush (-2), 2) := by decide +kernel
theorem dX12_word_16 : decode cX12_word 16 = .ok (.ireturn, 1) := by decide +kernel
theorem dX12_word_17 : decode cX12_word 17 = .ok (.iload_n 2, 1) := by decide +kernel
theorem dX12_word_18 : decode cX12_word 18 = .ok (.i2l, 1) := by decide +kernel
theorem dX12_word_19 : decode cX12_word 19 = .ok (.lconst 0, 1) := by decide +kernel
theorem dX12_word_20 : decode cX12_word 20 = .ok (.aload_n 0, 1) := by decide +kernel
theorem dX12_word_21 : decode cX12_word 21 = .ok (.getfield 46, 3) := by decide +kernel
theorem dX12_word_24 : decode cX12_word 24 = .ok (.iload_n 1, 1) := by decide +kernel
theorem dX12_word_25 : decode cX12_word 25 = .ok (.iaload, 1) := by decide +kernel
theorem dX12_word_26 : decode cX12_word 26 = .ok (.i2l, 1) := by decide +kernel
theorem dX12_word_27 : decode cX12_word 27 = .ok (.lconst 1, 1) := by decide +kernel
theorem dX12_word_28 : decode cX12_word 28 = .ok (.lsub, 1) := by decide +kernel
theorem dX12_word_29 : decode cX12_word 29 = .ok (.invokestatic 82, 3) := by decide +kernel
theorem dX12_word_32 : decode cX12_word 32 = .ok (.ifCond .eq 17, 3) := by decide +kernel
theorem dX12_word_35 : decode cX12_word 35 = .ok (.aload_n 0, 1) := by decide +kernel
theorem dX12_word_36 : decode cX12_word 36 = .ok (.getfield 49, 3) := by decide +kernel
theorem dX12_word_39 : decode cX12_word 39 = .ok (.bipush 8, 2) := by decide +kernel
theorem dX12_word_41 : decode cX12_word 41 = .ok (.iload_n 1, 1) := by decide +kernel
theorem dX12_word_42 : decode cX12_word 42 = .ok (.imul, 1) := by decide +kernel
theorem dX12_word_43 : decode cX12_word 43 = .ok (.iload_n 2, 1) := by decide +kernel
theorem dX12_word_44 : decode cX12_word 44 = .ok (.iadd, 1) := by decide +kernel
theorem dX12_word_45 : decode cX12_word 45 = .ok (.iaload, 1) := by decide +kernel
theorem dX12_word_46 : decode cX12_word 46 = .ok (.goto 4, 3) := by decide +kernel
theorem dX12_word_49 : decode cX12_word 49 = .ok (.iconst (-1), 1) := by decide +kernel
theorem dX12_word_50 : decode cX12_word 50 = .ok (.ireturn, 1) := by decide +kernel
theorem dX12_words_0 : decode cX12_words 0 = .ok (.aload_n 0, 1) := by decide +kernel
theorem dX12_words_1 : decode cX12_words 1 = .ok (.invokevirtual 251, 3) := by decide +kernel
theorem dX12_words_4 : decode cX12_words 4 = .ok (.ifCond .eq 12, 3) := by decide +kernel
theorem dX12_words_7 : decode cX12_words 7 = .ok (.aload_n 0, 1) := by decide +kernel
theorem dX12_words_8 : decode cX12_words 8 = .ok (.invokevirtual 254, 3) := by decide +kernel
theorem dX12_words_11 : decode cX12_words 11 = .ok (.iconst 1, 1) := by decide +kernel
theorem dX12_words_12 : decode cX12_words 12 = .ok (.iadd, 1) := by decide +kernel
theorem dX12_words_13 : decode cX12_words 13 = .ok (.goto 4, 3) := by decide +kernel
theorem dX12_words_17 : decode cX12_words 17 = .ok (.ireturn, 1) := by decide +kernel
theorem mm_k18 : mm_rg 18 18 18 := ⟨by decide, by decide⟩
theorem mm_k192 : mm_rg 192 192 192 := ⟨by decide, by decide⟩
theorem mm_k360 : mm_rg 360 360 360 := ⟨by decide, by decide⟩
theorem mm_k72 : mm_rg 72 72 72 := ⟨by decide, by decide⟩
theorem mm_k840 : mm_rg 840 840 840 := ⟨by decide, by decide⟩
theorem mm_k90 : mm_rg 90 90 90 := ⟨by decide, by decide⟩
theorem mm_km4 : mm_rg (-4) (-4) (-4) := ⟨by decide, by decide⟩
theorem mm_kl1000000000 : mm_rl 1000000000 1000000000 1000000000 := ⟨by decide, by decide⟩
theorem hd_X12_begins : yX12_begins.cls = RX12 ∧ yX12_begins.cls ≠ "java/lang/invoke/MethodHandle" ∧ yX12_begins.cls ≠ "java/lang/invoke/VarHandle" ∧ (parseMethodDescriptor yX12_begins.desc).map (fun d => d.parameters.length) = some 0 := by decide +kernel
theorem hd_X12_clears : yX12_clears.cls = RX12 ∧ yX12_clears.cls ≠ "java/lang/invoke/MethodHandle" ∧ yX12_clears.cls ≠ "java/lang/invoke/VarHandle" ∧ (parseMethodDescriptor yX12_clears.desc).map (fun d => d.parameters.length) = some 0 := by decide +kernel
theorem hd_X12_copyBook : yX12_copyBook.cls = RX12 ∧ yX12_copyBook.cls ≠ "java/lang/invoke/MethodHandle" ∧ yX12_copyBook.cls ≠ "java/lang/invoke/VarHandle" ∧ (parseMethodDescriptor yX12_copyBook.desc).map (fun d => d.parameters.length) = some 2 := by decide +kernel
theorem hd_X12_ends : yX12_ends.cls = RX12 ∧ yX12_ends.cls ≠ "java/lang/invoke/MethodHandle" ∧ yX12_ends.cls ≠ "java/lang/invoke/VarHandle" ∧ (parseMethodDescriptor yX12_ends.desc).map (fun d => d.parameters.length) = some 0 := by decide +kernel
theorem hd_X12_isBook : yX12_isBook.cls = RX12 ∧ yX12_isBook.cls ≠ "java/lang/invoke/MethodHandle" ∧ yX12_isBook.cls ≠ "java/lang/invoke/VarHandle" ∧ (parseMethodDescriptor yX12_isBook.desc).map (fun d => d.parameters.length) = some 0 := by decide +kernel
theorem hd_X12_isGood : yX12_isGood.cls = RX12 ∧ yX12_isGood.cls ≠ "java/lang/invoke/MethodHandle" ∧ yX12_isGood.cls ≠ "java/lang/invoke/VarHandle" ∧ (parseMethodDescriptor yX12_isGood.desc).map (fun d => d.parameters.length) = some 0 := by decide +kernel
theorem hd_X12_isLand : yX12_isLand.cls = RX12 ∧ yX12_isLand.cls ≠ "java/lang/invoke/MethodHandle" ∧ yX12_isLand.cls ≠ "java/lang/invoke/VarHandle" ∧ (parseMethodDescriptor yX12_isLand.desc).map (fun d => d.parameters.length) = some 1 := by decide +kernel
theorem hd_X12_isOver : yX12_isOver.cls = RX12 ∧ yX12_isOver.cls ≠ "java/lang/invoke/MethodHandle" ∧ yX12_isOver.cls ≠ "java/lang/invoke/VarHandle" ∧ (parseMethodDescriptor yX12_isOver.desc).map (fun d => d.parameters.length) = some 0 := by decide +kernel
theorem hd_X12_isText : yX12_isText.cls = RX12 ∧ yX12_isText.cls ≠ "java/lang/invoke/MethodHandle" ∧ yX12_isText.cls ≠ "java/lang/invoke/VarHandle" ∧ (parseMethodDescriptor yX12_isText.desc).map (fun d => d.parameters.length) = some 1 := by decide +kernel
theorem hd_X12_isWord : yX12_isWord.cls = RX12 ∧ yX12_isWord.cls ≠ "java/lang/invoke/MethodHandle" ∧ yX12_isWord.cls ≠ "java/lang/invoke/VarHandle" ∧ (parseMethodDescriptor yX12_isWord.desc).map (fun d => d.parameters.length) = some 1 := by decide +kernel
theorem hd_X12_lineHere : yX12_lineHere.cls = RX12 ∧ yX12_lineHere.cls ≠ "java/lang/invoke/MethodHandle" ∧ yX12_lineHere.cls ≠ "java/lang/invoke/VarHandle" ∧ (parseMethodDescriptor yX12_lineHere.desc).map (fun d => d.parameters.length) = some 0 := by decide +kernel
theorem hd_X12_number_ : yX12_number_.cls = RX12 ∧ yX12_number_.cls ≠ "java/lang/invoke/MethodHandle" ∧ yX12_number_.cls ≠ "java/lang/invoke/VarHandle" ∧ (parseMethodDescriptor yX12_number_.desc).map (fun d => d.parameters.length) = some 3 := by decide +kernel
theorem hd_X12_senses : yX12_senses.cls = RX12 ∧ yX12_senses.cls ≠ "java/lang/invoke/MethodHandle" ∧ yX12_senses.cls ≠ "java/lang/invoke/VarHandle" ∧ (parseMethodDescriptor yX12_senses.desc).map (fun d => d.parameters.length) = some 0 := by decide +kernel
theorem hd_X12_texts : yX12_texts.cls = RX12 ∧ yX12_texts.cls ≠ "java/lang/invoke/MethodHandle" ∧ yX12_texts.cls ≠ "java/lang/invoke/VarHandle" ∧ (parseMethodDescriptor yX12_texts.desc).map (fun d => d.parameters.length) = some 0 := by decide +kernel
theorem hd_X12_turnOf : yX12_turnOf.cls = RX12 ∧ yX12_turnOf.cls ≠ "java/lang/invoke/MethodHandle" ∧ yX12_turnOf.cls ≠ "java/lang/invoke/VarHandle" ∧ (parseMethodDescriptor yX12_turnOf.desc).map (fun d => d.parameters.length) = some 2 := by decide +kernel
theorem hd_X12_words : yX12_words.cls = RX12 ∧ yX12_words.cls ≠ "java/lang/invoke/MethodHandle" ∧ yX12_words.cls ≠ "java/lang/invoke/VarHandle" ∧ (parseMethodDescriptor yX12_words.desc).map (fun d => d.parameters.length) = some 0 := by decide +kernel
theorem hs_X12_common : yX12_common.cls ≠ "java/lang/invoke/MethodHandle" ∧ yX12_common.cls ≠ "java/lang/invoke/VarHandle" ∧ (parseMethodDescriptor yX12_common.desc).map (fun d => d.parameters.length) = some 2 := by decide +kernel
theorem hs_X12_copyRow : yX12_copyRow.cls ≠ "java/lang/invoke/MethodHandle" ∧ yX12_copyRow.cls ≠ "java/lang/invoke/VarHandle" ∧ (parseMethodDescriptor yX12_copyRow.desc).map (fun d => d.parameters.length) = some 4 := by decide +kernel
theorem hs_X12_isDay : yX12_isDay.cls ≠ "java/lang/invoke/MethodHandle" ∧ yX12_isDay.cls ≠ "java/lang/invoke/VarHandle" ∧ (parseMethodDescriptor yX12_isDay.desc).map (fun d => d.parameters.length) = some 1 := by decide +kernel
theorem hs_X12_isHalf : yX12_isHalf.cls ≠ "java/lang/invoke/MethodHandle" ∧ yX12_isHalf.cls ≠ "java/lang/invoke/VarHandle" ∧ (parseMethodDescriptor yX12_isHalf.desc).map (fun d => d.parameters.length) = some 1 := by decide +kernel
set_option maxHeartbeats 4000000 in
set_option maxRecDepth 100000 in
theorem M80_X12_isOver (l : Launch) (G : va_G) (cy : Nat → ClassId) (sz : Nat) (a_0 : Nat) (i_0 : Int32) (a_1 : Nat) (a_2 : Nat) (a_3 : Nat) (a_4 : Nat) (a_5 : Nat) (i_1 : Int32) (i_2 : Int32) (i_3 : Int32) (i_4 : Int32) (i_5 : Int32) (j_0 : Int64) (i_6 : Int32) (i_7 : Int32) (i_8 : Int32) (i_9 : Int32) (a_6 : Nat) (a_7 : Nat) (a_8 : Nat) (a_9 : Nat) (a_10 : Nat) (a_11 : Nat) (a_12 : Nat) (a_13 : Nat) (a_14 : Nat) (a_15 : Nat) (a_16 : Nat) (a_17 : Nat) (a_18 : Nat) (i_10 : Int32) (i_11 : Int32) (i_12 : Int32) (i_13 : Int32) (i_14 : Int32) (i_15 : Int32) (a_19 : Nat) (i_16 : Int32) (a_20 : Nat) (h0 : mm_rg i_1 0 600) (h1 : mm_rg i_6 0 3)  : mm_CV l yX12_isOver (mm_ws yX12_isOver cX12_isOver 1 (none)) ({ frames := 0, cells := 0, slots := 0, locals := 0 } : Room) G cy sz [(a_0, .inr (12, [.int i_0, .ref a_1, .ref a_2, .ref a_3, .ref a_4, .ref a_5, .int i_1, .int i_2, .int i_3, .int i_4, .int i_5, .long j_0, .int i_6, .int i_7, .int i_8, .int i_9, .ref a_6, .ref a_7, .ref a_8, .ref a_9, .ref a_10, .ref a_11, .ref a_12, .ref a_13, .ref a_14, .ref a_15, .ref a_16, .ref a_17, .ref a_18, .int i_10, .int i_11, .int i_12, .int i_13, .int i_14, .int i_15, .ref a_19, .int i_16, .ref a_20]))] [.ref a_0] (fun u : Int32 => [(a_0, .inr (12, [.int i_0, .ref a_1, .ref a_2, .ref a_3, .ref a_4, .ref a_5, .int 0, .int i_2, .int i_3, .int i_4, .int i_5, .long j_0, .int i_6, .int i_7, .int i_6, .int u, .ref a_6, .ref a_7, .ref a_8, .ref a_9, .ref a_10, .ref a_11, .ref a_12, .ref a_13, .ref a_14, .ref a_15, .ref a_16, .ref a_17, .ref a_18, .int i_10, .int i_11, .int i_12, .int i_13, .int i_14, .int i_15, .ref a_19, .int i_16, .ref a_20]))]) (fun u : Int32 => True) 0 0 := by
  refine mm_begin (lv := [(0, .ref a_0)]) (by decide) (Nat.le_of_ble_eq_true rfl) rfl ?_
  intro p e s m below meth c A ls R args Q H locs hRe hQ hAe hx hb hr hlocks hml hown hnm hts hsz hA hS hP hK hD hZ hl
  have hRf : R.frames = 0 := by rw [hRe]
  have hRl : R.locals = 0 := by rw [hRe]
  have hRc : R.cells = 0 := by rw [hRe]
  have hRs : R.slots = 0 := by rw [hRe]
  refine lv_aload_n hx hb dX12_isOver_0 rfl (lv_at hl 0 rfl) ?_
  refine lv_iconst (v := 0) hx hb dX12_isOver_1 (by decide) ?_
  refine va_put (D := G) (ci := 12) (v := .int 0) (ty := tyX12 6) (C := RX12) (T := TX12) (N := 38) hx hb hts (mm_i inlX12) tyX12 tyX12_ok nmX12 hown hK.1 hP hD hS 0 rfl rfl 6 (by decide) (mm_h hts mm_w178) (fun _ h9 => h9) rfl (tyX12_ok 6 (by decide)) rfl rfl (Nat.le_of_ble_eq_true rfl) dX12_isOver_2 ?_
  clear hP hD hS
  clear H locs
  intro H locs (hP : va_P G vwCl [(a_0, .inr (12, [.int i_0, .ref a_1, .ref a_2, .ref a_3, .ref a_4, .ref a_5, .int 0, .int i_2, .int i_3, .int i_4, .int i_5, .long j_0, .int i_6, .int i_7, .int i_8, .int i_9, .ref a_6, .ref a_7, .ref a_8, .ref a_9, .ref a_10, .ref a_11, .ref a_12, .ref a_13, .ref a_14, .ref a_15, .ref a_16, .ref a_17, .ref a_18, .int i_10, .int i_11, .int i_12, .int i_13, .int i_14, .int i_15, .ref a_19, .int i_16, .ref a_20]))] H) (hD : va_D A [(a_0, .inr (12, [.int i_0, .ref a_1, .ref a_2, .ref a_3, .ref a_4, .ref a_5, .int 0, .int i_2, .int i_3, .int i_4, .int i_5, .long j_0, .int i_6, .int i_7, .int i_8, .int i_9, .ref a_6, .ref a_7, .ref a_8, .ref a_9, .ref a_10, .ref a_11, .ref a_12, .ref a_13, .ref a_14, .ref a_15, .ref a_16, .ref a_17, .ref a_18, .int i_10, .int i_11, .int i_12, .int i_13, .int i_14, .int i_15, .ref a_19, .int i_16, .ref a_20]))]) hS
  refine lv_aload_n hx hb dX12_isOver_5 rfl (lv_at hl 0 rfl) ?_
  refine lv_aload_n hx hb dX12_isOver_6 rfl (lv_at hl 0 rfl) ?_
  refine va_get (D := G) (ci := 12) (v := .int i_6) (C := RX12) (T := TX12) (N := 38) hx hb hts (mm_i inlX12) hown hK.1 hP 0 rfl rfl 12 (by decide) (mm_h hts mm_w436) (fun _ h9 => h9) rfl dX12_isOver_7 ?_
  refine va_put (D := G) (ci := 12) (v := .int i_6) (ty := tyX12 14) (C := RX12) (T := TX12) (N := 38) hx hb hts (mm_i inlX12) tyX12 tyX12_ok nmX12 hown hK.1 hP hD hS 0 rfl rfl 14 (by decide) (mm_h hts mm_w552) (fun _ h9 => h9) rfl (tyX12_ok 14 (by decide)) rfl rfl (Nat.le_of_ble_eq_true rfl) dX12_isOver_10 ?_
  clear hP hD hS
  clear H locs
  intro H locs (hP : va_P G vwCl [(a_0, .inr (12, [.int i_0, .ref a_1, .ref a_2, .ref a_3, .ref a_4, .ref a_5, .int 0, .int i_2, .int i_3, .int i_4, .int i_5, .long j_0, .int i_6, .int i_7, .int i_6, .int i_9, .ref a_6, .ref a_7, .ref a_8, .ref a_9, .ref a_10, .ref a_11, .ref a_12, .ref a_13, .ref a_14, .ref a_15, .ref a_16, .ref a_17, .ref a_18, .int i_10, .int i_11, .int i_12, .int i_13, .int i_14, .int i_15, .ref a_19, .int i_16, .ref a_20]))] H) (hD : va_D A [(a_0, .inr (12, [.int i_0, .ref a_1, .ref a_2, .ref a_3, .ref a_4, .ref a_5, .int 0, .int i_2, .int i_3, .int i_4, .int i_5, .long j_0, .int i_6, .int i_7, .int i_6, .int i_9, .ref a_6, .ref a_7, .ref a_8, .ref a_9, .ref a_10, .ref a_11, .ref a_12, .ref a_13, .ref a_14, .ref a_15, .ref a_16, .ref a_17, .ref a_18, .int i_10, .int i_11, .int i_12, .int i_13, .int i_14, .int i_15, .ref a_19, .int i_16, .ref a_20]))]) hS
  refine lv_aload_n hx hb dX12_isOver_13 rfl (lv_at hl 0 rfl) ?_
  refine lv_aload_n hx hb dX12_isOver_14 rfl (lv_at hl 0 rfl) ?_
  refine va_get (D := G) (ci := 12) (v := .int i_6) (C := RX12) (T := TX12) (N := 38) hx hb hts (mm_i inlX12) hown hK.1 hP 0 rfl rfl 12 (by decide) (mm_h hts mm_w436) (fun _ h9 => h9) rfl dX12_isOver_15 ?_
  refine lv_if_ne (tgt := 25) hx hb dX12_isOver_18 (by decide) (fun c1 => ?_) (fun c1 => ?_)
  · have q2 := mm_neL (lo := 1) (mm_ne c1) h1 mm_k0 (by decide) (by decide)
    refine lv_aload_n hx hb dX12_isOver_25 rfl (lv_at hl 0 rfl) ?_
    refine va_get (D := G) (ci := 12) (v := .int i_7) (C := RX12) (T := TX12) (N := 38) hx hb hts (mm_i inlX12) hown hK.1 hP 0 rfl rfl 13 (by decide) (mm_h hts mm_w449) (fun _ h9 => h9) rfl dX12_isOver_26 ?_
    refine va_put (D := G) (ci := 12) (v := .int i_7) (ty := tyX12 15) (C := RX12) (T := TX12) (N := 38) hx hb hts (mm_i inlX12) tyX12 tyX12_ok nmX12 hown hK.1 hP hD hS 0 rfl rfl 15 (by decide) (mm_h hts mm_w147) (fun _ h9 => h9) rfl (tyX12_ok 15 (by decide)) rfl rfl (Nat.le_of_ble_eq_true rfl) dX12_isOver_29 ?_
    clear hP hD hS
    clear H locs
    intro H locs (hP : va_P G vwCl [(a_0, .inr (12, [.int i_0, .ref a_1, .ref a_2, .ref a_3, .ref a_4, .ref a_5, .int 0, .int i_2, .int i_3, .int i_4, .int i_5, .long j_0, .int i_6, .int i_7, .int i_6, .int i_7, .ref a_6, .ref a_7, .ref a_8, .ref a_9, .ref a_10, .ref a_11, .ref a_12, .ref a_13, .ref a_14, .ref a_15, .ref a_16, .ref a_17, .ref a_18, .int i_10, .int i_11, .int i_12, .int i_13, .int i_14, .int i_15, .ref a_19, .int i_16, .ref a_20]))] H) (hD : va_D A [(a_0, .inr (12, [.int i_0, .ref a_1, .ref a_2, .ref a_3, .ref a_4, .ref a_5, .int 0, .int i_2, .int i_3, .int i_4, .int i_5, .long j_0, .int i_6, .int i_7, .int i_6, .int i_7, .ref a_6, .ref a_7, .ref a_8, .ref a_9, .ref a_10, .ref a_11, .ref a_12, .ref a_13, .ref a_14, .ref a_15, .ref a_16, .ref a_17, .ref a_18, .int i_10, .int i_11, .int i_12, .int i_13, .int i_14, .int i_15, .ref a_19, .int i_16, .ref a_20]))]) hS
    subst hAe
    rw [hQ]
    exact W.vret hx hb hr (fun t ht hW => ⟨⟨i_7, rfl, trivial, by rw [ht]; exact hP, hK.warm hW, hD⟩, hS.F ht⟩) hS.2.2 dX12_isOver_32
  · have q3 := mm_eqI (lo := 0) (hi := 0) c1 h1 mm_k0 (by decide)
    refine lv_iconst (v := (-1)) hx hb dX12_isOver_21 (by decide) ?_
    refine lv_goto (tgt := 29) hx hb dX12_isOver_22 (by decide) ?_
    refine va_put (D := G) (ci := 12) (v := .int (-1)) (ty := tyX12 15) (C := RX12) (T := TX12) (N := 38) hx hb hts (mm_i inlX12) tyX12 tyX12_ok nmX12 hown hK.1 hP hD hS 0 rfl rfl 15 (by decide) (mm_h hts mm_w147) (fun _ h9 => h9) rfl (tyX12_ok 15 (by decide)) rfl rfl (Nat.le_of_ble_eq_true rfl) dX12_isOver_29 ?_
    clear hP hD hS
    clear H locs
    intro H locs (hP : va_P G vwCl [(a_0, .inr (12, [.int i_0, .ref a_1, .ref a_2, .ref a_3, .ref a_4, .ref a_5, .int 0, .int i_2, .int i_3, .int i_4, .int i_5, .long j_0, .int i_6, .int i_7, .int i_6, .int (-1), .ref a_6, .ref a_7, .ref a_8, .ref a_9, .ref a_10, .ref a_11, .ref a_12, .ref a_13, .ref a_14, .ref a_15, .ref a_16, .ref a_17, .ref a_18, .int i_10, .int i_11, .int i_12, .int i_13, .int i_14, .int i_15, .ref a_19, .int i_16, .ref a_20]))] H) (hD : va_D A [(a_0, .inr (12, [.int i_0, .ref a_1, .ref a_2, .ref a_3, .ref a_4, .ref a_5, .int 0, .int i_2, .int i_3, .int i_4, .int i_5, .long j_0, .int i_6, .int i_7, .int i_6, .int (-1), .ref a_6, .ref a_7, .ref a_8, .ref a_9, .ref a_10, .ref a_11, .ref a_12, .ref a_13, .ref a_14, .ref a_15, .ref a_16, .ref a_17, .ref a_18, .int i_10, .int i_11, .int i_12, .int i_13, .int i_14, .int i_15, .ref a_19, .int i_16, .ref a_20]))]) hS
    subst hAe
    rw [hQ]
    exact W.vret hx hb hr (fun t ht hW => ⟨⟨(-1), rfl, trivial, by rw [ht]; exact hP, hK.warm hW, hD⟩, hS.F ht⟩) hS.2.2 dX12_isOver_32

set_option maxHeartbeats 4000000 in
set_option maxRecDepth 100000 in
theorem M81_X12_copyRow (l : Launch) (G : va_G) (cy : Nat → ClassId) (sz : Nat) (a_0 : Nat) (i_0 : Int32) (i_1 : Int32) (i_2 : Int32) (i_3 : Int32) (i_4 : Int32) (h0 : mm_rg i_0 0 601) (h1 : mm_rg i_1 0 601) (h2 : mm_rg i_2 0 601) (h3 : mm_rg i_3 0 601) (h4 : mm_rg i_4 0 601)  : mm_CV l yX12_copyRow (mm_ws yX12_copyRow cX12_copyRow 5 (none)) ({ frames := 0, cells := 0, slots := 0, locals := 0 } : Room) G cy sz [(a_0, .inl (cy 1, 5, .inl (mm_g [i_0, i_1, i_2, i_3, i_4])))] [.ref a_0, .int 1, .int 4, .int 0] (fun u : Unit => [(a_0, .inl (cy 1, 5, .inl (mm_g [i_4, i_1, i_2, i_3, i_4])))]) (fun u : Unit => True) 0 0 := by
  refine mm_begin (lv := [(0, .ref a_0), (1, .int 1), (2, .int 4), (3, .int 0)]) (by decide) (Nat.le_of_ble_eq_true rfl) rfl ?_
  intro p e s m below meth c A ls R args Q H locs hRe hQ hAe hx hb hr hlocks hml hown hnm hts hsz hA hS hP hK hD hZ hl
  have hRf : R.frames = 0 := by rw [hRe]
  have hRl : R.locals = 0 := by rw [hRe]
  have hRc : R.cells = 0 := by rw [hRe]
  have hRs : R.slots = 0 := by rw [hRe]
  refine lv_iconst (v := 0) hx hb dX12_copyRow_0 (by decide) ?_
  refine lv_istore (lv' := [(4, .int 0), (0, .ref a_0), (1, .int 1), (2, .int 4), (3, .int 0)]) hx hb dX12_copyRow_1 hl (by decide) rfl ?_
  clear hl
  clear ls
  intro ls hl
  refine lv_iload hx hb dX12_copyRow_3 (lv_at hl 0 rfl) ?_
  refine lv_iload_n hx hb dX12_copyRow_5 rfl (lv_at hl 2 rfl) ?_
  refine lv_icmp_ge (tgt := 31) hx hb dX12_copyRow_6 (by decide) (fun c1 => ?_) (fun c1 => ?_)
  · have q2 := mm_leL (mm_le c1) mm_k1 mm_k0
    exact mm_no q2 (by decide)
  · refine lv_aload_n hx hb dX12_copyRow_9 rfl (lv_at hl 1 rfl) ?_
    refine lv_iload_n hx hb dX12_copyRow_10 rfl (lv_at hl 2 rfl) ?_
    refine lv_iload_n hx hb dX12_copyRow_11 rfl (lv_at hl 4 rfl) ?_
    refine lv_imul hx hb dX12_copyRow_12 ?_
    refine lv_topi (fun v3 ev3 => ?_)
    obtain rfl : v3 = 0 := ev3.trans (by decide)
    refine lv_iload hx hb dX12_copyRow_13 (lv_at hl 0 rfl) ?_
    refine lv_iadd hx hb dX12_copyRow_15 ?_
    refine lv_topi (fun v4 ev4 => ?_)
    obtain rfl : v4 = 0 := ev4.trans (by decide)
    refine lv_aload_n hx hb dX12_copyRow_16 rfl (lv_at hl 1 rfl) ?_
    refine lv_iload_n hx hb dX12_copyRow_17 rfl (lv_at hl 2 rfl) ?_
    refine lv_iload_n hx hb dX12_copyRow_18 rfl (lv_at hl 3 rfl) ?_
    refine lv_imul hx hb dX12_copyRow_19 ?_
    refine lv_topi (fun v5 ev5 => ?_)
    obtain rfl : v5 = 4 := ev5.trans (by decide)
    refine lv_iload hx hb dX12_copyRow_20 (lv_at hl 0 rfl) ?_
    refine lv_iadd hx hb dX12_copyRow_22 ?_
    refine lv_topi (fun v6 ev6 => ?_)
    obtain rfl : v6 = 4 := ev6.trans (by decide)
    refine va_iald hx hb hK.1 hP 0 1 rfl rfl (mm_in mm_k4 (by decide)) dX12_copyRow_23 ?_
    rw [show (mm_g [i_0, i_1, i_2, i_3, i_4]) (4 : Int32).toNatClampNeg = i_4 from mm_ge 4 (by decide) rfl]
    refine va_iast hx hb hK.1 hP hD hS 0 1 rfl rfl (mm_in mm_k0 (by decide)) dX12_copyRow_24 ?_
    clear hP hD hS
    clear H locs
    rw [show upd (mm_g [i_0, i_1, i_2, i_3, i_4]) (0 : Int32).toNatClampNeg i_4 = (mm_g [i_4, i_1, i_2, i_3, i_4]) from mm_gs2 0 5 (by decide) rfl rfl rfl]
    intro H locs (hP : va_P G vwCl [(a_0, .inl (cy 1, 5, .inl (mm_g [i_4, i_1, i_2, i_3, i_4])))] H) (hD : va_D A [(a_0, .inl (cy 1, 5, .inl (mm_g [i_4, i_1, i_2, i_3, i_4])))]) hS
    refine lv_iinc (v := 1) (lv' := [(4, .int 1), (0, .ref a_0), (1, .int 1), (2, .int 4), (3, .int 0)]) hx hb dX12_copyRow_25 hl (k := 0) rfl (by decide) (by decide) rfl ?_
    clear hl
    clear ls
    intro ls hl
    refine lv_goto (tgt := 3) hx hb dX12_copyRow_28 (by decide) ?_
    refine lv_iload hx hb dX12_copyRow_3 (lv_at hl 0 rfl) ?_
    refine lv_iload_n hx hb dX12_copyRow_5 rfl (lv_at hl 2 rfl) ?_
    refine lv_icmp_ge (tgt := 31) hx hb dX12_copyRow_6 (by decide) (fun c7 => ?_) (fun c7 => ?_)
    · subst hAe
      rw [hQ]
      exact W.vret hx hb hr (fun t ht hW => ⟨⟨(), rfl, trivial, by rw [ht]; exact hP, hK.warm hW, hD⟩, hS.F ht⟩) hS.2.2 dX12_copyRow_31
    · have q8 := mm_ltL (h := 0) (mm_nle c7) mm_k1 mm_k1 (by decide)
      exact mm_no q8 (by decide)

set_option maxHeartbeats 4000000 in
set_option maxRecDepth 100000 in
theorem M82_X12_copyRow (l : Launch) (G : va_G) (cy : Nat → ClassId) (sz : Nat) (a_0 : Nat) (i_0 : Int32) (i_1 : Int32) (i_2 : Int32) (i_3 : Int32) (i_4 : Int32) (i_5 : Int32) (i_6 : Int32) (i_7 : Int32) (i_8 : Int32) (i_9 : Int32) (i_10 : Int32) (i_11 : Int32) (i_12 : Int32) (i_13 : Int32) (i_14 : Int32) (i_15 : Int32) (i_16 : Int32) (i_17 : Int32) (i_18 : Int32) (i_19 : Int32) (i_20 : Int32) (i_21 : Int32) (i_22 : Int32) (i_23 : Int32) (i_24 : Int32) (i_25 : Int32) (i_26 : Int32) (i_27 : Int32) (i_28 : Int32) (i_29 : Int32) (h0 : mm_rg i_0 0 10) (h1 : mm_rg i_1 0 99) (h2 : mm_rg i_2 0 9) (h3 : mm_rg i_3 0 3) (h4 : mm_rg i_4 0 6) (h5 : mm_rg i_5 0 30) (h6 : mm_rg i_6 0 10) (h7 : mm_rg i_7 0 99) (h8 : mm_rg i_8 0 9) (h9 : mm_rg i_9 0 3) (h10 : mm_rg i_10 0 6) (h11 : mm_rg i_11 0 30) (h12 : mm_rg i_12 0 10) (h13 : mm_rg i_13 0 99) (h14 : mm_rg i_14 0 9) (h15 : mm_rg i_15 0 3) (h16 : mm_rg i_16 0 6) (h17 : mm_rg i_17 0 30) (h18 : mm_rg i_18 0 10) (h19 : mm_rg i_19 0 99) (h20 : mm_rg i_20 0 9) (h21 : mm_rg i_21 0 3) (h22 : mm_rg i_22 0 6) (h23 : mm_rg i_23 0 30) (h24 : mm_rg i_24 0 10) (h25 : mm_rg i_25 0 99) (h26 : mm_rg i_26 0 9) (h27 : mm_rg i_27 0 3) (h28 : mm_rg i_28 0 6) (h29 : mm_rg i_29 0 30)  : mm_CV l yX12_copyRow (mm_ws yX12_copyRow cX12_copyRow 5 (none)) ({ frames := 0, cells := 0, slots := 0, locals := 0 } : Room) G cy sz [(a_0, .inl (cy 1, 30, .inl (mm_g [i_0, i_1, i_2, i_3, i_4, i_5, i_6, i_7, i_8, i_9, i_10, i_11, i_12, i_13, i_14, i_15, i_16, i_17, i_18, i_19, i_20, i_21, i_22, i_23, i_24, i_25, i_26, i_27, i_28, i_29])))] [.ref a_0, .int 6, .int 4, .int 0] (fun u : Unit => [(a_0, .inl (cy 1, 30, .inl (mm_g [i_24, i_25, i_26, i_27, i_28, i_29, i_6, i_7, i_8, i_9, i_10, i_11, i_12, i_13, i_14, i_15, i_16, i_17, i_18, i_19, i_20, i_21, i_22, i_23, i_24, i_25, i_26, i_27, i_28, i_29])))]) (fun u : Unit => True) 0 0 := by
  refine mm_begin (lv := [(0, .ref a_0), (1, .int 6), (2, .int 4), (3, .int 0)]) (by decide) (Nat.le_of_ble_eq_true rfl) rfl ?_
  intro p e s m below meth c A ls R args Q H locs hRe hQ hAe hx hb hr hlocks hml hown hnm hts hsz hA hS hP hK hD hZ hl
  have hRf : R.frames = 0 := by rw [hRe]
  have hRl : R.locals = 0 := by rw [hRe]
  have hRc : R.cells = 0 := by rw [hRe]
  have hRs : R.slots = 0 := by rw [hRe]
  refine lv_iconst (v := 0) hx hb dX12_copyRow_0 (by decide) ?_
  refine lv_istore (lv' := [(4, .int 0), (0, .ref a_0), (1, .int 6), (2, .int 4), (3, .int 0)]) hx hb dX12_copyRow_1 hl (by decide) rfl ?_
  clear hl
  clear ls
  intro ls hl
  refine lv_iload hx hb dX12_copyRow_3 (lv_at hl 0 rfl) ?_
  refine lv_iload_n hx hb dX12_copyRow_5 rfl (lv_at hl 2 rfl) ?_
  refine lv_icmp_ge (tgt := 31) hx hb dX12_copyRow_6 (by decide) (fun c1 => ?_) (fun c1 => ?_)
  · have q2 := mm_leL (mm_le c1) mm_k6 mm_k0
    exact mm_no q2 (by decide)
  · refine lv_aload_n hx hb dX12_copyRow_9 rfl (lv_at hl 1 rfl) ?_
    refine lv_iload_n hx hb dX12_copyRow_10 rfl (lv_at hl 2 rfl) ?_
    refine lv_iload_n hx hb dX12_copyRow_11 rfl (lv_at hl 4 rfl) ?_
    refine lv_imul hx hb dX12_copyRow_12 ?_
    refine lv_topi (fun v3 ev3 => ?_)
    obtain rfl : v3 = 0 := ev3.trans (by decide)
    refine lv_iload hx hb dX12_copyRow_13 (lv_at hl 0 rfl) ?_
    refine lv_iadd hx hb dX12_copyRow_15 ?_
    refine lv_topi (fun v4 ev4 => ?_)
    obtain rfl : v4 = 0 := ev4.trans (by decide)
    refine lv_aload_n hx hb dX12_copyRow_16 rfl (lv_at hl 1 rfl) ?_
    refine lv_iload_n hx hb dX12_copyRow_17 rfl (lv_at hl 2 rfl) ?_
    refine lv_iload_n hx hb dX12_copyRow_18 rfl (lv_at hl 3 rfl) ?_
    refine lv_imul hx hb dX12_copyRow_19 ?_
    refine lv_topi (fun v5 ev5 => ?_)
    obtain rfl : v5 = 24 := ev5.trans (by decide)
    refine lv_iload hx hb dX12_copyRow_20 (lv_at hl 0 rfl) ?_
    refine lv_iadd hx hb dX12_copyRow_22 ?_
    refine lv_topi (fun v6 ev6 => ?_)
    obtain rfl : v6 = 24 := ev6.trans (by decide)
    refine va_iald hx hb hK.1 hP 0 1 rfl rfl (mm_in mm_k24 (by decide)) dX12_copyRow_23 ?_
    rw [show (mm_g [i_0, i_1, i_2, i_3, i_4, i_5, i_6, i_7, i_8, i_9, i_10, i_11, i_12, i_13, i_14, i_15, i_16, i_17, i_18, i_19, i_20, i_21, i_22, i_23, i_24, i_25, i_26, i_27, i_28, i_29]) (24 : Int32).toNatClampNeg = i_24 from mm_ge 24 (by decide) rfl]
    refine va_iast hx hb hK.1 hP hD hS 0 1 rfl rfl (mm_in mm_k0 (by decide)) dX12_copyRow_24 ?_
    clear hP hD hS
    clear H locs
    rw [show upd (mm_g [i_0, i_1, i_2, i_3, i_4, i_5, i_6, i_7, i_8, i_9, i_10, i_11, i_12, i_13, i_14, i_15, i_16, i_17, i_18, i_19, i_20, i_21, i_22, i_23, i_24, i_25, i_26, i_27, i_28, i_29]) (0 : Int32).toNatClampNeg i_24 = (mm_g [i_24, i_1, i_2, i_3, i_4, i_5, i_6, i_7, i_8, i_9, i_10, i_11, i_12, i_13, i_14, i_15, i_16, i_17, i_18, i_19, i_20, i_21, i_22, i_23, i_24, i_25, i_26, i_27, i_28, i_29]) from mm_gs2 0 30 (by decide) rfl rfl rfl]
    intro H locs (hP : va_P G vwCl [(a_0, .inl (cy 1, 30, .inl (mm_g [i_24, i_1, i_2, i_3, i_4, i_5, i_6, i_7, i_8, i_9, i_10, i_11, i_12, i_13, i_14, i_15, i_16, i_17, i_18, i_19, i_20, i_21, i_22, i_23, i_24, i_25, i_26, i_27, i_28, i_29])))] H) (hD : va_D A [(a_0, .inl (cy 1, 30, .inl (mm_g [i_24, i_1, i_2, i_3, i_4, i_5, i_6, i_7, i_8, i_9, i_10, i_11, i_12, i_13, i_14, i_15, i_16, i_17, i_18, i_19, i_20, i_21, i_22, i_23, i_24, i_25, i_26, i_27, i_28, i_29])))]) hS
    refine lv_iinc (v := 1) (lv' := [(4, .int 1), (0, .ref a_0), (1, .int 6), (2, .int 4), (3, .int 0)]) hx hb dX12_copyRow_25 hl (k := 0) rfl (by decide) (by decide) rfl ?_
    clear hl
    clear ls
    intro ls hl
    refine lv_goto (tgt := 3) hx hb dX12_copyRow_28 (by decide) ?_
    refine lv_iload hx hb dX12_copyRow_3 (lv_at hl 0 rfl) ?_
    refine lv_iload_n hx hb dX12_copyRow_5 rfl (lv_at hl 2 rfl) ?_
    refine lv_icmp_ge (tgt := 31) hx hb dX12_copyRow_6 (by decide) (fun c7 => ?_) (fun c7 => ?_)
    · have q8 := mm_leL (mm_le c7) mm_k6 mm_k1
      exact mm_no q8 (by decide)
    · refine lv_aload_n hx hb dX12_copyRow_9 rfl (lv_at hl 1 rfl) ?_
      refine lv_iload_n hx hb dX12_copyRow_10 rfl (lv_at hl 2 rfl) ?_
      refine lv_iload_n hx hb dX12_copyRow_11 rfl (lv_at hl 4 rfl) ?_
      refine lv_imul hx hb dX12_copyRow_12 ?_
      refine lv_topi (fun v9 ev9 => ?_)
      obtain rfl : v9 = 0 := ev9.trans (by decide)
      refine lv_iload hx hb dX12_copyRow_13 (lv_at hl 0 rfl) ?_
      refine lv_iadd hx hb dX12_copyRow_15 ?_
      refine lv_topi (fun v10 ev10 => ?_)
      obtain rfl : v10 = 1 := ev10.trans (by decide)
      refine lv_aload_n hx hb dX12_copyRow_16 rfl (lv_at hl 1 rfl) ?_
      refine lv_iload_n hx hb dX12_copyRow_17 rfl (lv_at hl 2 rfl) ?_
      refine lv_iload_n hx hb dX12_copyRow_18 rfl (lv_at hl 3 rfl) ?_
      refine lv_imul hx hb dX12_copyRow_19 ?_
      refine lv_topi (fun v11 ev11 => ?_)
      obtain rfl : v11 = 24 := ev11.trans (by decide)
      refine lv_iload hx hb dX12_copyRow_20 (lv_at hl 0 rfl) ?_
      refine lv_iadd hx hb dX12_copyRow_22 ?_
      refine lv_topi (fun v12 ev12 => ?_)
      obtain rfl : v12 = 25 := ev12.trans (by decide)
      refine va_iald hx hb hK.1 hP 0 1 rfl rfl (mm_in mm_k25 (by decide)) dX12_copyRow_23 ?_
      rw [show (mm_g [i_24, i_1, i_2, i_3, i_4, i_5, i_6, i_7, i_8, i_9, i_10, i_11, i_12, i_13, i_14, i_15, i_16, i_17, i_18, i_19, i_20, i_21, i_22, i_23, i_24, i_25, i_26, i_27, i_28, i_29]) (25 : Int32).toNatClampNeg = i_25 from mm_ge 25 (by decide) rfl]
      refine va_iast hx hb hK.1 hP hD hS 0 1 rfl rfl (mm_in mm_k1 (by decide)) dX12_copyRow_24 ?_
      clear hP hD hS
      clear H locs
      rw [show upd (mm_g [i_24, i_1, i_2, i_3, i_4, i_5, i_6, i_7, i_8, i_9, i_10, i_11, i_12, i_13, i_14, i_15, i_16, i_17, i_18, i_19, i_20, i_21, i_22, i_23, i_24, i_25, i_26, i_27, i_28, i_29]) (1 : Int32).toNatClampNeg i_25 = (mm_g [i_24, i_25, i_2, i_3, i_4, i_5, i_6, i_7, i_8, i_9, i_10, i_11, i_12, i_13, i_14, i_15, i_16, i_17, i_18, i_19, i_20, i_21, i_22, i_23, i_24, i_25, i_26, i_27, i_28, i_29]) from mm_gs2 1 30 (by decide) rfl rfl rfl]
      intro H locs (hP : va_P G vwCl [(a_0, .inl (cy 1, 30, .inl (mm_g [i_24, i_25, i_2, i_3, i_4, i_5, i_6, i_7, i_8, i_9, i_10, i_11, i_12, i_13, i_14, i_15, i_16, i_17, i_18, i_19, i_20, i_21, i_22, i_23, i_24, i_25, i_26, i_27, i_28, i_29])))] H) (hD : va_D A [(a_0, .inl (cy 1, 30, .inl (mm_g [i_24, i_25, i_2, i_3, i_4, i_5, i_6, i_7, i_8, i_9, i_10, i_11, i_12, i_13, i_14, i_15, i_16, i_17, i_18, i_19, i_20, i_21, i_22, i_23, i_24, i_25, i_26, i_27, i_28, i_29])))]) hS
      refine lv_iinc (v := 2) (lv' := [(4, .int 2), (0, .ref a_0), (1, .int 6), (2, .int 4), (3, .int 0)]) hx hb dX12_copyRow_25 hl (k := 0) rfl (by decide) (by decide) rfl ?_
      clear hl
      clear ls
      intro ls hl
      refine lv_goto (tgt := 3) hx hb dX12_copyRow_28 (by decide) ?_
      refine lv_iload hx hb dX12_copyRow_3 (lv_at hl 0 rfl) ?_
      refine lv_iload_n hx hb dX12_copyRow_5 rfl (lv_at hl 2 rfl) ?_
      refine lv_icmp_ge (tgt := 31) hx hb dX12_copyRow_6 (by decide) (fun c13 => ?_) (fun c13 => ?_)
      · have q14 := mm_leL (mm_le c13) mm_k6 mm_k2
        exact mm_no q14 (by decide)
      · refine lv_aload_n hx hb dX12_copyRow_9 rfl (lv_at hl 1 rfl) ?_
        refine lv_iload_n hx hb dX12_copyRow_10 rfl (lv_at hl 2 rfl) ?_
        refine lv_iload_n hx hb dX12_copyRow_11 rfl (lv_at hl 4 rfl) ?_
        refine lv_imul hx hb dX12_copyRow_12 ?_
        refine lv_topi (fun v15 ev15 => ?_)
        obtain rfl : v15 = 0 := ev15.trans (by decide)
        refine lv_iload hx hb dX12_copyRow_13 (lv_at hl 0 rfl) ?_
        refine lv_iadd hx hb dX12_copyRow_15 ?_
        refine lv_topi (fun v16 ev16 => ?_)
        obtain rfl : v16 = 2 := ev16.trans (by decide)
        refine lv_aload_n hx hb dX12_copyRow_16 rfl (lv_at hl 1 rfl) ?_
        refine lv_iload_n hx hb dX12_copyRow_17 rfl (lv_at hl 2 rfl) ?_
        refine lv_iload_n hx hb dX12_copyRow_18 rfl (lv_at hl 3 rfl) ?_
        refine lv_imul hx hb dX12_copyRow_19 ?_
        refine lv_topi (fun v17 ev17 => ?_)
        obtain rfl : v17 = 24 := ev17.trans (by decide)
        refine lv_iload hx hb dX12_copyRow_20 (lv_at hl 0 rfl) ?_
        refine lv_iadd hx hb dX12_copyRow_22 ?_
        refine lv_topi (fun v18 ev18 => ?_)
        obtain rfl : v18 = 26 := ev18.trans (by decide)
        refine va_iald hx hb hK.1 hP 0 1 rfl rfl (mm_in mm_k26 (by decide)) dX12_copyRow_23 ?_
        rw [show (mm_g [i_24, i_25, i_2, i_3, i_4, i_5, i_6, i_7, i_8, i_9, i_10, i_11, i_12, i_13, i_14, i_15, i_16, i_17, i_18, i_19, i_20, i_21, i_22, i_23, i_24, i_25, i_26, i_27, i_28, i_29]) (26 : Int32).toNatClampNeg = i_26 from mm_ge 26 (by decide) rfl]
        refine va_iast hx hb hK.1 hP hD hS 0 1 rfl rfl (mm_in mm_k2 (by decide)) dX12_copyRow_24 ?_
        clear hP hD hS
        clear H locs
        rw [show upd (mm_g [i_24, i_25, i_2, i_3, i_4, i_5, i_6, i_7, i_8, i_9, i_10, i_11, i_12, i_13, i_14, i_15, i_16, i_17, i_18, i_19, i_20, i_21, i_22, i_23, i_24, i_25, i_26, i_27, i_28, i_29]) (2 : Int32).toNatClampNeg i_26 = (mm_g [i_24, i_25, i_26, i_3, i_4, i_5, i_6, i_7, i_8, i_9, i_10, i_11, i_12, i_13, i_14, i_15, i_16, i_17, i_18, i_19, i_20, i_21, i_22, i_23, i_24, i_25, i_26, i_27, i_28, i_29]) from mm_gs2 2 30 (by decide) rfl rfl rfl]
        intro H locs (hP : va_P G vwCl [(a_0, .inl (cy 1, 30, .inl (mm_g [i_24, i_25, i_26, i_3, i_4, i_5, i_6, i_7, i_8, i_9, i_10, i_11, i_12, i_13, i_14, i_15, i_16, i_17, i_18, i_19, i_20, i_21, i_22, i_23, i_24, i_25, i_26, i_27, i_28, i_29])))] H) (hD : va_D A [(a_0, .inl (cy 1, 30, .inl (mm_g [i_24, i_25, i_26, i_3, i_4, i_5, i_6, i_7, i_8, i_9, i_10, i_11, i_12, i_13, i_14, i_15, i_16, i_17, i_18, i_19, i_20, i_21, i_22, i_23, i_24, i_25, i_26, i_27, i_28, i_29])))]) hS
        refine lv_iinc (v := 3) (lv' := [(4, .int 3), (0, .ref a_0), (1, .int 6), (2, .int 4), (3, .int 0)]) hx hb dX12_copyRow_25 hl (k := 0) rfl (by decide) (by decide) rfl ?_
        clear hl
        clear ls
        intro ls hl
        refine lv_goto (tgt := 3) hx hb dX12_copyRow_28 (by decide) ?_
        refine lv_iload hx hb dX12_copyRow_3 (lv_at hl 0 rfl) ?_
        refine lv_iload_n hx hb dX12_copyRow_5 rfl (lv_at hl 2 rfl) ?_
        refine lv_icmp_ge (tgt := 31) hx hb dX12_copyRow_6 (by decide) (fun c19 => ?_) (fun c19 => ?_)
        · have q20 := mm_leL (mm_le c19) mm_k6 mm_k3
          exact mm_no q20 (by decide)
        · refine lv_aload_n hx hb dX12_copyRow_9 rfl (lv_at hl 1 rfl) ?_
          refine lv_iload_n hx hb dX12_copyRow_10 rfl (lv_at hl 2 rfl) ?_
          refine lv_iload_n hx hb dX12_copyRow_11 rfl (lv_at hl 4 rfl) ?_
          refine lv_imul hx hb dX12_copyRow_12 ?_
          refine lv_topi (fun v21 ev21 => ?_)
          obtain rfl : v21 = 0 := ev21.trans (by decide)
          refine lv_iload hx hb dX12_copyRow_13 (lv_at hl 0 rfl) ?_
          refine lv_iadd hx hb dX12_copyRow_15 ?_
          refine lv_topi (fun v22 ev22 => ?_)
          obtain rfl : v22 = 3 := ev22.trans (by decide)
          refine lv_aload_n hx hb dX12_copyRow_16 rfl (lv_at hl 1 rfl) ?_
          refine lv_iload_n hx hb dX12_copyRow_17 rfl (lv_at hl 2 rfl) ?_
          refine lv_iload_n hx hb dX12_copyRow_18 rfl (lv_at hl 3 rfl) ?_
          refine lv_imul hx hb dX12_copyRow_19 ?_
          refine lv_topi (fun v23 ev23 => ?_)
          obtain rfl : v23 = 24 := ev23.trans (by decide)
          refine lv_iload hx hb dX12_copyRow_20 (lv_at hl 0 rfl) ?_
          refine lv_iadd hx hb dX12_copyRow_22 ?_
          refine lv_topi (fun v24 ev24 => ?_)
          obtain rfl : v24 = 27 := ev24.trans (by decide)
          refine va_iald hx hb hK.1 hP 0 1 rfl rfl (mm_in mm_k27 (by decide)) dX12_copyRow_23 ?_
          rw [show (mm_g [i_24, i_25, i_26, i_3, i_4, i_5, i_6, i_7, i_8, i_9, i_10, i_11, i_12, i_13, i_14, i_15, i_16, i_17, i_18, i_19, i_20, i_21, i_22, i_23, i_24, i_25, i_26, i_27, i_28, i_29]) (27 : Int32).toNatClampNeg = i_27 from mm_ge 27 (by decide) rfl]
          refine va_iast hx hb hK.1 hP hD hS 0 1 rfl rfl (mm_in mm_k3 (by decide)) dX12_copyRow_24 ?_
          clear hP hD hS
          clear H locs
          rw [show upd (mm_g [i_24, i_25, i_26, i_3, i_4, i_5, i_6, i_7, i_8, i_9, i_10, i_11, i_12, i_13, i_14, i_15, i_16, i_17, i_18, i_19, i_20, i_21, i_22, i_23, i_24, i_25, i_26, i_27, i_28, i_29]) (3 : Int32).toNatClampNeg i_27 = (mm_g [i_24, i_25, i_26, i_27, i_4, i_5, i_6, i_7, i_8, i_9, i_10, i_11, i_12, i_13, i_14, i_15, i_16, i_17, i_18, i_19, i_20, i_21, i_22, i_23, i_24, i_25, i_26, i_27, i_28, i_29]) from mm_gs2 3 30 (by decide) rfl rfl rfl]
          intro H locs (hP : va_P G vwCl [(a_0, .inl (cy 1, 30, .inl (mm_g [i_24, i_25, i_26, i_27, i_4, i_5, i_6, i_7, i_8, i_9, i_10, i_11, i_12, i_13, i_14, i_15, i_16, i_17, i_18, i_19, i_20, i_21, i_22, i_23, i_24, i_25, i_26, i_27, i_28, i_29])))] H) (hD : va_D A [(a_0, .inl (cy 1, 30, .inl (mm_g [i_24, i_25, i_26, i_27, i_4, i_5, i_6, i_7, i_8, i_9, i_10, i_11, i_12, i_13, i_14, i_15, i_16, i_17, i_18, i_19, i_20, i_21, i_22, i_23, i_24, i_25, i_26, i_27, i_28, i_29])))]) hS
          refine lv_iinc (v := 4) (lv' := [(4, .int 4), (0, .ref a_0), (1, .int 6), (2, .int 4), (3, .int 0)]) hx hb dX12_copyRow_25 hl (k := 0) rfl (by decide) (by decide) rfl ?_
          clear hl
          clear ls
          intro ls hl
          refine lv_goto (tgt := 3) hx hb dX12_copyRow_28 (by decide) ?_
          refine lv_iload hx hb dX12_copyRow_3 (lv_at hl 0 rfl) ?_
          refine lv_iload_n hx hb dX12_copyRow_5 rfl (lv_at hl 2 rfl) ?_
          refine lv_icmp_ge (tgt := 31) hx hb dX12_copyRow_6 (by decide) (fun c25 => ?_) (fun c25 => ?_)
          · have q26 := mm_leL (mm_le c25) mm_k6 mm_k4
            exact mm_no q26 (by decide)
          · refine lv_aload_n hx hb dX12_copyRow_9 rfl (lv_at hl 1 rfl) ?_
            refine lv_iload_n hx hb dX12_copyRow_10 rfl (lv_at hl 2 rfl) ?_
            refine lv_iload_n hx hb dX12_copyRow_11 rfl (lv_at hl 4 rfl) ?_
            refine lv_imul hx hb dX12_copyRow_12 ?_
            refine lv_topi (fun v27 ev27 => ?_)
            obtain rfl : v27 = 0 := ev27.trans (by decide)
            refine lv_iload hx hb dX12_copyRow_13 (lv_at hl 0 rfl) ?_
            refine lv_iadd hx hb dX12_copyRow_15 ?_
            refine lv_topi (fun v28 ev28 => ?_)
            obtain rfl : v28 = 4 := ev28.trans (by decide)
            refine lv_aload_n hx hb dX12_copyRow_16 rfl (lv_at hl 1 rfl) ?_
            refine lv_iload_n hx hb dX12_copyRow_17 rfl (lv_at hl 2 rfl) ?_
            refine lv_iload_n hx hb dX12_copyRow_18 rfl (lv_at hl 3 rfl) ?_
            refine lv_imul hx hb dX12_copyRow_19 ?_
            refine lv_topi (fun v29 ev29 => ?_)
            obtain rfl : v29 = 24 := ev29.trans (by decide)
            refine lv_iload hx hb dX12_copyRow_20 (lv_at hl 0 rfl) ?_
            refine lv_iadd hx hb dX12_copyRow_22 ?_
            refine lv_topi (fun v30 ev30 => ?_)
            obtain rfl : v30 = 28 := ev30.trans (by decide)
            refine va_iald hx hb hK.1 hP 0 1 rfl rfl (mm_in mm_k28 (by decide)) dX12_copyRow_23 ?_
            rw [show (mm_g [i_24, i_25, i_26, i_27, i_4, i_5, i_6, i_7, i_8, i_9, i_10, i_11, i_12, i_13, i_14, i_15, i_16, i_17, i_18, i_19, i_20, i_21, i_22, i_23, i_24, i_25, i_26, i_27, i_28, i_29]) (28 : Int32).toNatClampNeg = i_28 from mm_ge 28 (by decide) rfl]
            refine va_iast hx hb hK.1 hP hD hS 0 1 rfl rfl (mm_in mm_k4 (by decide)) dX12_copyRow_24 ?_
            clear hP hD hS
            clear H locs
            rw [show upd (mm_g [i_24, i_25, i_26, i_27, i_4, i_5, i_6, i_7, i_8, i_9, i_10, i_11, i_12, i_13, i_14, i_15, i_16, i_17, i_18, i_19, i_20, i_21, i_22, i_23, i_24, i_25, i_26, i_27, i_28, i_29]) (4 : Int32).toNatClampNeg i_28 = (mm_g [i_24, i_25, i_26, i_27, i_28, i_5, i_6, i_7, i_8, i_9, i_10, i_11, i_12, i_13, i_14, i_15, i_16, i_17, i_18, i_19, i_20, i_21, i_22, i_23, i_24, i_25, i_26, i_27, i_28, i_29]) from mm_gs2 4 30 (by decide) rfl rfl rfl]
            intro H locs (hP : va_P G vwCl [(a_0, .inl (cy 1, 30, .inl (mm_g [i_24, i_25, i_26, i_27, i_28, i_5, i_6, i_7, i_8, i_9, i_10, i_11, i_12, i_13, i_14, i_15, i_16, i_17, i_18, i_19, i_20, i_21, i_22, i_23, i_24, i_25, i_26, i_27, i_28, i_29])))] H) (hD : va_D A [(a_0, .inl (cy 1, 30, .inl (mm_g [i_24, i_25, i_26, i_27, i_28, i_5, i_6, i_7, i_8, i_9, i_10, i_11, i_12, i_13, i_14, i_15, i_16, i_17, i_18, i_19, i_20, i_21, i_22, i_23, i_24, i_25, i_26, i_27, i_28, i_29])))]) hS
            refine lv_iinc (v := 5) (lv' := [(4, .int 5), (0, .ref a_0), (1, .int 6), (2, .int 4), (3, .int 0)]) hx hb dX12_copyRow_25 hl (k := 0) rfl (by decide) (by decide) rfl ?_
            clear hl
            clear ls
            intro ls hl
            refine lv_goto (tgt := 3) hx hb dX12_copyRow_28 (by decide) ?_
            refine lv_iload hx hb dX12_copyRow_3 (lv_at hl 0 rfl) ?_
            refine lv_iload_n hx hb dX12_copyRow_5 rfl (lv_at hl 2 rfl) ?_
            refine lv_icmp_ge (tgt := 31) hx hb dX12_copyRow_6 (by decide) (fun c31 => ?_) (fun c31 => ?_)
            · have q32 := mm_leL (mm_le c31) mm_k6 mm_k5
              exact mm_no q32 (by decide)
            · refine lv_aload_n hx hb dX12_copyRow_9 rfl (lv_at hl 1 rfl) ?_
              refine lv_iload_n hx hb dX12_copyRow_10 rfl (lv_at hl 2 rfl) ?_
              refine lv_iload_n hx hb dX12_copyRow_11 rfl (lv_at hl 4 rfl) ?_
              refine lv_imul hx hb dX12_copyRow_12 ?_
              refine lv_topi (fun v33 ev33 => ?_)
              obtain rfl : v33 = 0 := ev33.trans (by decide)
              refine lv_iload hx hb dX12_copyRow_13 (lv_at hl 0 rfl) ?_
              refine lv_iadd hx hb dX12_copyRow_15 ?_
              refine lv_topi (fun v34 ev34 => ?_)
              obtain rfl : v34 = 5 := ev34.trans (by decide)
              refine lv_aload_n hx hb dX12_copyRow_16 rfl (lv_at hl 1 rfl) ?_
              refine lv_iload_n hx hb dX12_copyRow_17 rfl (lv_at hl 2 rfl) ?_
              refine lv_iload_n hx hb dX12_copyRow_18 rfl (lv_at hl 3 rfl) ?_
              refine lv_imul hx hb dX12_copyRow_19 ?_
              refine lv_topi (fun v35 ev35 => ?_)
              obtain rfl : v35 = 24 := ev35.trans (by decide)
              refine lv_iload hx hb dX12_copyRow_20 (lv_at hl 0 rfl) ?_
              refine lv_iadd hx hb dX12_copyRow_22 ?_
              refine lv_topi (fun v36 ev36 => ?_)
              obtain rfl : v36 = 29 := ev36.trans (by decide)
              refine va_iald hx hb hK.1 hP 0 1 rfl rfl (mm_in mm_k29 (by decide)) dX12_copyRow_23 ?_
              rw [show (mm_g [i_24, i_25, i_26, i_27, i_28, i_5, i_6, i_7, i_8, i_9, i_10, i_11, i_12, i_13, i_14, i_15, i_16, i_17, i_18, i_19, i_20, i_21, i_22, i_23, i_24, i_25, i_26, i_27, i_28, i_29]) (29 : Int32).toNatClampNeg = i_29 from mm_ge 29 (by decide) rfl]
              refine va_iast hx hb hK.1 hP hD hS 0 1 rfl rfl (mm_in mm_k5 (by decide)) dX12_copyRow_24 ?_
              clear hP hD hS
              clear H locs
              rw [show upd (mm_g [i_24, i_25, i_26, i_27, i_28, i_5, i_6, i_7, i_8, i_9, i_10, i_11, i_12, i_13, i_14, i_15, i_16, i_17, i_18, i_19, i_20, i_21, i_22, i_23, i_24, i_25, i_26, i_27, i_28, i_29]) (5 : Int32).toNatClampNeg i_29 = (mm_g [i_24, i_25, i_26, i_27, i_28, i_29, i_6, i_7, i_8, i_9, i_10, i_11, i_12, i_13, i_14, i_15, i_16, i_17, i_18, i_19, i_20, i_21, i_22, i_23, i_24, i_25, i_26, i_27, i_28, i_29]) from mm_gs2 5 30 (by decide) rfl rfl rfl]
              intro H locs (hP : va_P G vwCl [(a_0, .inl (cy 1, 30, .inl (mm_g [i_24, i_25, i_26, i_27, i_28, i_29, i_6, i_7, i_8, i_9, i_10, i_11, i_12, i_13, i_14, i_15, i_16, i_17, i_18, i_19, i_20, i_21, i_22, i_23, i_24, i_25, i_26, i_27, i_28, i_29])))] H) (hD : va_D A [(a_0, .inl (cy 1, 30, .inl (mm_g [i_24, i_25, i_26, i_27, i_28, i_29, i_6, i_7, i_8, i_9, i_10, i_11, i_12, i_13, i_14, i_15, i_16, i_17, i_18, i_19, i_20, i_21, i_22, i_23, i_24, i_25, i_26, i_27, i_28, i_29])))]) hS
              refine lv_iinc (v := 6) (lv' := [(4, .int 6), (0, .ref a_0), (1, .int 6), (2, .int 4), (3, .int 0)]) hx hb dX12_copyRow_25 hl (k := 0) rfl (by decide) (by decide) rfl ?_
              clear hl
              clear ls
              intro ls hl
              refine lv_goto (tgt := 3) hx hb dX12_copyRow_28 (by decide) ?_
              refine lv_iload hx hb dX12_copyRow_3 (lv_at hl 0 rfl) ?_
              refine lv_iload_n hx hb dX12_copyRow_5 rfl (lv_at hl 2 rfl) ?_
              refine lv_icmp_ge (tgt := 31) hx hb dX12_copyRow_6 (by decide) (fun c37 => ?_) (fun c37 => ?_)
              · subst hAe
                rw [hQ]
                exact W.vret hx hb hr (fun t ht hW => ⟨⟨(), rfl, trivial, by rw [ht]; exact hP, hK.warm hW, hD⟩, hS.F ht⟩) hS.2.2 dX12_copyRow_31
              · have q38 := mm_ltL (h := 5) (mm_nle c37) mm_k6 mm_k6 (by decide)
                exact mm_no q38 (by decide)

set_option maxHeartbeats 4000000 in
set_option maxRecDepth 100000 in
theorem M83_X12_copyRow (l : Launch) (G : va_G) (cy : Nat → ClassId) (sz : Nat) (a_0 : Nat) (f_0 : Nat → Int32) (h0 : mm_ar f_0 0 99)  : mm_CV l yX12_copyRow (mm_ws yX12_copyRow cX12_copyRow 5 (none)) ({ frames := 0, cells := 0, slots := 0, locals := 0 } : Room) G cy sz [(a_0, .inl (cy 1, 90, .inl f_0))] [.ref a_0, .int 18, .int 4, .int 0] (fun u : (Nat → Int32) => [(a_0, .inl (cy 1, 90, .inl u))]) (fun u : (Nat → Int32) => mm_ar u 0 99 ∧ mm_crw f_0 u 18 4 0) 0 0 := by
  refine mm_begin (lv := [(0, .ref a_0), (1, .int 18), (2, .int 4), (3, .int 0)]) (by decide) (Nat.le_of_ble_eq_true rfl) rfl ?_
  intro p e s m below meth c A ls R args Q H locs hRe hQ hAe hx hb hr hlocks hml hown hnm hts hsz hA hS hP hK hD hZ hl
  have hRf : R.frames = 0 := by rw [hRe]
  have hRl : R.locals = 0 := by rw [hRe]
  have hRc : R.cells = 0 := by rw [hRe]
  have hRs : R.slots = 0 := by rw [hRe]
  refine lv_iconst (v := 0) hx hb dX12_copyRow_0 (by decide) ?_
  refine lv_istore (lv' := [(4, .int 0), (0, .ref a_0), (1, .int 18), (2, .int 4), (3, .int 0)]) hx hb dX12_copyRow_1 hl (by decide) rfl ?_
  clear hl
  clear ls
  intro ls hl
  have L3_130 : ∀ (n : Nat) (x3_4_128 : Int32) (z3_0_129 : Nat → Int32), mm_rg x3_4_128 0 18 → mm_ar z3_0_129 0 99 → mm_crk f_0 z3_0_129 18 4 0 x3_4_128 → (18 - x3_4_128.toInt).toNat < n → ∀ (H : Heap) (locs : List Loc), va_P G vwCl [(a_0, .inl (cy 1, 90, .inl z3_0_129))] H → va_D A [(a_0, .inl (cy 1, 90, .inl z3_0_129))] → va_S A s.heap H locs → ∀ (ls : Array Slot), lv_has ls 5 [(4, .int x3_4_128), (0, .ref a_0), (1, .int 18), (2, .int 4), (3, .int 0)] → W p l e R s m args below meth c H locs 0 0 Q (F0 m 3 ls []) := by
    intro n
    induction n with
    | zero => intro x3_4_128 z3_0_129 rx3_4_128 rz3_0_129 w130 hm; exact absurd hm (Nat.not_lt_zero _)
    | succ n ih3 =>
      intro x3_4_128 z3_0_129 rx3_4_128 rz3_0_129 w130 hm3 H locs hP hD hS ls hl
      refine lv_iload hx hb dX12_copyRow_3 (lv_at hl 0 rfl) ?_
      refine lv_iload_n hx hb dX12_copyRow_5 rfl (lv_at hl 2 rfl) ?_
      refine lv_icmp_ge (tgt := 31) hx hb dX12_copyRow_6 (by decide) (fun c132 => ?_) (fun c132 => ?_)
      · have q133 := mm_leR (mm_le c132) mm_k18 rx3_4_128
        have w134 : mm_crw f_0 z3_0_129 18 4 0 := (mm_crw_of w130 q133 (by decide))
        subst hAe
        rw [hQ]
        exact W.vret hx hb hr (fun t ht hW => ⟨⟨z3_0_129, rfl, ⟨rz3_0_129, w134⟩, by rw [ht]; exact hP, hK.warm hW, hD⟩, hS.F ht⟩) hS.2.2 dX12_copyRow_31
      · have q135 := mm_ltL (h := 17) (mm_nle c132) rx3_4_128 mm_k18 (by decide)
        refine lv_aload_n hx hb dX12_copyRow_9 rfl (lv_at hl 1 rfl) ?_
        refine lv_iload_n hx hb dX12_copyRow_10 rfl (lv_at hl 2 rfl) ?_
        refine lv_iload_n hx hb dX12_copyRow_11 rfl (lv_at hl 4 rfl) ?_
        refine lv_imul hx hb dX12_copyRow_12 ?_
        refine lv_topi (fun v136 ev136 => ?_)
        obtain rfl : v136 = 0 := ev136.trans (by decide)
        refine lv_iload hx hb dX12_copyRow_13 (lv_at hl 0 rfl) ?_
        refine lv_iadd hx hb dX12_copyRow_15 ?_
        refine lv_topi (fun v137 ev137 => ?_)
        have rv137 : mm_rg v137 0 17 := mm_add ev137 mm_k0 q135 (by decide) (by decide)
        have tv137 := mm_addEd ev137 mm_k0 q135 (by decide) (k := 0) (by decide)
        refine lv_aload_n hx hb dX12_copyRow_16 rfl (lv_at hl 1 rfl) ?_
        refine lv_iload_n hx hb dX12_copyRow_17 rfl (lv_at hl 2 rfl) ?_
        refine lv_iload_n hx hb dX12_copyRow_18 rfl (lv_at hl 3 rfl) ?_
        refine lv_imul hx hb dX12_copyRow_19 ?_
        refine lv_topi (fun v138 ev138 => ?_)
        obtain rfl : v138 = 72 := ev138.trans (by decide)
        refine lv_iload hx hb dX12_copyRow_20 (lv_at hl 0 rfl) ?_
        refine lv_iadd hx hb dX12_copyRow_22 ?_
        refine lv_topi (fun v139 ev139 => ?_)
        have rv139 : mm_rg v139 72 89 := mm_add ev139 mm_k72 q135 (by decide) (by decide)
        have tv139 := mm_addEd ev139 mm_k72 q135 (by decide) (k := 72) (by decide)
        refine va_iald hx hb hK.1 hP 0 1 rfl rfl (mm_in rv139 (by decide)) dX12_copyRow_23 ?_
        refine lv_topi (fun v140 ev140 => ?_)
        have rv140 : mm_rg v140 0 99 := mm_eqv ev140 (rz3_0_129 _)
        refine va_iast hx hb hK.1 hP hD hS 0 1 rfl rfl (mm_in rv137 (by decide)) dX12_copyRow_24 ?_
        clear hP hD hS
        clear H locs
        obtain ⟨g141, eg141⟩ : ∃ z : Nat → Int32, z = upd z3_0_129 v137.toNatClampNeg v140 := ⟨_, rfl⟩
        rw [← eg141]
        intro H locs (hP : va_P G vwCl [(a_0, .inl (cy 1, 90, .inl g141))] H) (hD : va_D A [(a_0, .inl (cy 1, 90, .inl g141))]) hS
        have rg141 : mm_ar g141 0 99 := by rw [eg141]; exact mm_ar_upd (mm_ar_wk rz3_0_129 (by decide)) (mm_wk rv140 (by decide)) _
        obtain ⟨v142, ev142⟩ : ∃ y : Int32, y = x3_4_128 + 1 := ⟨_, rfl⟩
        refine lv_iinc (v := v142) (lv' := [(4, .int v142), (0, .ref a_0), (1, .int 18), (2, .int 4), (3, .int 0)]) hx hb dX12_copyRow_25 hl (k := 0) rfl (by rw [ev142]; rfl) (by decide) rfl ?_
        clear hl
        clear ls
        intro ls hl
        have rv142 : mm_rg v142 1 18 := mm_add ev142 q135 mm_k1 (by decide) (by decide)
        have tv142 := mm_addEc ev142 q135 mm_k1 (by decide) (k := 1) (by decide)
        refine lv_goto (tgt := 3) hx hb dX12_copyRow_28 (by decide) ?_
        exact ih3 v142 g141 (mm_wk rv142 (by decide)) rg141 (mm_crk_s w130 tv142 q135 eg141 ev140 (by have := tv137; omega) (by have := tv139; omega) (by decide)) (mm_mu hm3 tv142 (by decide) (rv142).2 (by decide)) H locs hP hD hS ls (lv_sub hl [0, 1, 2, 3, 4] rfl)
  exact L3_130 _ 0 f_0 (mm_wk mm_k0 (by decide)) h0 (mm_crk_0 _ _ _ _) (Nat.lt_succ_self _) H locs hP hD hS ls (lv_sub hl [0, 1, 2, 3, 4] rfl)

set_option maxHeartbeats 4000000 in
set_option maxRecDepth 100000 in
theorem M84_X12_copyRow (l : Launch) (G : va_G) (cy : Nat → ClassId) (sz : Nat) (a_0 : Nat) (f_0 : Nat → Int32) (h0 : mm_ar f_0 0 7)  : mm_CV l yX12_copyRow (mm_ws yX12_copyRow cX12_copyRow 5 (none)) ({ frames := 0, cells := 0, slots := 0, locals := 0 } : Room) G cy sz [(a_0, .inl (cy 1, 15, .inl f_0))] [.ref a_0, .int 3, .int 4, .int 0] (fun u : (Nat → Int32) => [(a_0, .inl (cy 1, 15, .inl u))]) (fun u : (Nat → Int32) => mm_ar u 0 7 ∧ mm_crw f_0 u 3 4 0) 0 0 := by
  refine mm_begin (lv := [(0, .ref a_0), (1, .int 3), (2, .int 4), (3, .int 0)]) (by decide) (Nat.le_of_ble_eq_true rfl) rfl ?_
  intro p e s m below meth c A ls R args Q H locs hRe hQ hAe hx hb hr hlocks hml hown hnm hts hsz hA hS hP hK hD hZ hl
  have hRf : R.frames = 0 := by rw [hRe]
  have hRl : R.locals = 0 := by rw [hRe]
  have hRc : R.cells = 0 := by rw [hRe]
  have hRs : R.slots = 0 := by rw [hRe]
  refine lv_iconst (v := 0) hx hb dX12_copyRow_0 (by decide) ?_
  refine lv_istore (lv' := [(4, .int 0), (0, .ref a_0), (1, .int 3), (2, .int 4), (3, .int 0)]) hx hb dX12_copyRow_1 hl (by decide) rfl ?_
  clear hl
  clear ls
  intro ls hl
  have L3_48 : ∀ (n : Nat) (x3_4_46 : Int32) (z3_0_47 : Nat → Int32), mm_rg x3_4_46 0 3 → mm_ar z3_0_47 0 7 → mm_crk f_0 z3_0_47 3 4 0 x3_4_46 → (3 - x3_4_46.toInt).toNat < n → ∀ (H : Heap) (locs : List Loc), va_P G vwCl [(a_0, .inl (cy 1, 15, .inl z3_0_47))] H → va_D A [(a_0, .inl (cy 1, 15, .inl z3_0_47))] → va_S A s.heap H locs → ∀ (ls : Array Slot), lv_has ls 5 [(4, .int x3_4_46), (0, .ref a_0), (1, .int 3), (2, .int 4), (3, .int 0)] → W p l e R s m args below meth c H locs 0 0 Q (F0 m 3 ls []) := by
    intro n
    induction n with
    | zero => intro x3_4_46 z3_0_47 rx3_4_46 rz3_0_47 w48 hm; exact absurd hm (Nat.not_lt_zero _)
    | succ n ih3 =>
      intro x3_4_46 z3_0_47 rx3_4_46 rz3_0_47 w48 hm3 H locs hP hD hS ls hl
      refine lv_iload hx hb dX12_copyRow_3 (lv_at hl 0 rfl) ?_
      refine lv_iload_n hx hb dX12_copyRow_5 rfl (lv_at hl 2 rfl) ?_
      refine lv_icmp_ge (tgt := 31) hx hb dX12_copyRow_6 (by decide) (fun c50 => ?_) (fun c50 => ?_)
      · have q51 := mm_leR (mm_le c50) mm_k3 rx3_4_46
        have w52 : mm_crw f_0 z3_0_47 3 4 0 := (mm_crw_of w48 q51 (by decide))
        subst hAe
        rw [hQ]
        exact W.vret hx hb hr (fun t ht hW => ⟨⟨z3_0_47, rfl, ⟨rz3_0_47, w52⟩, by rw [ht]; exact hP, hK.warm hW, hD⟩, hS.F ht⟩) hS.2.2 dX12_copyRow_31
      · have q53 := mm_ltL (h := 2) (mm_nle c50) rx3_4_46 mm_k3 (by decide)
        refine lv_aload_n hx hb dX12_copyRow_9 rfl (lv_at hl 1 rfl) ?_
        refine lv_iload_n hx hb dX12_copyRow_10 rfl (lv_at hl 2 rfl) ?_
        refine lv_iload_n hx hb dX12_copyRow_11 rfl (lv_at hl 4 rfl) ?_
        refine lv_imul hx hb dX12_copyRow_12 ?_
        refine lv_topi (fun v54 ev54 => ?_)
        obtain rfl : v54 = 0 := ev54.trans (by decide)
        refine lv_iload hx hb dX12_copyRow_13 (lv_at hl 0 rfl) ?_
        refine lv_iadd hx hb dX12_copyRow_15 ?_
        refine lv_topi (fun v55 ev55 => ?_)
        have rv55 : mm_rg v55 0 2 := mm_add ev55 mm_k0 q53 (by decide) (by decide)
        have tv55 := mm_addEd ev55 mm_k0 q53 (by decide) (k := 0) (by decide)
        refine lv_aload_n hx hb dX12_copyRow_16 rfl (lv_at hl 1 rfl) ?_
        refine lv_iload_n hx hb dX12_copyRow_17 rfl (lv_at hl 2 rfl) ?_
        refine lv_iload_n hx hb dX12_copyRow_18 rfl (lv_at hl 3 rfl) ?_
        refine lv_imul hx hb dX12_copyRow_19 ?_
        refine lv_topi (fun v56 ev56 => ?_)
        obtain rfl : v56 = 12 := ev56.trans (by decide)
        refine lv_iload hx hb dX12_copyRow_20 (lv_at hl 0 rfl) ?_
        refine lv_iadd hx hb dX12_copyRow_22 ?_
        refine lv_topi (fun v57 ev57 => ?_)
        have rv57 : mm_rg v57 12 14 := mm_add ev57 mm_k12 q53 (by decide) (by decide)
        have tv57 := mm_addEd ev57 mm_k12 q53 (by decide) (k := 12) (by decide)
        refine va_iald hx hb hK.1 hP 0 1 rfl rfl (mm_in rv57 (by decide)) dX12_copyRow_23 ?_
        refine lv_topi (fun v58 ev58 => ?_)
        have rv58 : mm_rg v58 0 7 := mm_eqv ev58 (rz3_0_47 _)
        refine va_iast hx hb hK.1 hP hD hS 0 1 rfl rfl (mm_in rv55 (by decide)) dX12_copyRow_24 ?_
        clear hP hD hS
        clear H locs
        obtain ⟨g59, eg59⟩ : ∃ z : Nat → Int32, z = upd z3_0_47 v55.toNatClampNeg v58 := ⟨_, rfl⟩
        rw [← eg59]
        intro H locs (hP : va_P G vwCl [(a_0, .inl (cy 1, 15, .inl g59))] H) (hD : va_D A [(a_0, .inl (cy 1, 15, .inl g59))]) hS
        have rg59 : mm_ar g59 0 7 := by rw [eg59]; exact mm_ar_upd (mm_ar_wk rz3_0_47 (by decide)) (mm_wk rv58 (by decide)) _
        obtain ⟨v60, ev60⟩ : ∃ y : Int32, y = x3_4_46 + 1 := ⟨_, rfl⟩
        refine lv_iinc (v := v60) (lv' := [(4, .int v60), (0, .ref a_0), (1, .int 3), (2, .int 4), (3, .int 0)]) hx hb dX12_copyRow_25 hl (k := 0) rfl (by rw [ev60]; rfl) (by decide) rfl ?_
        clear hl
        clear ls
        intro ls hl
        have rv60 : mm_rg v60 1 3 := mm_add ev60 q53 mm_k1 (by decide) (by decide)
        have tv60 := mm_addEc ev60 q53 mm_k1 (by decide) (k := 1) (by decide)
        refine lv_goto (tgt := 3) hx hb dX12_copyRow_28 (by decide) ?_
        exact ih3 v60 g59 (mm_wk rv60 (by decide)) rg59 (mm_crk_s w48 tv60 q53 eg59 ev58 (by have := tv55; omega) (by have := tv57; omega) (by decide)) (mm_mu hm3 tv60 (by decide) (rv60).2 (by decide)) H locs hP hD hS ls (lv_sub hl [0, 1, 2, 3, 4] rfl)
  exact L3_48 _ 0 f_0 (mm_wk mm_k0 (by decide)) h0 (mm_crk_0 _ _ _ _) (Nat.lt_succ_self _) H locs hP hD hS ls (lv_sub hl [0, 1, 2, 3, 4] rfl)

set_option maxHeartbeats 4000000 in
set_option maxRecDepth 100000 in
theorem M85_X12_copyRow (l : Launch) (G : va_G) (cy : Nat → ClassId) (sz : Nat) (a_0 : Nat) (f_0 : Nat → Int32) (h0 : mm_ar f_0 0 9)  : mm_CV l yX12_copyRow (mm_ws yX12_copyRow cX12_copyRow 5 (none)) ({ frames := 0, cells := 0, slots := 0, locals := 0 } : Room) G cy sz [(a_0, .inl (cy 1, 1050, .inl f_0))] [.ref a_0, .int 210, .int 4, .int 0] (fun u : (Nat → Int32) => [(a_0, .inl (cy 1, 1050, .inl u))]) (fun u : (Nat → Int32) => mm_ar u 0 9 ∧ mm_crw f_0 u 210 4 0) 0 0 := by
  refine mm_begin (lv := [(0, .ref a_0), (1, .int 210), (2, .int 4), (3, .int 0)]) (by decide) (Nat.le_of_ble_eq_true rfl) rfl ?_
  intro p e s m below meth c A ls R args Q H locs hRe hQ hAe hx hb hr hlocks hml hown hnm hts hsz hA hS hP hK hD hZ hl
  have hRf : R.frames = 0 := by rw [hRe]
  have hRl : R.locals = 0 := by rw [hRe]
  have hRc : R.cells = 0 := by rw [hRe]
  have hRs : R.slots = 0 := by rw [hRe]
  refine lv_iconst (v := 0) hx hb dX12_copyRow_0 (by decide) ?_
  refine lv_istore (lv' := [(4, .int 0), (0, .ref a_0), (1, .int 210), (2, .int 4), (3, .int 0)]) hx hb dX12_copyRow_1 hl (by decide) rfl ?_
  clear hl
  clear ls
  intro ls hl
  have L3_148 : ∀ (n : Nat) (x3_4_146 : Int32) (z3_0_147 : Nat → Int32), mm_rg x3_4_146 0 210 → mm_ar z3_0_147 0 9 → mm_crk f_0 z3_0_147 210 4 0 x3_4_146 → (210 - x3_4_146.toInt).toNat < n → ∀ (H : Heap) (locs : List Loc), va_P G vwCl [(a_0, .inl (cy 1, 1050, .inl z3_0_147))] H → va_D A [(a_0, .inl (cy 1, 1050, .inl z3_0_147))] → va_S A s.heap H locs → ∀ (ls : Array Slot), lv_has ls 5 [(4, .int x3_4_146), (0, .ref a_0), (1, .int 210), (2, .int 4), (3, .int 0)] → W p l e R s m args below meth c H locs 0 0 Q (F0 m 3 ls []) := by
    intro n
    induction n with
    | zero => intro x3_4_146 z3_0_147 rx3_4_146 rz3_0_147 w148 hm; exact absurd hm (Nat.not_lt_zero _)
    | succ n ih3 =>
      intro x3_4_146 z3_0_147 rx3_4_146 rz3_0_147 w148 hm3 H locs hP hD hS ls hl
      refine lv_iload hx hb dX12_copyRow_3 (lv_at hl 0 rfl) ?_
      refine lv_iload_n hx hb dX12_copyRow_5 rfl (lv_at hl 2 rfl) ?_
      refine lv_icmp_ge (tgt := 31) hx hb dX12_copyRow_6 (by decide) (fun c150 => ?_) (fun c150 => ?_)
      · have q151 := mm_leR (mm_le c150) mm_k210 rx3_4_146
        have w152 : mm_crw f_0 z3_0_147 210 4 0 := (mm_crw_of w148 q151 (by decide))
        subst hAe
        rw [hQ]
        exact W.vret hx hb hr (fun t ht hW => ⟨⟨z3_0_147, rfl, ⟨rz3_0_147, w152⟩, by rw [ht]; exact hP, hK.warm hW, hD⟩, hS.F ht⟩) hS.2.2 dX12_copyRow_31
      · have q153 := mm_ltL (h := 209) (mm_nle c150) rx3_4_146 mm_k210 (by decide)
        refine lv_aload_n hx hb dX12_copyRow_9 rfl (lv_at hl 1 rfl) ?_
        refine lv_iload_n hx hb dX12_copyRow_10 rfl (lv_at hl 2 rfl) ?_
        refine lv_iload_n hx hb dX12_copyRow_11 rfl (lv_at hl 4 rfl) ?_
        refine lv_imul hx hb dX12_copyRow_12 ?_
        refine lv_topi (fun v154 ev154 => ?_)
        obtain rfl : v154 = 0 := ev154.trans (by decide)
        refine lv_iload hx hb dX12_copyRow_13 (lv_at hl 0 rfl) ?_
        refine lv_iadd hx hb dX12_copyRow_15 ?_
        refine lv_topi (fun v155 ev155 => ?_)
        have rv155 : mm_rg v155 0 209 := mm_add ev155 mm_k0 q153 (by decide) (by decide)
        have tv155 := mm_addEd ev155 mm_k0 q153 (by decide) (k := 0) (by decide)
        refine lv_aload_n hx hb dX12_copyRow_16 rfl (lv_at hl 1 rfl) ?_
        refine lv_iload_n hx hb dX12_copyRow_17 rfl (lv_at hl 2 rfl) ?_
        refine lv_iload_n hx hb dX12_copyRow_18 rfl (lv_at hl 3 rfl) ?_
        refine lv_imul hx hb dX12_copyRow_19 ?_
        refine lv_topi (fun v156 ev156 => ?_)
        obtain rfl : v156 = 840 := ev156.trans (by decide)
        refine lv_iload hx hb dX12_copyRow_20 (lv_at hl 0 rfl) ?_
        refine lv_iadd hx hb dX12_copyRow_22 ?_
        refine lv_topi (fun v157 ev157 => ?_)
        have rv157 : mm_rg v157 840 1049 := mm_add ev157 mm_k840 q153 (by decide) (by decide)
        have tv157 := mm_addEd ev157 mm_k840 q153 (by decide) (k := 840) (by decide)
        refine va_iald hx hb hK.1 hP 0 1 rfl rfl (mm_in rv157 (by decide)) dX12_copyRow_23 ?_
        refine lv_topi (fun v158 ev158 => ?_)
        have rv158 : mm_rg v158 0 9 := mm_eqv ev158 (rz3_0_147 _)
        refine va_iast hx hb hK.1 hP hD hS 0 1 rfl rfl (mm_in rv155 (by decide)) dX12_copyRow_24 ?_
        clear hP hD hS
        clear H locs
        obtain ⟨g159, eg159⟩ : ∃ z : Nat → Int32, z = upd z3_0_147 v155.toNatClampNeg v158 := ⟨_, rfl⟩
        rw [← eg159]
        intro H locs (hP : va_P G vwCl [(a_0, .inl (cy 1, 1050, .inl g159))] H) (hD : va_D A [(a_0, .inl (cy 1, 1050, .inl g159))]) hS
        have rg159 : mm_ar g159 0 9 := by rw [eg159]; exact mm_ar_upd (mm_ar_wk rz3_0_147 (by decide)) (mm_wk rv158 (by decide)) _
        obtain ⟨v160, ev160⟩ : ∃ y : Int32, y = x3_4_146 + 1 := ⟨_, rfl⟩
        refine lv_iinc (v := v160) (lv' := [(4, .int v160), (0, .ref a_0), (1, .int 210), (2, .int 4), (3, .int 0)]) hx hb dX12_copyRow_25 hl (k := 0) rfl (by rw [ev160]; rfl) (by decide) rfl ?_
        clear hl
        clear ls
        intro ls hl
        have rv160 : mm_rg v160 1 210 := mm_add ev160 q153 mm_k1 (by decide) (by decide)
        have tv160 := mm_addEc ev160 q153 mm_k1 (by decide) (k := 1) (by decide)
        refine lv_goto (tgt := 3) hx hb dX12_copyRow_28 (by decide) ?_
        exact ih3 v160 g159 (mm_wk rv160 (by decide)) rg159 (mm_crk_s w148 tv160 q153 eg159 ev158 (by have := tv155; omega) (by have := tv157; omega) (by decide)) (mm_mu hm3 tv160 (by decide) (rv160).2 (by decide)) H locs hP hD hS ls (lv_sub hl [0, 1, 2, 3, 4] rfl)
  exact L3_148 _ 0 f_0 (mm_wk mm_k0 (by decide)) h0 (mm_crk_0 _ _ _ _) (Nat.lt_succ_self _) H locs hP hD hS ls (lv_sub hl [0, 1, 2, 3, 4] rfl)

set_option maxHeartbeats 4000000 in
set_option maxRecDepth 100000 in
theorem M86_X12_copyRow (l : Launch) (G : va_G) (cy : Nat → ClassId) (sz : Nat) (a_0 : Nat) (f_0 : Nat → Int32) (h0 : mm_ar f_0 0 8)  : mm_CV l yX12_copyRow (mm_ws yX12_copyRow cX12_copyRow 5 (none)) ({ frames := 0, cells := 0, slots := 0, locals := 0 } : Room) G cy sz [(a_0, .inl (cy 1, 30, .inl f_0))] [.ref a_0, .int 6, .int 4, .int 0] (fun u : (Nat → Int32) => [(a_0, .inl (cy 1, 30, .inl u))]) (fun u : (Nat → Int32) => mm_ar u 0 8 ∧ mm_crw f_0 u 6 4 0) 0 0 := by
  refine mm_begin (lv := [(0, .ref a_0), (1, .int 6), (2, .int 4), (3, .int 0)]) (by decide) (Nat.le_of_ble_eq_true rfl) rfl ?_
  intro p e s m below meth c A ls R args Q H locs hRe hQ hAe hx hb hr hlocks hml hown hnm hts hsz hA hS hP hK hD hZ hl
  have hRf : R.frames = 0 := by rw [hRe]
  have hRl : R.locals = 0 := by rw [hRe]
  have hRc : R.cells = 0 := by rw [hRe]
  have hRs : R.slots = 0 := by rw [hRe]
  refine lv_iconst (v := 0) hx hb dX12_copyRow_0 (by decide) ?_
  refine lv_istore (lv' := [(4, .int 0), (0, .ref a_0), (1, .int 6), (2, .int 4), (3, .int 0)]) hx hb dX12_copyRow_1 hl (by decide) rfl ?_
  clear hl
  clear ls
  intro ls hl
  have L3_75 : ∀ (n : Nat) (x3_4_73 : Int32) (z3_0_74 : Nat → Int32), mm_rg x3_4_73 0 6 → mm_ar z3_0_74 0 8 → mm_crk f_0 z3_0_74 6 4 0 x3_4_73 → (6 - x3_4_73.toInt).toNat < n → ∀ (H : Heap) (locs : List Loc), va_P G vwCl [(a_0, .inl (cy 1, 30, .inl z3_0_74))] H → va_D A [(a_0, .inl (cy 1, 30, .inl z3_0_74))] → va_S A s.heap H locs → ∀ (ls : Array Slot), lv_has ls 5 [(4, .int x3_4_73), (0, .ref a_0), (1, .int 6), (2, .int 4), (3, .int 0)] → W p l e R s m args below meth c H locs 0 0 Q (F0 m 3 ls []) := by
    intro n
    induction n with
    | zero => intro x3_4_73 z3_0_74 rx3_4_73 rz3_0_74 w75 hm; exact absurd hm (Nat.not_lt_zero _)
    | succ n ih3 =>
      intro x3_4_73 z3_0_74 rx3_4_73 rz3_0_74 w75 hm3 H locs hP hD hS ls hl
      refine lv_iload hx hb dX12_copyRow_3 (lv_at hl 0 rfl) ?_
      refine lv_iload_n hx hb dX12_copyRow_5 rfl (lv_at hl 2 rfl) ?_
      refine lv_icmp_ge (tgt := 31) hx hb dX12_copyRow_6 (by decide) (fun c77 => ?_) (fun c77 => ?_)
      · have q78 := mm_leR (mm_le c77) mm_k6 rx3_4_73
        have w79 : mm_crw f_0 z3_0_74 6 4 0 := (mm_crw_of w75 q78 (by decide))
        subst hAe
        rw [hQ]
        exact W.vret hx hb hr (fun t ht hW => ⟨⟨z3_0_74, rfl, ⟨rz3_0_74, w79⟩, by rw [ht]; exact hP, hK.warm hW, hD⟩, hS.F ht⟩) hS.2.2 dX12_copyRow_31
      · have q80 := mm_ltL (h := 5) (mm_nle c77) rx3_4_73 mm_k6 (by decide)
        refine lv_aload_n hx hb dX12_copyRow_9 rfl (lv_at hl 1 rfl) ?_
        refine lv_iload_n hx hb dX12_copyRow_10 rfl (lv_at hl 2 rfl) ?_
        refine lv_iload_n hx hb dX12_copyRow_11 rfl (lv_at hl 4 rfl) ?_
        refine lv_imul hx hb dX12_copyRow_12 ?_
        refine lv_topi (fun v81 ev81 => ?_)
        obtain rfl : v81 = 0 := ev81.trans (by decide)
        refine lv_iload hx hb dX12_copyRow_13 (lv_at hl 0 rfl) ?_
        refine lv_iadd hx hb dX12_copyRow_15 ?_
        refine lv_topi (fun v82 ev82 => ?_)
        have rv82 : mm_rg v82 0 5 := mm_add ev82 mm_k0 q80 (by decide) (by decide)
        have tv82 := mm_addEd ev82 mm_k0 q80 (by decide) (k := 0) (by decide)
        refine lv_aload_n hx hb dX12_copyRow_16 rfl (lv_at hl 1 rfl) ?_
        refine lv_iload_n hx hb dX12_copyRow_17 rfl (lv_at hl 2 rfl) ?_
        refine lv_iload_n hx hb dX12_copyRow_18 rfl (lv_at hl 3 rfl) ?_
        refine lv_imul hx hb dX12_copyRow_19 ?_
        refine lv_topi (fun v83 ev83 => ?_)
        obtain rfl : v83 = 24 := ev83.trans (by decide)
        refine lv_iload hx hb dX12_copyRow_20 (lv_at hl 0 rfl) ?_
        refine lv_iadd hx hb dX12_copyRow_22 ?_
        refine lv_topi (fun v84 ev84 => ?_)
        have rv84 : mm_rg v84 24 29 := mm_add ev84 mm_k24 q80 (by decide) (by decide)
        have tv84 := mm_addEd ev84 mm_k24 q80 (by decide) (k := 24) (by decide)
        refine va_iald hx hb hK.1 hP 0 1 rfl rfl (mm_in rv84 (by decide)) dX12_copyRow_23 ?_
        refine lv_topi (fun v85 ev85 => ?_)
        have rv85 : mm_rg v85 0 8 := mm_eqv ev85 (rz3_0_74 _)
        refine va_iast hx hb hK.1 hP hD hS 0 1 rfl rfl (mm_in rv82 (by decide)) dX12_copyRow_24 ?_
        clear hP hD hS
        clear H locs
        obtain ⟨g86, eg86⟩ : ∃ z : Nat → Int32, z = upd z3_0_74 v82.toNatClampNeg v85 := ⟨_, rfl⟩
        rw [← eg86]
        intro H locs (hP : va_P G vwCl [(a_0, .inl (cy 1, 30, .inl g86))] H) (hD : va_D A [(a_0, .inl (cy 1, 30, .inl g86))]) hS
        have rg86 : mm_ar g86 0 8 := by rw [eg86]; exact mm_ar_upd (mm_ar_wk rz3_0_74 (by decide)) (mm_wk rv85 (by decide)) _
        obtain ⟨v87, ev87⟩ : ∃ y : Int32, y = x3_4_73 + 1 := ⟨_, rfl⟩
        refine lv_iinc (v := v87) (lv' := [(4, .int v87), (0, .ref a_0), (1, .int 6), (2, .int 4), (3, .int 0)]) hx hb dX12_copyRow_25 hl (k := 0) rfl (by rw [ev87]; rfl) (by decide) rfl ?_
        clear hl
        clear ls
        intro ls hl
        have rv87 : mm_rg v87 1 6 := mm_add ev87 q80 mm_k1 (by decide) (by decide)
        have tv87 := mm_addEc ev87 q80 mm_k1 (by decide) (k := 1) (by decide)
        refine lv_goto (tgt := 3) hx hb dX12_copyRow_28 (by decide) ?_
        exact ih3 v87 g86 (mm_wk rv87 (by decide)) rg86 (mm_crk_s w75 tv87 q80 eg86 ev85 (by have := tv82; omega) (by have := tv84; omega) (by decide)) (mm_mu hm3 tv87 (by decide) (rv87).2 (by decide)) H locs hP hD hS ls (lv_sub hl [0, 1, 2, 3, 4] rfl)
  exact L3_75 _ 0 f_0 (mm_wk mm_k0 (by decide)) h0 (mm_crk_0 _ _ _ _) (Nat.lt_succ_self _) H locs hP hD hS ls (lv_sub hl [0, 1, 2, 3, 4] rfl)

set_option maxHeartbeats 4000000 in
set_option maxRecDepth 100000 in
theorem M87_X12_copyRow (l : Launch) (G : va_G) (cy : Nat → ClassId) (sz : Nat) (a_0 : Nat) (f_0 : Nat → Int32) (h0 : mm_ar f_0 0 9)  : mm_CV l yX12_copyRow (mm_ws yX12_copyRow cX12_copyRow 5 (none)) ({ frames := 0, cells := 0, slots := 0, locals := 0 } : Room) G cy sz [(a_0, .inl (cy 1, 240, .inl f_0))] [.ref a_0, .int 48, .int 4, .int 0] (fun u : (Nat → Int32) => [(a_0, .inl (cy 1, 240, .inl u))]) (fun u : (Nat → Int32) => mm_ar u 0 9 ∧ mm_crw f_0 u 48 4 0) 0 0 := by
  refine mm_begin (lv := [(0, .ref a_0), (1, .int 48), (2, .int 4), (3, .int 0)]) (by decide) (Nat.le_of_ble_eq_true rfl) rfl ?_
  intro p e s m below meth c A ls R args Q H locs hRe hQ hAe hx hb hr hlocks hml hown hnm hts hsz hA hS hP hK hD hZ hl
  have hRf : R.frames = 0 := by rw [hRe]
  have hRl : R.locals = 0 := by rw [hRe]
  have hRc : R.cells = 0 := by rw [hRe]
  have hRs : R.slots = 0 := by rw [hRe]
  refine lv_iconst (v := 0) hx hb dX12_copyRow_0 (by decide) ?_
  refine lv_istore (lv' := [(4, .int 0), (0, .ref a_0), (1, .int 48), (2, .int 4), (3, .int 0)]) hx hb dX12_copyRow_1 hl (by decide) rfl ?_
  clear hl
  clear ls
  intro ls hl
  have L3_130 : ∀ (n : Nat) (x3_4_128 : Int32) (z3_0_129 : Nat → Int32), mm_rg x3_4_128 0 48 → mm_ar z3_0_129 0 9 → mm_crk f_0 z3_0_129 48 4 0 x3_4_128 → (48 - x3_4_128.toInt).toNat < n → ∀ (H : Heap) (locs : List Loc), va_P G vwCl [(a_0, .inl (cy 1, 240, .inl z3_0_129))] H → va_D A [(a_0, .inl (cy 1, 240, .inl z3_0_129))] → va_S A s.heap H locs → ∀ (ls : Array Slot), lv_has ls 5 [(4, .int x3_4_128), (0, .ref a_0), (1, .int 48), (2, .int 4), (3, .int 0)] → W p l e R s m args below meth c H locs 0 0 Q (F0 m 3 ls []) := by
    intro n
    induction n with
    | zero => intro x3_4_128 z3_0_129 rx3_4_128 rz3_0_129 w130 hm; exact absurd hm (Nat.not_lt_zero _)
    | succ n ih3 =>
      intro x3_4_128 z3_0_129 rx3_4_128 rz3_0_129 w130 hm3 H locs hP hD hS ls hl
      refine lv_iload hx hb dX12_copyRow_3 (lv_at hl 0 rfl) ?_
      refine lv_iload_n hx hb dX12_copyRow_5 rfl (lv_at hl 2 rfl) ?_
      refine lv_icmp_ge (tgt := 31) hx hb dX12_copyRow_6 (by decide) (fun c132 => ?_) (fun c132 => ?_)
      · have q133 := mm_leR (mm_le c132) mm_k48 rx3_4_128
        have w134 : mm_crw f_0 z3_0_129 48 4 0 := (mm_crw_of w130 q133 (by decide))
        subst hAe
        rw [hQ]
        exact W.vret hx hb hr (fun t ht hW => ⟨⟨z3_0_129, rfl, ⟨rz3_0_129, w134⟩, by rw [ht]; exact hP, hK.warm hW, hD⟩, hS.F ht⟩) hS.2.2 dX12_copyRow_31
      · have q135 := mm_ltL (h := 47) (mm_nle c132) rx3_4_128 mm_k48 (by decide)
        refine lv_aload_n hx hb dX12_copyRow_9 rfl (lv_at hl 1 rfl) ?_
        refine lv_iload_n hx hb dX12_copyRow_10 rfl (lv_at hl 2 rfl) ?_
        refine lv_iload_n hx hb dX12_copyRow_11 rfl (lv_at hl 4 rfl) ?_
        refine lv_imul hx hb dX12_copyRow_12 ?_
        refine lv_topi (fun v136 ev136 => ?_)
        obtain rfl : v136 = 0 := ev136.trans (by decide)
        refine lv_iload hx hb dX12_copyRow_13 (lv_at hl 0 rfl) ?_
        refine lv_iadd hx hb dX12_copyRow_15 ?_
        refine lv_topi (fun v137 ev137 => ?_)
        have rv137 : mm_rg v137 0 47 := mm_add ev137 mm_k0 q135 (by decide) (by decide)
        have tv137 := mm_addEd ev137 mm_k0 q135 (by decide) (k := 0) (by decide)
        refine lv_aload_n hx hb dX12_copyRow_16 rfl (lv_at hl 1 rfl) ?_
        refine lv_iload_n hx hb dX12_copyRow_17 rfl (lv_at hl 2 rfl) ?_
        refine lv_iload_n hx hb dX12_copyRow_18 rfl (lv_at hl 3 rfl) ?_
        refine lv_imul hx hb dX12_copyRow_19 ?_
        refine lv_topi (fun v138 ev138 => ?_)
        obtain rfl : v138 = 192 := ev138.trans (by decide)
        refine lv_iload hx hb dX12_copyRow_20 (lv_at hl 0 rfl) ?_
        refine lv_iadd hx hb dX12_copyRow_22 ?_
        refine lv_topi (fun v139 ev139 => ?_)
        have rv139 : mm_rg v139 192 239 := mm_add ev139 mm_k192 q135 (by decide) (by decide)
        have tv139 := mm_addEd ev139 mm_k192 q135 (by decide) (k := 192) (by decide)
        refine va_iald hx hb hK.1 hP 0 1 rfl rfl (mm_in rv139 (by decide)) dX12_copyRow_23 ?_
        refine lv_topi (fun v140 ev140 => ?_)
        have rv140 : mm_rg v140 0 9 := mm_eqv ev140 (rz3_0_129 _)
        refine va_iast hx hb hK.1 hP hD hS 0 1 rfl rfl (mm_in rv137 (by decide)) dX12_copyRow_24 ?_
        clear hP hD hS
        clear H locs
        obtain ⟨g141, eg141⟩ : ∃ z : Nat → Int32, z = upd z3_0_129 v137.toNatClampNeg v140 := ⟨_, rfl⟩
        rw [← eg141]
        intro H locs (hP : va_P G vwCl [(a_0, .inl (cy 1, 240, .inl g141))] H) (hD : va_D A [(a_0, .inl (cy 1, 240, .inl g141))]) hS
        have rg141 : mm_ar g141 0 9 := by rw [eg141]; exact mm_ar_upd (mm_ar_wk rz3_0_129 (by decide)) (mm_wk rv140 (by decide)) _
        obtain ⟨v142, ev142⟩ : ∃ y : Int32, y = x3_4_128 + 1 := ⟨_, rfl⟩
        refine lv_iinc (v := v142) (lv' := [(4, .int v142), (0, .ref a_0), (1, .int 48), (2, .int 4), (3, .int 0)]) hx hb dX12_copyRow_25 hl (k := 0) rfl (by rw [ev142]; rfl) (by decide) rfl ?_
        clear hl
        clear ls
        intro ls hl
        have rv142 : mm_rg v142 1 48 := mm_add ev142 q135 mm_k1 (by decide) (by decide)
        have tv142 := mm_addEc ev142 q135 mm_k1 (by decide) (k := 1) (by decide)
        refine lv_goto (tgt := 3) hx hb dX12_copyRow_28 (by decide) ?_
        exact ih3 v142 g141 (mm_wk rv142 (by decide)) rg141 (mm_crk_s w130 tv142 q135 eg141 ev140 (by have := tv137; omega) (by have := tv139; omega) (by decide)) (mm_mu hm3 tv142 (by decide) (rv142).2 (by decide)) H locs hP hD hS ls (lv_sub hl [0, 1, 2, 3, 4] rfl)
  exact L3_130 _ 0 f_0 (mm_wk mm_k0 (by decide)) h0 (mm_crk_0 _ _ _ _) (Nat.lt_succ_self _) H locs hP hD hS ls (lv_sub hl [0, 1, 2, 3, 4] rfl)

set_option maxHeartbeats 4000000 in
set_option maxRecDepth 100000 in
theorem M88_X12_copyRow (l : Launch) (G : va_G) (cy : Nat → ClassId) (sz : Nat) (a_0 : Nat) (f_0 : Nat → Int32) (h0 : mm_ar f_0 (-1) 99)  : mm_CV l yX12_copyRow (mm_ws yX12_copyRow cX12_copyRow 5 (none)) ({ frames := 0, cells := 0, slots := 0, locals := 0 } : Room) G cy sz [(a_0, .inl (cy 1, 450, .inl f_0))] [.ref a_0, .int 90, .int 4, .int 0] (fun u : (Nat → Int32) => [(a_0, .inl (cy 1, 450, .inl u))]) (fun u : (Nat → Int32) => mm_ar u (-1) 99 ∧ mm_crw f_0 u 90 4 0) 0 0 := by
  refine mm_begin (lv := [(0, .ref a_0), (1, .int 90), (2, .int 4), (3, .int 0)]) (by decide) (Nat.le_of_ble_eq_true rfl) rfl ?_
  intro p e s m below meth c A ls R args Q H locs hRe hQ hAe hx hb hr hlocks hml hown hnm hts hsz hA hS hP hK hD hZ hl
  have hRf : R.frames = 0 := by rw [hRe]
  have hRl : R.locals = 0 := by rw [hRe]
  have hRc : R.cells = 0 := by rw [hRe]
  have hRs : R.slots = 0 := by rw [hRe]
  refine lv_iconst (v := 0) hx hb dX12_copyRow_0 (by decide) ?_
  refine lv_istore (lv' := [(4, .int 0), (0, .ref a_0), (1, .int 90), (2, .int 4), (3, .int 0)]) hx hb dX12_copyRow_1 hl (by decide) rfl ?_
  clear hl
  clear ls
  intro ls hl
  have L3_139 : ∀ (n : Nat) (x3_4_137 : Int32) (z3_0_138 : Nat → Int32), mm_rg x3_4_137 0 90 → mm_ar z3_0_138 (-1) 99 → mm_crk f_0 z3_0_138 90 4 0 x3_4_137 → (90 - x3_4_137.toInt).toNat < n → ∀ (H : Heap) (locs : List Loc), va_P G vwCl [(a_0, .inl (cy 1, 450, .inl z3_0_138))] H → va_D A [(a_0, .inl (cy 1, 450, .inl z3_0_138))] → va_S A s.heap H locs → ∀ (ls : Array Slot), lv_has ls 5 [(4, .int x3_4_137), (0, .ref a_0), (1, .int 90), (2, .int 4), (3, .int 0)] → W p l e R s m args below meth c H locs 0 0 Q (F0 m 3 ls []) := by
    intro n
    induction n with
    | zero => intro x3_4_137 z3_0_138 rx3_4_137 rz3_0_138 w139 hm; exact absurd hm (Nat.not_lt_zero _)
    | succ n ih3 =>
      intro x3_4_137 z3_0_138 rx3_4_137 rz3_0_138 w139 hm3 H locs hP hD hS ls hl
      refine lv_iload hx hb dX12_copyRow_3 (lv_at hl 0 rfl) ?_
      refine lv_iload_n hx hb dX12_copyRow_5 rfl (lv_at hl 2 rfl) ?_
      refine lv_icmp_ge (tgt := 31) hx hb dX12_copyRow_6 (by decide) (fun c141 => ?_) (fun c141 => ?_)
      · have q142 := mm_leR (mm_le c141) mm_k90 rx3_4_137
        have w143 : mm_crw f_0 z3_0_138 90 4 0 := (mm_crw_of w139 q142 (by decide))
        subst hAe
        rw [hQ]
        exact W.vret hx hb hr (fun t ht hW => ⟨⟨z3_0_138, rfl, ⟨rz3_0_138, w143⟩, by rw [ht]; exact hP, hK.warm hW, hD⟩, hS.F ht⟩) hS.2.2 dX12_copyRow_31
      · have q144 := mm_ltL (h := 89) (mm_nle c141) rx3_4_137 mm_k90 (by decide)
        refine lv_aload_n hx hb dX12_copyRow_9 rfl (lv_at hl 1 rfl) ?_
        refine lv_iload_n hx hb dX12_copyRow_10 rfl (lv_at hl 2 rfl) ?_
        refine lv_iload_n hx hb dX12_copyRow_11 rfl (lv_at hl 4 rfl) ?_
        refine lv_imul hx hb dX12_copyRow_12 ?_
        refine lv_topi (fun v145 ev145 => ?_)
        obtain rfl : v145 = 0 := ev145.trans (by decide)
        refine lv_iload hx hb dX12_copyRow_13 (lv_at hl 0 rfl) ?_
        refine lv_iadd hx hb dX12_copyRow_15 ?_
        refine lv_topi (fun v146 ev146 => ?_)
        have rv146 : mm_rg v146 0 89 := mm_add ev146 mm_k0 q144 (by decide) (by decide)
        have tv146 := mm_addEd ev146 mm_k0 q144 (by decide) (k := 0) (by decide)
        refine lv_aload_n hx hb dX12_copyRow_16 rfl (lv_at hl 1 rfl) ?_
        refine lv_iload_n hx hb dX12_copyRow_17 rfl (lv_at hl 2 rfl) ?_
        refine lv_iload_n hx hb dX12_copyRow_18 rfl (lv_at hl 3 rfl) ?_
        refine lv_imul hx hb dX12_copyRow_19 ?_
        refine lv_topi (fun v147 ev147 => ?_)
        obtain rfl : v147 = 360 := ev147.trans (by decide)
        refine lv_iload hx hb dX12_copyRow_20 (lv_at hl 0 rfl) ?_
        refine lv_iadd hx hb dX12_copyRow_22 ?_
        refine lv_topi (fun v148 ev148 => ?_)
        have rv148 : mm_rg v148 360 449 := mm_add ev148 mm_k360 q144 (by decide) (by decide)
        have tv148 := mm_addEd ev148 mm_k360 q144 (by decide) (k := 360) (by decide)
        refine va_iald hx hb hK.1 hP 0 1 rfl rfl (mm_in rv148 (by decide)) dX12_copyRow_23 ?_
        refine lv_topi (fun v149 ev149 => ?_)
        have rv149 : mm_rg v149 (-1) 99 := mm_eqv ev149 (rz3_0_138 _)
        refine va_iast hx hb hK.1 hP hD hS 0 1 rfl rfl (mm_in rv146 (by decide)) dX12_copyRow_24 ?_
        clear hP hD hS
        clear H locs
        obtain ⟨g150, eg150⟩ : ∃ z : Nat → Int32, z = upd z3_0_138 v146.toNatClampNeg v149 := ⟨_, rfl⟩
        rw [← eg150]
        intro H locs (hP : va_P G vwCl [(a_0, .inl (cy 1, 450, .inl g150))] H) (hD : va_D A [(a_0, .inl (cy 1, 450, .inl g150))]) hS
        have rg150 : mm_ar g150 (-1) 99 := by rw [eg150]; exact mm_ar_upd (mm_ar_wk rz3_0_138 (by decide)) (mm_wk rv149 (by decide)) _
        obtain ⟨v151, ev151⟩ : ∃ y : Int32, y = x3_4_137 + 1 := ⟨_, rfl⟩
        refine lv_iinc (v := v151) (lv' := [(4, .int v151), (0, .ref a_0), (1, .int 90), (2, .int 4), (3, .int 0)]) hx hb dX12_copyRow_25 hl (k := 0) rfl (by rw [ev151]; rfl) (by decide) rfl ?_
        clear hl
        clear ls
        intro ls hl
        have rv151 : mm_rg v151 1 90 := mm_add ev151 q144 mm_k1 (by decide) (by decide)
        have tv151 := mm_addEc ev151 q144 mm_k1 (by decide) (k := 1) (by decide)
        refine lv_goto (tgt := 3) hx hb dX12_copyRow_28 (by decide) ?_
        exact ih3 v151 g150 (mm_wk rv151 (by decide)) rg150 (mm_crk_s w139 tv151 q144 eg150 ev149 (by have := tv146; omega) (by have := tv148; omega) (by decide)) (mm_mu hm3 tv151 (by decide) (rv151).2 (by decide)) H locs hP hD hS ls (lv_sub hl [0, 1, 2, 3, 4] rfl)
  exact L3_139 _ 0 f_0 (mm_wk mm_k0 (by decide)) h0 (mm_crk_0 _ _ _ _) (Nat.lt_succ_self _) H locs hP hD hS ls (lv_sub hl [0, 1, 2, 3, 4] rfl)

set_option maxHeartbeats 4000000 in
set_option maxRecDepth 100000 in
theorem M89_X12_copyBook (l : Launch) (G : va_G) (cy : Nat → ClassId) (sz : Nat) (a_0 : Nat) (i_0 : Int32) (a_1 : Nat) (a_2 : Nat) (a_3 : Nat) (a_4 : Nat) (a_5 : Nat) (i_1 : Int32) (i_2 : Int32) (i_3 : Int32) (i_4 : Int32) (i_5 : Int32) (j_0 : Int64) (i_6 : Int32) (i_7 : Int32) (i_8 : Int32) (i_9 : Int32) (a_6 : Nat) (a_7 : Nat) (a_8 : Nat) (a_9 : Nat) (a_10 : Nat) (a_11 : Nat) (a_12 : Nat) (a_13 : Nat) (a_14 : Nat) (a_15 : Nat) (a_16 : Nat) (a_17 : Nat) (a_18 : Nat) (i_10 : Int32) (i_11 : Int32) (i_12 : Int32) (i_13 : Int32) (i_14 : Int32) (i_15 : Int32) (a_19 : Nat) (i_16 : Int32) (a_20 : Nat) (i_17 : Int32) (i_18 : Int32) (i_19 : Int32) (i_20 : Int32) (i_21 : Int32) (i_22 : Int32) (i_23 : Int32) (i_24 : Int32) (i_25 : Int32) (i_26 : Int32) (i_27 : Int32) (i_28 : Int32) (i_29 : Int32) (i_30 : Int32) (i_31 : Int32) (i_32 : Int32) (i_33 : Int32) (i_34 : Int32) (i_35 : Int32) (i_36 : Int32) (i_37 : Int32) (i_38 : Int32) (i_39 : Int32) (i_40 : Int32) (i_41 : Int32) (i_42 : Int32) (i_43 : Int32) (i_44 : Int32) (i_45 : Int32) (i_46 : Int32) (i_47 : Int32) (i_48 : Int32) (i_49 : Int32) (i_50 : Int32) (i_51 : Int32) (f_0 : Nat → Int32) (f_1 : Nat → Int32) (f_2 : Nat → Int32) (f_3 : Nat → Int32) (f_4 : Nat → Int32) (f_5 : Nat → Int32) (h0 : mm_rg i_17 0 601) (h1 : mm_rg i_18 0 601) (h2 : mm_rg i_19 0 601) (h3 : mm_rg i_20 0 601) (h4 : mm_rg i_21 0 601) (h5 : mm_rg i_22 0 10) (h6 : mm_rg i_23 0 99) (h7 : mm_rg i_24 0 9) (h8 : mm_rg i_25 0 3) (h9 : mm_rg i_26 0 6) (h10 : mm_rg i_27 0 30) (h11 : mm_rg i_28 0 10) (h12 : mm_rg i_29 0 99) (h13 : mm_rg i_30 0 9) (h14 : mm_rg i_31 0 3) (h15 : mm_rg i_32 0 6) (h16 : mm_rg i_33 0 30) (h17 : mm_rg i_34 0 10) (h18 : mm_rg i_35 0 99) (h19 : mm_rg i_36 0 9) (h20 : mm_rg i_37 0 3) (h21 : mm_rg i_38 0 6) (h22 : mm_rg i_39 0 30) (h23 : mm_rg i_40 0 10) (h24 : mm_rg i_41 0 99) (h25 : mm_rg i_42 0 9) (h26 : mm_rg i_43 0 3) (h27 : mm_rg i_44 0 6) (h28 : mm_rg i_45 0 30) (h29 : mm_rg i_46 0 10) (h30 : mm_rg i_47 0 99) (h31 : mm_rg i_48 0 9) (h32 : mm_rg i_49 0 3) (h33 : mm_rg i_50 0 6) (h34 : mm_rg i_51 0 30) (h35 : mm_ar f_0 0 99) (h36 : mm_ar f_1 0 7) (h37 : mm_ar f_2 0 9) (h38 : mm_ar f_3 0 8) (h39 : mm_ar f_4 0 9) (h40 : mm_ar f_5 (-1) 99) (h41 : mm_rls f_1 f_2 0 i_24 i_25) (h42 : mm_txs f_3 f_4 0 i_24 i_26) (h43 : mm_acs f_5 0 i_24 i_25 i_27) (h44 : mm_tl i_17 i_25 i_26) (h45 : mm_rls f_1 f_2 1 i_30 i_31) (h46 : mm_txs f_3 f_4 1 i_30 i_32) (h47 : mm_acs f_5 1 i_30 i_31 i_33) (h48 : mm_tl i_18 i_31 i_32) (h49 : mm_rls f_1 f_2 2 i_36 i_37) (h50 : mm_txs f_3 f_4 2 i_36 i_38) (h51 : mm_acs f_5 2 i_36 i_37 i_39) (h52 : mm_tl i_19 i_37 i_38) (h53 : mm_rls f_1 f_2 3 i_42 i_43) (h54 : mm_txs f_3 f_4 3 i_42 i_44) (h55 : mm_acs f_5 3 i_42 i_43 i_45) (h56 : mm_tl i_20 i_43 i_44) (h57 : mm_rls f_1 f_2 4 i_48 i_49) (h58 : mm_txs f_3 f_4 4 i_48 i_50) (h59 : mm_acs f_5 4 i_48 i_49 i_51) (h60 : mm_tl i_21 i_49 i_50)  : mm_CV l yX12_copyBook (mm_ws yX12_copyBook cX12_copyBook 3 (none)) ({ frames := 1, cells := 0, slots := 0, locals := 24 } : Room) G cy sz [(a_0, .inr (12, [.int i_0, .ref a_1, .ref a_2, .ref a_3, .ref a_4, .ref a_5, .int i_1, .int i_2, .int i_3, .int i_4, .int i_5, .long j_0, .int i_6, .int i_7, .int i_8, .int i_9, .ref a_6, .ref a_7, .ref a_8, .ref a_9, .ref a_10, .ref a_11, .ref a_12, .ref a_13, .ref a_14, .ref a_15, .ref a_16, .ref a_17, .ref a_18, .int i_10, .int i_11, .int i_12, .int i_13, .int i_14, .int i_15, .ref a_19, .int i_16, .ref a_20])), (a_6, .inl (cy 1, 5, .inl (mm_g [i_17, i_18, i_19, i_20, i_21]))), (a_7, .inl (cy 1, 30, .inl (mm_g [i_22, i_23, i_24, i_25, i_26, i_27, i_28, i_29, i_30, i_31, i_32, i_33, i_34, i_35, i_36, i_37, i_38, i_39, i_40, i_41, i_42, i_43, i_44, i_45, i_46, i_47, i_48, i_49, i_50, i_51]))), (a_8, .inl (cy 1, 90, .inl f_0)), (a_9, .inl (cy 1, 15, .inl f_1)), (a_10, .inl (cy 1, 1050, .inl f_2)), (a_11, .inl (cy 1, 30, .inl f_3)), (a_12, .inl (cy 1, 240, .inl f_4)), (a_13, .inl (cy 1, 450, .inl f_5))] [.ref a_0, .int 4, .int 0] (fun u : (Nat → Int32) × (Nat → Int32) × (Nat → Int32) × (Nat → Int32) × (Nat → Int32) × (Nat → Int32) => [(a_0, .inr (12, [.int i_0, .ref a_1, .ref a_2, .ref a_3, .ref a_4, .ref a_5, .int i_1, .int i_2, .int i_3, .int i_4, .int i_5, .long j_0, .int i_6, .int i_7, .int i_8, .int i_9, .ref a_6, .ref a_7, .ref a_8, .ref a_9, .ref a_10, .ref a_11, .ref a_12, .ref a_13, .ref a_14, .ref a_15, .ref a_16, .ref a_17, .ref a_18, .int i_10, .int i_11, .int i_12, .int i_13, .int i_14, .int i_15, .ref a_19, .int i_16, .ref a_20])), (a_6, .inl (cy 1, 5, .inl (mm_g [i_21, i_18, i_19, i_20, i_21]))), (a_7, .inl (cy 1, 30, .inl (mm_g [i_46, i_47, i_48, i_49, i_50, i_51, i_28, i_29, i_30, i_31, i_32, i_33, i_34, i_35, i_36, i_37, i_38, i_39, i_40, i_41, i_42, i_43, i_44, i_45, i_46, i_47, i_48, i_49, i_50, i_51]))), (a_8, .inl (cy 1, 90, .inl u.1)), (a_9, .inl (cy 1, 15, .inl u.2.1)), (a_10, .inl (cy 1, 1050, .inl u.2.2.1)), (a_11, .inl (cy 1, 30, .inl u.2.2.2.1)), (a_12, .inl (cy 1, 240, .inl u.2.2.2.2.1)), (a_13, .inl (cy 1, 450, .inl u.2.2.2.2.2))]) (fun u : (Nat → Int32) × (Nat → Int32) × (Nat → Int32) × (Nat → Int32) × (Nat → Int32) × (Nat → Int32) => mm_ar u.1 0 99 ∧ mm_ar u.2.1 0 7 ∧ mm_ar u.2.2.1 0 9 ∧ mm_ar u.2.2.2.1 0 8 ∧ mm_ar u.2.2.2.2.1 0 9 ∧ mm_ar u.2.2.2.2.2 (-1) 99 ∧ mm_rls u.2.1 u.2.2.1 0 i_48 i_49 ∧ mm_txs u.2.2.2.1 u.2.2.2.2.1 0 i_48 i_50 ∧ mm_acs u.2.2.2.2.2 0 i_48 i_49 i_51 ∧ mm_rls u.2.1 u.2.2.1 1 i_30 i_31 ∧ mm_txs u.2.2.2.1 u.2.2.2.2.1 1 i_30 i_32 ∧ mm_acs u.2.2.2.2.2 1 i_30 i_31 i_33 ∧ mm_rls u.2.1 u.2.2.1 2 i_36 i_37 ∧ mm_txs u.2.2.2.1 u.2.2.2.2.1 2 i_36 i_38 ∧ mm_acs u.2.2.2.2.2 2 i_36 i_37 i_39 ∧ mm_rls u.2.1 u.2.2.1 3 i_42 i_43 ∧ mm_txs u.2.2.2.1 u.2.2.2.2.1 3 i_42 i_44 ∧ mm_acs u.2.2.2.2.2 3 i_42 i_43 i_45) 0 0 := by
  refine mm_begin (lv := [(0, .ref a_0), (1, .int 4), (2, .int 0)]) (by decide) (Nat.le_of_ble_eq_true rfl) rfl ?_
  intro p e s m below meth c A ls R args Q H locs hRe hQ hAe hx hb hr hlocks hml hown hnm hts hsz hA hS hP hK hD hZ hl
  have hRf : R.frames = 1 := by rw [hRe]
  have hRl : R.locals = 24 := by rw [hRe]
  have hRc : R.cells = 0 := by rw [hRe]
  have hRs : R.slots = 0 := by rw [hRe]
  refine lv_aload_n hx hb dX12_copyBook_0 rfl (lv_at hl 0 rfl) ?_
  refine va_get (D := G) (ci := 12) (v := .ref a_6) (C := RX12) (T := TX12) (N := 38) hx hb hts (mm_i inlX12) hown hK.1 hP 0 rfl rfl 16 (by decide) (mm_h hts mm_w148) (fun _ h9 => h9) rfl dX12_copyBook_1 ?_
  refine lv_iconst (v := 1) hx hb dX12_copyBook_4 (by decide) ?_
  refine lv_iload_n hx hb dX12_copyBook_5 rfl (lv_at hl 1 rfl) ?_
  refine lv_iload_n hx hb dX12_copyBook_6 rfl (lv_at hl 2 rfl) ?_
  refine mm_finv (va_runS (As := [.ref a_6, .int 1, .int 4, .int 0]) (rest := []) ⟨hx, hb, hml, hown, hts⟩ (M81_X12_copyRow l G cy H.size a_6 i_17 i_18 i_19 i_20 i_21 h0 h1 h2 h3 h4) (va_cwS 4 hts (mm_gS mm_w557 mm_w558 mm_w5 mm_w559) rfl rfl rfl hs_X12_copyRow ⟨by rw [hRf]; exact Nat.le_of_ble_eq_true rfl, by rw [hRl]; exact Nat.le_of_ble_eq_true rfl⟩) (mm_preS hK hZ hS hA hP hD [1] rfl rfl) rfl rfl hl.1 rfl (lv_room (Nat.le_of_ble_eq_true rfl)) dX12_copyBook_7 ⟨by rw [hRc]; exact Nat.le_of_ble_eq_true rfl, by rw [hRs]; exact Nat.le_of_ble_eq_true rfl⟩) hP hD hS hA (fun u : Unit => [(a_0, .inr (12, [.int i_0, .ref a_1, .ref a_2, .ref a_3, .ref a_4, .ref a_5, .int i_1, .int i_2, .int i_3, .int i_4, .int i_5, .long j_0, .int i_6, .int i_7, .int i_8, .int i_9, .ref a_6, .ref a_7, .ref a_8, .ref a_9, .ref a_10, .ref a_11, .ref a_12, .ref a_13, .ref a_14, .ref a_15, .ref a_16, .ref a_17, .ref a_18, .int i_10, .int i_11, .int i_12, .int i_13, .int i_14, .int i_15, .ref a_19, .int i_16, .ref a_20])), (a_6, .inl (cy 1, 5, .inl (mm_g [i_21, i_18, i_19, i_20, i_21]))), (a_7, .inl (cy 1, 30, .inl (mm_g [i_22, i_23, i_24, i_25, i_26, i_27, i_28, i_29, i_30, i_31, i_32, i_33, i_34, i_35, i_36, i_37, i_38, i_39, i_40, i_41, i_42, i_43, i_44, i_45, i_46, i_47, i_48, i_49, i_50, i_51]))), (a_8, .inl (cy 1, 90, .inl f_0)), (a_9, .inl (cy 1, 15, .inl f_1)), (a_10, .inl (cy 1, 1050, .inl f_2)), (a_11, .inl (cy 1, 30, .inl f_3)), (a_12, .inl (cy 1, 240, .inl f_4)), (a_13, .inl (cy 1, 450, .inl f_5))]) [1] [0, 2, 3, 4, 5, 6, 7, 8] (n := 9) (fun _ => rfl) (by decide +kernel) (by decide +kernel) rfl (fun _ => rfl) (wr := [(a_0, .inr (12, [.int i_0, .ref a_1, .ref a_2, .ref a_3, .ref a_4, .ref a_5, .int i_1, .int i_2, .int i_3, .int i_4, .int i_5, .long j_0, .int i_6, .int i_7, .int i_8, .int i_9, .ref a_6, .ref a_7, .ref a_8, .ref a_9, .ref a_10, .ref a_11, .ref a_12, .ref a_13, .ref a_14, .ref a_15, .ref a_16, .ref a_17, .ref a_18, .int i_10, .int i_11, .int i_12, .int i_13, .int i_14, .int i_15, .ref a_19, .int i_16, .ref a_20])), (a_7, .inl (cy 1, 30, .inl (mm_g [i_22, i_23, i_24, i_25, i_26, i_27, i_28, i_29, i_30, i_31, i_32, i_33, i_34, i_35, i_36, i_37, i_38, i_39, i_40, i_41, i_42, i_43, i_44, i_45, i_46, i_47, i_48, i_49, i_50, i_51]))), (a_8, .inl (cy 1, 90, .inl f_0)), (a_9, .inl (cy 1, 15, .inl f_1)), (a_10, .inl (cy 1, 1050, .inl f_2)), (a_11, .inl (cy 1, 30, .inl f_3)), (a_12, .inl (cy 1, 240, .inl f_4)), (a_13, .inl (cy 1, 450, .inl f_5))]) rfl (fun _ => rfl) (fun _ => @rfl _ ([a_6] : List Nat)) ?_
  clear hP hD hS
  clear H locs
  intro _u H locs hw (hP : va_P G vwCl [(a_0, .inr (12, [.int i_0, .ref a_1, .ref a_2, .ref a_3, .ref a_4, .ref a_5, .int i_1, .int i_2, .int i_3, .int i_4, .int i_5, .long j_0, .int i_6, .int i_7, .int i_8, .int i_9, .ref a_6, .ref a_7, .ref a_8, .ref a_9, .ref a_10, .ref a_11, .ref a_12, .ref a_13, .ref a_14, .ref a_15, .ref a_16, .ref a_17, .ref a_18, .int i_10, .int i_11, .int i_12, .int i_13, .int i_14, .int i_15, .ref a_19, .int i_16, .ref a_20])), (a_6, .inl (cy 1, 5, .inl (mm_g [i_21, i_18, i_19, i_20, i_21]))), (a_7, .inl (cy 1, 30, .inl (mm_g [i_22, i_23, i_24, i_25, i_26, i_27, i_28, i_29, i_30, i_31, i_32, i_33, i_34, i_35, i_36, i_37, i_38, i_39, i_40, i_41, i_42, i_43, i_44, i_45, i_46, i_47, i_48, i_49, i_50, i_51]))), (a_8, .inl (cy 1, 90, .inl f_0)), (a_9, .inl (cy 1, 15, .inl f_1)), (a_10, .inl (cy 1, 1050, .inl f_2)), (a_11, .inl (cy 1, 30, .inl f_3)), (a_12, .inl (cy 1, 240, .inl f_4)), (a_13, .inl (cy 1, 450, .inl f_5))] H) (hD : va_D A [(a_0, .inr (12, [.int i_0, .ref a_1, .ref a_2, .ref a_3, .ref a_4, .ref a_5, .int i_1, .int i_2, .int i_3, .int i_4, .int i_5, .long j_0, .int i_6, .int i_7, .int i_8, .int i_9, .ref a_6, .ref a_7, .ref a_8, .ref a_9, .ref a_10, .ref a_11, .ref a_12, .ref a_13, .ref a_14, .ref a_15, .ref a_16, .ref a_17, .ref a_18, .int i_10, .int i_11, .int i_12, .int i_13, .int i_14, .int i_15, .ref a_19, .int i_16, .ref a_20])), (a_6, .inl (cy 1, 5, .inl (mm_g [i_21, i_18, i_19, i_20, i_21]))), (a_7, .inl (cy 1, 30, .inl (mm_g [i_22, i_23, i_24, i_25, i_26, i_27, i_28, i_29, i_30, i_31, i_32, i_33, i_34, i_35, i_36, i_37, i_38, i_39, i_40, i_41, i_42, i_43, i_44, i_45, i_46, i_47, i_48, i_49, i_50, i_51]))), (a_8, .inl (cy 1, 90, .inl f_0)), (a_9, .inl (cy 1, 15, .inl f_1)), (a_10, .inl (cy 1, 1050, .inl f_2)), (a_11, .inl (cy 1, 30, .inl f_3)), (a_12, .inl (cy 1, 240, .inl f_4)), (a_13, .inl (cy 1, 450, .inl f_5))]) hS
  refine lv_aload_n hx hb dX12_copyBook_10 rfl (lv_at hl 0 rfl) ?_
  refine va_get (D := G) (ci := 12) (v := .ref a_7) (C := RX12) (T := TX12) (N := 38) hx hb hts (mm_i inlX12) hown hK.1 hP 0 rfl rfl 17 (by decide) (mm_h hts mm_w149) (fun _ h9 => h9) rfl dX12_copyBook_11 ?_
  refine lv_bipush (v := 6) hx hb dX12_copyBook_14 (by decide) ?_
  refine lv_iload_n hx hb dX12_copyBook_16 rfl (lv_at hl 1 rfl) ?_
  refine lv_iload_n hx hb dX12_copyBook_17 rfl (lv_at hl 2 rfl) ?_
  refine mm_finv (va_runS (As := [.ref a_7, .int 6, .int 4, .int 0]) (rest := []) ⟨hx, hb, hml, hown, hts⟩ (M82_X12_copyRow l G cy H.size a_7 i_22 i_23 i_24 i_25 i_26 i_27 i_28 i_29 i_30 i_31 i_32 i_33 i_34 i_35 i_36 i_37 i_38 i_39 i_40 i_41 i_42 i_43 i_44 i_45 i_46 i_47 i_48 i_49 i_50 i_51 h5 h6 h7 h8 h9 h10 h11 h12 h13 h14 h15 h16 h17 h18 h19 h20 h21 h22 h23 h24 h25 h26 h27 h28 h29 h30 h31 h32 h33 h34) (va_cwS 4 hts (mm_gS mm_w557 mm_w558 mm_w5 mm_w559) rfl rfl rfl hs_X12_copyRow ⟨by rw [hRf]; exact Nat.le_of_ble_eq_true rfl, by rw [hRl]; exact Nat.le_of_ble_eq_true rfl⟩) (mm_preS hK hZ hS hA hP hD [2] rfl rfl) rfl rfl hl.1 rfl (lv_room (Nat.le_of_ble_eq_true rfl)) dX12_copyBook_18 ⟨by rw [hRc]; exact Nat.le_of_ble_eq_true rfl, by rw [hRs]; exact Nat.le_of_ble_eq_true rfl⟩) hP hD hS hA (fun u : Unit => [(a_0, .inr (12, [.int i_0, .ref a_1, .ref a_2, .ref a_3, .ref a_4, .ref a_5, .int i_1, .int i_2, .int i_3, .int i_4, .int i_5, .long j_0, .int i_6, .int i_7, .int i_8, .int i_9, .ref a_6, .ref a_7, .ref a_8, .ref a_9, .ref a_10, .ref a_11, .ref a_12, .ref a_13, .ref a_14, .ref a_15, .ref a_16, .ref a_17, .ref a_18, .int i_10, .int i_11, .int i_12, .int i_13, .int i_14, .int i_15, .ref a_19, .int i_16, .ref a_20])), (a_6, .inl (cy 1, 5, .inl (mm_g [i_21, i_18, i_19, i_20, i_21]))), (a_7, .inl (cy 1, 30, .inl (mm_g [i_46, i_47, i_48, i_49, i_50, i_51, i_28, i_29, i_30, i_31, i_32, i_33, i_34, i_35, i_36, i_37, i_38, i_39, i_40, i_41, i_42, i_43, i_44, i_45, i_46, i_47, i_48, i_49, i_50, i_51]))), (a_8, .inl (cy 1, 90, .inl f_0)), (a_9, .inl (cy 1, 15, .inl f_1)), (a_10, .inl (cy 1, 1050, .inl f_2)), (a_11, .inl (cy 1, 30, .inl f_3)), (a_12, .inl (cy 1, 240, .inl f_4)), (a_13, .inl (cy 1, 450, .inl f_5))]) [2] [0, 1, 3, 4, 5, 6, 7, 8] (n := 9) (fun _ => rfl) (by decide +kernel) (by decide +kernel) rfl (fun _ => rfl) (wr := [(a_0, .inr (12, [.int i_0, .ref a_1, .ref a_2, .ref a_3, .ref a_4, .ref a_5, .int i_1, .int i_2, .int i_3, .int i_4, .int i_5, .long j_0, .int i_6, .int i_7, .int i_8, .int i_9, .ref a_6, .ref a_7, .ref a_8, .ref a_9, .ref a_10, .ref a_11, .ref a_12, .ref a_13, .ref a_14, .ref a_15, .ref a_16, .ref a_17, .ref a_18, .int i_10, .int i_11, .int i_12, .int i_13, .int i_14, .int i_15, .ref a_19, .int i_16, .ref a_20])), (a_6, .inl (cy 1, 5, .inl (mm_g [i_21, i_18, i_19, i_20, i_21]))), (a_8, .inl (cy 1, 90, .inl f_0)), (a_9, .inl (cy 1, 15, .inl f_1)), (a_10, .inl (cy 1, 1050, .inl f_2)), (a_11, .inl (cy 1, 30, .inl f_3)), (a_12, .inl (cy 1, 240, .inl f_4)), (a_13, .inl (cy 1, 450, .inl f_5))]) rfl (fun _ => rfl) (fun _ => @rfl _ ([a_7] : List Nat)) ?_
  clear hP hD hS
  clear H locs
  intro _u H locs hw (hP : va_P G vwCl [(a_0, .inr (12, [.int i_0, .ref a_1, .ref a_2, .ref a_3, .ref a_4, .ref a_5, .int i_1, .int i_2, .int i_3, .int i_4, .int i_5, .long j_0, .int i_6, .int i_7, .int i_8, .int i_9, .ref a_6, .ref a_7, .ref a_8, .ref a_9, .ref a_10, .ref a_11, .ref a_12, .ref a_13, .ref a_14, .ref a_15, .ref a_16, .ref a_17, .ref a_18, .int i_10, .int i_11, .int i_12, .int i_13, .int i_14, .int i_15, .ref a_19, .int i_16, .ref a_20])), (a_6, .inl (cy 1, 5, .inl (mm_g [i_21, i_18, i_19, i_20, i_21]))), (a_7, .inl (cy 1, 30, .inl (mm_g [i_46, i_47, i_48, i_49, i_50, i_51, i_28, i_29, i_30, i_31, i_32, i_33, i_34, i_35, i_36, i_37, i_38, i_39, i_40, i_41, i_42, i_43, i_44, i_45, i_46, i_47, i_48, i_49, i_50, i_51]))), (a_8, .inl (cy 1, 90, .inl f_0)), (a_9, .inl (cy 1, 15, .inl f_1)), (a_10, .inl (cy 1, 1050, .inl f_2)), (a_11, .inl (cy 1, 30, .inl f_3)), (a_12, .inl (cy 1, 240, .inl f_4)), (a_13, .inl (cy 1, 450, .inl f_5))] H) (hD : va_D A [(a_0, .inr (12, [.int i_0, .ref a_1, .ref a_2, .ref a_3, .ref a_4, .ref a_5, .int i_1, .int i_2, .int i_3, .int i_4, .int i_5, .long j_0, .int i_6, .int i_7, .int i_8, .int i_9, .ref a_6, .ref a_7, .ref a_8, .ref a_9, .ref a_10, .ref a_11, .ref a_12, .ref a_13, .ref a_14, .ref a_15, .ref a_16, .ref a_17, .ref a_18, .int i_10, .int i_11, .int i_12, .int i_13, .int i_14, .int i_15, .ref a_19, .int i_16, .ref a_20])), (a_6, .inl (cy 1, 5, .inl (mm_g [i_21, i_18, i_19, i_20, i_21]))), (a_7, .inl (cy 1, 30, .inl (mm_g [i_46, i_47, i_48, i_49, i_50, i_51, i_28, i_29, i_30, i_31, i_32, i_33, i_34, i_35, i_36, i_37, i_38, i_39, i_40, i_41, i_42, i_43, i_44, i_45, i_46, i_47, i_48, i_49, i_50, i_51]))), (a_8, .inl (cy 1, 90, .inl f_0)), (a_9, .inl (cy 1, 15, .inl f_1)), (a_10, .inl (cy 1, 1050, .inl f_2)), (a_11, .inl (cy 1, 30, .inl f_3)), (a_12, .inl (cy 1, 240, .inl f_4)), (a_13, .inl (cy 1, 450, .inl f_5))]) hS
  refine lv_aload_n hx hb dX12_copyBook_21 rfl (lv_at hl 0 rfl) ?_
  refine va_get (D := G) (ci := 12) (v := .ref a_8) (C := RX12) (T := TX12) (N := 38) hx hb hts (mm_i inlX12) hown hK.1 hP 0 rfl rfl 18 (by decide) (mm_h hts mm_w150) (fun _ h9 => h9) rfl dX12_copyBook_22 ?_
  refine lv_bipush (v := 18) hx hb dX12_copyBook_25 (by decide) ?_
  refine lv_iload_n hx hb dX12_copyBook_27 rfl (lv_at hl 1 rfl) ?_
  refine lv_iload_n hx hb dX12_copyBook_28 rfl (lv_at hl 2 rfl) ?_
  refine mm_finv (va_runS (As := [.ref a_8, .int 18, .int 4, .int 0]) (rest := []) ⟨hx, hb, hml, hown, hts⟩ (M83_X12_copyRow l G cy H.size a_8 f_0 h35) (va_cwS 4 hts (mm_gS mm_w557 mm_w558 mm_w5 mm_w559) rfl rfl rfl hs_X12_copyRow ⟨by rw [hRf]; exact Nat.le_of_ble_eq_true rfl, by rw [hRl]; exact Nat.le_of_ble_eq_true rfl⟩) (mm_preS hK hZ hS hA hP hD [3] rfl rfl) rfl rfl hl.1 rfl (lv_room (Nat.le_of_ble_eq_true rfl)) dX12_copyBook_29 ⟨by rw [hRc]; exact Nat.le_of_ble_eq_true rfl, by rw [hRs]; exact Nat.le_of_ble_eq_true rfl⟩) hP hD hS hA (fun u : (Nat → Int32) => [(a_0, .inr (12, [.int i_0, .ref a_1, .ref a_2, .ref a_3, .ref a_4, .ref a_5, .int i_1, .int i_2, .int i_3, .int i_4, .int i_5, .long j_0, .int i_6, .int i_7, .int i_8, .int i_9, .ref a_6, .ref a_7, .ref a_8, .ref a_9, .ref a_10, .ref a_11, .ref a_12, .ref a_13, .ref a_14, .ref a_15, .ref a_16, .ref a_17, .ref a_18, .int i_10, .int i_11, .int i_12, .int i_13, .int i_14, .int i_15, .ref a_19, .int i_16, .ref a_20])), (a_6, .inl (cy 1, 5, .inl (mm_g [i_21, i_18, i_19, i_20, i_21]))), (a_7, .inl (cy 1, 30, .inl (mm_g [i_46, i_47, i_48, i_49, i_50, i_51, i_28, i_29, i_30, i_31, i_32, i_33, i_34, i_35, i_36, i_37, i_38, i_39, i_40, i_41, i_42, i_43, i_44, i_45, i_46, i_47, i_48, i_49, i_50, i_51]))), (a_8, .inl (cy 1, 90, .inl u)), (a_9, .inl (cy 1, 15, .inl f_1)), (a_10, .inl (cy 1, 1050, .inl f_2)), (a_11, .inl (cy 1, 30, .inl f_3)), (a_12, .inl (cy 1, 240, .inl f_4)), (a_13, .inl (cy 1, 450, .inl f_5))]) [3] [0, 1, 2, 4, 5, 6, 7, 8] (n := 9) (fun _ => rfl) (by decide +kernel) (by decide +kernel) rfl (fun _ => rfl) (wr := [(a_0, .inr (12, [.int i_0, .ref a_1, .ref a_2, .ref a_3, .ref a_4, .ref a_5, .int i_1, .int i_2, .int i_3, .int i_4, .int i_5, .long j_0, .int i_6, .int i_7, .int i_8, .int i_9, .ref a_6, .ref a_7, .ref a_8, .ref a_9, .ref a_10, .ref a_11, .ref a_12, .ref a_13, .ref a_14, .ref a_15, .ref a_16, .ref a_17, .ref a_18, .int i_10, .int i_11, .int i_12, .int i_13, .int i_14, .int i_15, .ref a_19, .int i_16, .ref a_20])), (a_6, .inl (cy 1, 5, .inl (mm_g [i_21, i_18, i_19, i_20, i_21]))), (a_7, .inl (cy 1, 30, .inl (mm_g [i_46, i_47, i_48, i_49, i_50, i_51, i_28, i_29, i_30, i_31, i_32, i_33, i_34, i_35, i_36, i_37, i_38, i_39, i_40, i_41, i_42, i_43, i_44, i_45, i_46, i_47, i_48, i_49, i_50, i_51]))), (a_9, .inl (cy 1, 15, .inl f_1)), (a_10, .inl (cy 1, 1050, .inl f_2)), (a_11, .inl (cy 1, 30, .inl f_3)), (a_12, .inl (cy 1, 240, .inl f_4)), (a_13, .inl (cy 1, 450, .inl f_5))]) rfl (fun _ => rfl) (fun _ => rfl) ?_
  clear hP hD hS
  clear H locs
  intro n1 H locs hw (hP : va_P G vwCl [(a_0, .inr (12, [.int i_0, .ref a_1, .ref a_2, .ref a_3, .ref a_4, .ref a_5, .int i_1, .int i_2, .int i_3, .int i_4, .int i_5, .long j_0, .int i_6, .int i_7, .int i_8, .int i_9, .ref a_6, .ref a_7, .ref a_8, .ref a_9, .ref a_10, .ref a_11, .ref a_12, .ref a_13, .ref a_14, .ref a_15, .ref a_16, .ref a_17, .ref a_18, .int i_10, .int i_11, .int i_12, .int i_13, .int i_14, .int i_15, .ref a_19, .int i_16, .ref a_20])), (a_6, .inl (cy 1, 5, .inl (mm_g [i_21, i_18, i_19, i_20, i_21]))), (a_7, .inl (cy 1, 30, .inl (mm_g [i_46, i_47, i_48, i_49, i_50, i_51, i_28, i_29, i_30, i_31, i_32, i_33, i_34, i_35, i_36, i_37, i_38, i_39, i_40, i_41, i_42, i_43, i_44, i_45, i_46, i_47, i_48, i_49, i_50, i_51]))), (a_8, .inl (cy 1, 90, .inl n1)), (a_9, .inl (cy 1, 15, .inl f_1)), (a_10, .inl (cy 1, 1050, .inl f_2)), (a_11, .inl (cy 1, 30, .inl f_3)), (a_12, .inl (cy 1, 240, .inl f_4)), (a_13, .inl (cy 1, 450, .inl f_5))] H) (hD : va_D A [(a_0, .inr (12, [.int i_0, .ref a_1, .ref a_2, .ref a_3, .ref a_4, .ref a_5, .int i_1, .int i_2, .int i_3, .int i_4, .int i_5, .long j_0, .int i_6, .int i_7, .int i_8, .int i_9, .ref a_6, .ref a_7, .ref a_8, .ref a_9, .ref a_10, .ref a_11, .ref a_12, .ref a_13, .ref a_14, .ref a_15, .ref a_16, .ref a_17, .ref a_18, .int i_10, .int i_11, .int i_12, .int i_13, .int i_14, .int i_15, .ref a_19, .int i_16, .ref a_20])), (a_6, .inl (cy 1, 5, .inl (mm_g [i_21, i_18, i_19, i_20, i_21]))), (a_7, .inl (cy 1, 30, .inl (mm_g [i_46, i_47, i_48, i_49, i_50, i_51, i_28, i_29, i_30, i_31, i_32, i_33, i_34, i_35, i_36, i_37, i_38, i_39, i_40, i_41, i_42, i_43, i_44, i_45, i_46, i_47, i_48, i_49, i_50, i_51]))), (a_8, .inl (cy 1, 90, .inl n1)), (a_9, .inl (cy 1, 15, .inl f_1)), (a_10, .inl (cy 1, 1050, .inl f_2)), (a_11, .inl (cy 1, 30, .inl f_3)), (a_12, .inl (cy 1, 240, .inl f_4)), (a_13, .inl (cy 1, 450, .inl f_5))]) hS
  obtain ⟨w2, w3⟩ := hw
  refine lv_aload_n hx hb dX12_copyBook_32 rfl (lv_at hl 0 rfl) ?_
  refine va_get (D := G) (ci := 12) (v := .ref a_9) (C := RX12) (T := TX12) (N := 38) hx hb hts (mm_i inlX12) hown hK.1 hP 0 rfl rfl 19 (by decide) (mm_h hts mm_w151) (fun _ h9 => h9) rfl dX12_copyBook_33 ?_
  refine lv_iconst (v := 3) hx hb dX12_copyBook_36 (by decide) ?_
  refine lv_iload_n hx hb dX12_copyBook_37 rfl (lv_at hl 1 rfl) ?_
  refine lv_iload_n hx hb dX12_copyBook_38 rfl (lv_at hl 2 rfl) ?_
  refine mm_finv (va_runS (As := [.ref a_9, .int 3, .int 4, .int 0]) (rest := []) ⟨hx, hb, hml, hown, hts⟩ (M84_X12_copyRow l G cy H.size a_9 f_1 h36) (va_cwS 4 hts (mm_gS mm_w557 mm_w558 mm_w5 mm_w559) rfl rfl rfl hs_X12_copyRow ⟨by rw [hRf]; exact Nat.le_of_ble_eq_true rfl, by rw [hRl]; exact Nat.le_of_ble_eq_true rfl⟩) (mm_preS hK hZ hS hA hP hD [4] rfl rfl) rfl rfl hl.1 rfl (lv_room (Nat.le_of_ble_eq_true rfl)) dX12_copyBook_39 ⟨by rw [hRc]; exact Nat.le_of_ble_eq_true rfl, by rw [hRs]; exact Nat.le_of_ble_eq_true rfl⟩) hP hD hS hA (fun u : (Nat → Int32) => [(a_0, .inr (12, [.int i_0, .ref a_1, .ref a_2, .ref a_3, .ref a_4, .ref a_5, .int i_1, .int i_2, .int i_3, .int i_4, .int i_5, .long j_0, .int i_6, .int i_7, .int i_8, .int i_9, .ref a_6, .ref a_7, .ref a_8, .ref a_9, .ref a_10, .ref a_11, .ref a_12, .ref a_13, .ref a_14, .ref a_15, .ref a_16, .ref a_17, .ref a_18, .int i_10, .int i_11, .int i_12, .int i_13, .int i_14, .int i_15, .ref a_19, .int i_16, .ref a_20])), (a_6, .inl (cy 1, 5, .inl (mm_g [i_21, i_18, i_19, i_20, i_21]))), (a_7, .inl (cy 1, 30, .inl (mm_g [i_46, i_47, i_48, i_49, i_50, i_51, i_28, i_29, i_30, i_31, i_32, i_33, i_34, i_35, i_36, i_37, i_38, i_39, i_40, i_41, i_42, i_43, i_44, i_45, i_46, i_47, i_48, i_49, i_50, i_51]))), (a_8, .inl (cy 1, 90, .inl n1)), (a_9, .inl (cy 1, 15, .inl u)), (a_10, .inl (cy 1, 1050, .inl f_2)), (a_11, .inl (cy 1, 30, .inl f_3)), (a_12, .inl (cy 1, 240, .inl f_4)), (a_13, .inl (cy 1, 450, .inl f_5))]) [4] [0, 1, 2, 3, 5, 6, 7, 8] (n := 9) (fun _ => rfl) (by decide +kernel) (by decide +kernel) rfl (fun _ => rfl) (wr := [(a_0, .inr (12, [.int i_0, .ref a_1, .ref a_2, .ref a_3, .ref a_4, .ref a_5, .int i_1, .int i_2, .int i_3, .int i_4, .int i_5, .long j_0, .int i_6, .int i_7, .int i_8, .int i_9, .ref a_6, .ref a_7, .ref a_8, .ref a_9, .ref a_10, .ref a_11, .ref a_12, .ref a_13, .ref a_14, .ref a_15, .ref a_16, .ref a_17, .ref a_18, .int i_10, .int i_11, .int i_12, .int i_13, .int i_14, .int i_15, .ref a_19, .int i_16, .ref a_20])), (a_6, .inl (cy 1, 5, .inl (mm_g [i_21, i_18, i_19, i_20, i_21]))), (a_7, .inl (cy 1, 30, .inl (mm_g [i_46, i_47, i_48, i_49, i_50, i_51, i_28, i_29, i_30, i_31, i_32, i_33, i_34, i_35, i_36, i_37, i_38, i_39, i_40, i_41, i_42, i_43, i_44, i_45, i_46, i_47, i_48, i_49, i_50, i_51]))), (a_8, .inl (cy 1, 90, .inl n1)), (a_10, .inl (cy 1, 1050, .inl f_2)), (a_11, .inl (cy 1, 30, .inl f_3)), (a_12, .inl (cy 1, 240, .inl f_4)), (a_13, .inl (cy 1, 450, .inl f_5))]) rfl (fun _ => rfl) (fun _ => rfl) ?_
  clear hP hD hS
  clear H locs
  intro n4 H locs hw (hP : va_P G vwCl [(a_0, .inr (12, [.int i_0, .ref a_1, .ref a_2, .ref a_3, .ref a_4, .ref a_5, .int i_1, .int i_2, .int i_3, .int i_4, .int i_5, .long j_0, .int i_6, .int i_7, .int i_8, .int i_9, .ref a_6, .ref a_7, .ref a_8, .ref a_9, .ref a_10, .ref a_11, .ref a_12, .ref a_13, .ref a_14, .ref a_15, .ref a_16, .ref a_17, .ref a_18, .int i_10, .int i_11, .int i_12, .int i_13, .int i_14, .int i_15, .ref a_19, .int i_16, .ref a_20])), (a_6, .inl (cy 1, 5, .inl (mm_g [i_21, i_18, i_19, i_20, i_21]))), (a_7, .inl (cy 1, 30, .inl (mm_g [i_46, i_47, i_48, i_49, i_50, i_51, i_28, i_29, i_30, i_31, i_32, i_33, i_34, i_35, i_36, i_37, i_38, i_39, i_40, i_41, i_42, i_43, i_44, i_45, i_46, i_47, i_48, i_49, i_50, i_51]))), (a_8, .inl (cy 1, 90, .inl n1)), (a_9, .inl (cy 1, 15, .inl n4)), (a_10, .inl (cy 1, 1050, .inl f_2)), (a_11, .inl (cy 1, 30, .inl f_3)), (a_12, .inl (cy 1, 240, .inl f_4)), (a_13, .inl (cy 1, 450, .inl f_5))] H) (hD : va_D A [(a_0, .inr (12, [.int i_0, .ref a_1, .ref a_2, .ref a_3, .ref a_4, .ref a_5, .int i_1, .int i_2, .int i_3, .int i_4, .int i_5, .long j_0, .int i_6, .int i_7, .int i_8, .int i_9, .ref a_6, .ref a_7, .ref a_8, .ref a_9, .ref a_10, .ref a_11, .ref a_12, .ref a_13, .ref a_14, .ref a_15, .ref a_16, .ref a_17, .ref a_18, .int i_10, .int i_11, .int i_12, .int i_13, .int i_14, .int i_15, .ref a_19, .int i_16, .ref a_20])), (a_6, .inl (cy 1, 5, .inl (mm_g [i_21, i_18, i_19, i_20, i_21]))), (a_7, .inl (cy 1, 30, .inl (mm_g [i_46, i_47, i_48, i_49, i_50, i_51, i_28, i_29, i_30, i_31, i_32, i_33, i_34, i_35, i_36, i_37, i_38, i_39, i_40, i_41, i_42, i_43, i_44, i_45, i_46, i_47, i_48, i_49, i_50, i_51]))), (a_8, .inl (cy 1, 90, .inl n1)), (a_9, .inl (cy 1, 15, .inl n4)), (a_10, .inl (cy 1, 1050, .inl f_2)), (a_11, .inl (cy 1, 30, .inl f_3)), (a_12, .inl (cy 1, 240, .inl f_4)), (a_13, .inl (cy 1, 450, .inl f_5))]) hS
  obtain ⟨w5, w6⟩ := hw
  refine lv_aload_n hx hb dX12_copyBook_42 rfl (lv_at hl 0 rfl) ?_
  refine va_get (D := G) (ci := 12) (v := .ref a_10) (C := RX12) (T := TX12) (N := 38) hx hb hts (mm_i inlX12) hown hK.1 hP 0 rfl rfl 20 (by decide) (mm_h hts mm_w152) (fun _ h9 => h9) rfl dX12_copyBook_43 ?_
  refine lv_sipush (v := 210) hx hb dX12_copyBook_46 (by decide) ?_
  refine lv_iload_n hx hb dX12_copyBook_49 rfl (lv_at hl 1 rfl) ?_
  refine lv_iload_n hx hb dX12_copyBook_50 rfl (lv_at hl 2 rfl) ?_
  refine mm_finv (va_runS (As := [.ref a_10, .int 210, .int 4, .int 0]) (rest := []) ⟨hx, hb, hml, hown, hts⟩ (M85_X12_copyRow l G cy H.size a_10 f_2 h37) (va_cwS 4 hts (mm_gS mm_w557 mm_w558 mm_w5 mm_w559) rfl rfl rfl hs_X12_copyRow ⟨by rw [hRf]; exact Nat.le_of_ble_eq_true rfl, by rw [hRl]; exact Nat.le_of_ble_eq_true rfl⟩) (mm_preS hK hZ hS hA hP hD [5] rfl rfl) rfl rfl hl.1 rfl (lv_room (Nat.le_of_ble_eq_true rfl)) dX12_copyBook_51 ⟨by rw [hRc]; exact Nat.le_of_ble_eq_true rfl, by rw [hRs]; exact Nat.le_of_ble_eq_true rfl⟩) hP hD hS hA (fun u : (Nat → Int32) => [(a_0, .inr (12, [.int i_0, .ref a_1, .ref a_2, .ref a_3, .ref a_4, .ref a_5, .int i_1, .int i_2, .int i_3, .int i_4, .int i_5, .long j_0, .int i_6, .int i_7, .int i_8, .int i_9, .ref a_6, .ref a_7, .ref a_8, .ref a_9, .ref a_10, .ref a_11, .ref a_12, .ref a_13, .ref a_14, .ref a_15, .ref a_16, .ref a_17, .ref a_18, .int i_10, .int i_11, .int i_12, .int i_13, .int i_14, .int i_15, .ref a_19, .int i_16, .ref a_20])), (a_6, .inl (cy 1, 5, .inl (mm_g [i_21, i_18, i_19, i_20, i_21]))), (a_7, .inl (cy 1, 30, .inl (mm_g [i_46, i_47, i_48, i_49, i_50, i_51, i_28, i_29, i_30, i_31, i_32, i_33, i_34, i_35, i_36, i_37, i_38, i_39, i_40, i_41, i_42, i_43, i_44, i_45, i_46, i_47, i_48, i_49, i_50, i_51]))), (a_8, .inl (cy 1, 90, .inl n1)), (a_9, .inl (cy 1, 15, .inl n4)), (a_10, .inl (cy 1, 1050, .inl u)), (a_11, .inl (cy 1, 30, .inl f_3)), (a_12, .inl (cy 1, 240, .inl f_4)), (a_13, .inl (cy 1, 450, .inl f_5))]) [5] [0, 1, 2, 3, 4, 6, 7, 8] (n := 9) (fun _ => rfl) (by decide +kernel) (by decide +kernel) rfl (fun _ => rfl) (wr := [(a_0, .inr (12, [.int i_0, .ref a_1, .ref a_2, .ref a_3, .ref a_4, .ref a_5, .int i_1, .int i_2, .int i_3, .int i_4, .int i_5, .long j_0, .int i_6, .int i_7, .int i_8, .int i_9, .ref a_6, .ref a_7, .ref a_8, .ref a_9, .ref a_10, .ref a_11, .ref a_12, .ref a_13, .ref a_14, .ref a_15, .ref a_16, .ref a_17, .ref a_18, .int i_10, .int i_11, .int i_12, .int i_13, .int i_14, .int i_15, .ref a_19, .int i_16, .ref a_20])), (a_6, .inl (cy 1, 5, .inl (mm_g [i_21, i_18, i_19, i_20, i_21]))), (a_7, .inl (cy 1, 30, .inl (mm_g [i_46, i_47, i_48, i_49, i_50, i_51, i_28, i_29, i_30, i_31, i_32, i_33, i_34, i_35, i_36, i_37, i_38, i_39, i_40, i_41, i_42, i_43, i_44, i_45, i_46, i_47, i_48, i_49, i_50, i_51]))), (a_8, .inl (cy 1, 90, .inl n1)), (a_9, .inl (cy 1, 15, .inl n4)), (a_11, .inl (cy 1, 30, .inl f_3)), (a_12, .inl (cy 1, 240, .inl f_4)), (a_13, .inl (cy 1, 450, .inl f_5))]) rfl (fun _ => rfl) (fun _ => rfl) ?_
  clear hP hD hS
  clear H locs
  intro n7 H locs hw (hP : va_P G vwCl [(a_0, .inr (12, [.int i_0, .ref a_1, .ref a_2, .ref a_3, .ref a_4, .ref a_5, .int i_1, .int i_2, .int i_3, .int i_4, .int i_5, .long j_0, .int i_6, .int i_7, .int i_8, .int i_9, .ref a_6, .ref a_7, .ref a_8, .ref a_9, .ref a_10, .ref a_11, .ref a_12, .ref a_13, .ref a_14, .ref a_15, .ref a_16, .ref a_17, .ref a_18, .int i_10, .int i_11, .int i_12, .int i_13, .int i_14, .int i_15, .ref a_19, .int i_16, .ref a_20])), (a_6, .inl (cy 1, 5, .inl (mm_g [i_21, i_18, i_19, i_20, i_21]))), (a_7, .inl (cy 1, 30, .inl (mm_g [i_46, i_47, i_48, i_49, i_50, i_51, i_28, i_29, i_30, i_31, i_32, i_33, i_34, i_35, i_36, i_37, i_38, i_39, i_40, i_41, i_42, i_43, i_44, i_45, i_46, i_47, i_48, i_49, i_50, i_51]))), (a_8, .inl (cy 1, 90, .inl n1)), (a_9, .inl (cy 1, 15, .inl n4)), (a_10, .inl (cy 1, 1050, .inl n7)), (a_11, .inl (cy 1, 30, .inl f_3)), (a_12, .inl (cy 1, 240, .inl f_4)), (a_13, .inl (cy 1, 450, .inl f_5))] H) (hD : va_D A [(a_0, .inr (12, [.int i_0, .ref a_1, .ref a_2, .ref a_3, .ref a_4, .ref a_5, .int i_1, .int i_2, .int i_3, .int i_4, .int i_5, .long j_0, .int i_6, .int i_7, .int i_8, .int i_9, .ref a_6, .ref a_7, .ref a_8, .ref a_9, .ref a_10, .ref a_11, .ref a_12, .ref a_13, .ref a_14, .ref a_15, .ref a_16, .ref a_17, .ref a_18, .int i_10, .int i_11, .int i_12, .int i_13, .int i_14, .int i_15, .ref a_19, .int i_16, .ref a_20])), (a_6, .inl (cy 1, 5, .inl (mm_g [i_21, i_18, i_19, i_20, i_21]))), (a_7, .inl (cy 1, 30, .inl (mm_g [i_46, i_47, i_48, i_49, i_50, i_51, i_28, i_29, i_30, i_31, i_32, i_33, i_34, i_35, i_36, i_37, i_38, i_39, i_40, i_41, i_42, i_43, i_44, i_45, i_46, i_47, i_48, i_49, i_50, i_51]))), (a_8, .inl (cy 1, 90, .inl n1)), (a_9, .inl (cy 1, 15, .inl n4)), (a_10, .inl (cy 1, 1050, .inl n7)), (a_11, .inl (cy 1, 30, .inl f_3)), (a_12, .inl (cy 1, 240, .inl f_4)), (a_13, .inl (cy 1, 450, .inl f_5))]) hS
  obtain ⟨w8, w9⟩ := hw
  refine lv_aload_n hx hb dX12_copyBook_54 rfl (lv_at hl 0 rfl) ?_
  refine va_get (D := G) (ci := 12) (v := .ref a_11) (C := RX12) (T := TX12) (N := 38) hx hb hts (mm_i inlX12) hown hK.1 hP 0 rfl rfl 21 (by decide) (mm_h hts mm_w153) (fun _ h9 => h9) rfl dX12_copyBook_55 ?_
  refine lv_bipush (v := 6) hx hb dX12_copyBook_58 (by decide) ?_
  refine lv_iload_n hx hb dX12_copyBook_60 rfl (lv_at hl 1 rfl) ?_
  refine lv_iload_n hx hb dX12_copyBook_61 rfl (lv_at hl 2 rfl) ?_
  refine mm_finv (va_runS (As := [.ref a_11, .int 6, .int 4, .int 0]) (rest := []) ⟨hx, hb, hml, hown, hts⟩ (M86_X12_copyRow l G cy H.size a_11 f_3 h38) (va_cwS 4 hts (mm_gS mm_w557 mm_w558 mm_w5 mm_w559) rfl rfl rfl hs_X12_copyRow ⟨by rw [hRf]; exact Nat.le_of_ble_eq_true rfl, by rw [hRl]; exact Nat.le_of_ble_eq_true rfl⟩) (mm_preS hK hZ hS hA hP hD [6] rfl rfl) rfl rfl hl.1 rfl (lv_room (Nat.le_of_ble_eq_true rfl)) dX12_copyBook_62 ⟨by rw [hRc]; exact Nat.le_of_ble_eq_true rfl, by rw [hRs]; exact Nat.le_of_ble_eq_true rfl⟩) hP hD hS hA (fun u : (Nat → Int32) => [(a_0, .inr (12, [.int i_0, .ref a_1, .ref a_2, .ref a_3, .ref a_4, .ref a_5, .int i_1, .int i_2, .int i_3, .int i_4, .int i_5, .long j_0, .int i_6, .int i_7, .int i_8, .int i_9, .ref a_6, .ref a_7, .ref a_8, .ref a_9, .ref a_10, .ref a_11, .ref a_12, .ref a_13, .ref a_14, .ref a_15, .ref a_16, .ref a_17, .ref a_18, .int i_10, .int i_11, .int i_12, .int i_13, .int i_14, .int i_15, .ref a_19, .int i_16, .ref a_20])), (a_6, .inl (cy 1, 5, .inl (mm_g [i_21, i_18, i_19, i_20, i_21]))), (a_7, .inl (cy 1, 30, .inl (mm_g [i_46, i_47, i_48, i_49, i_50, i_51, i_28, i_29, i_30, i_31, i_32, i_33, i_34, i_35, i_36, i_37, i_38, i_39, i_40, i_41, i_42, i_43, i_44, i_45, i_46, i_47, i_48, i_49, i_50, i_51]))), (a_8, .inl (cy 1, 90, .inl n1)), (a_9, .inl (cy 1, 15, .inl n4)), (a_10, .inl (cy 1, 1050, .inl n7)), (a_11, .inl (cy 1, 30, .inl u)), (a_12, .inl (cy 1, 240, .inl f_4)), (a_13, .inl (cy 1, 450, .inl f_5))]) [6] [0, 1, 2, 3, 4, 5, 7, 8] (n := 9) (fun _ => rfl) (by decide +kernel) (by decide +kernel) rfl (fun _ => rfl) (wr := [(a_0, .inr (12, [.int i_0, .ref a_1, .ref a_2, .ref a_3, .ref a_4, .ref a_5, .int i_1, .int i_2, .int i_3, .int i_4, .int i_5, .long j_0, .int i_6, .int i_7, .int i_8, .int i_9, .ref a_6, .ref a_7, .ref a_8, .ref a_9, .ref a_10, .ref a_11, .ref a_12, .ref a_13, .ref a_14, .ref a_15, .ref a_16, .ref a_17, .ref a_18, .int i_10, .int i_11, .int i_12, .int i_13, .int i_14, .int i_15, .ref a_19, .int i_16, .ref a_20])), (a_6, .inl (cy 1, 5, .inl (mm_g [i_21, i_18, i_19, i_20, i_21]))), (a_7, .inl (cy 1, 30, .inl (mm_g [i_46, i_47, i_48, i_49, i_50, i_51, i_28, i_29, i_30, i_31, i_32, i_33, i_34, i_35, i_36, i_37, i_38, i_39, i_40, i_41, i_42, i_43, i_44, i_45, i_46, i_47, i_48, i_49, i_50, i_51]))), (a_8, .inl (cy 1, 90, .inl n1)), (a_9, .inl (cy 1, 15, .inl n4)), (a_10, .inl (cy 1, 1050, .inl n7)), (a_12, .inl (cy 1, 240, .inl f_4)), (a_13, .inl (cy 1, 450, .inl f_5))]) rfl (fun _ => rfl) (fun _ => rfl) ?_
  clear hP hD hS
  clear H locs
  intro n10 H locs hw (hP : va_P G vwCl [(a_0, .inr (12, [.int i_0, .ref a_1, .ref a_2, .ref a_3, .ref a_4, .ref a_5, .int i_1, .int i_2, .int i_3, .int i_4, .int i_5, .long j_0, .int i_6, .int i_7, .int i_8, .int i_9, .ref a_6, .ref a_7, .ref a_8, .ref a_9, .ref a_10, .ref a_11, .ref a_12, .ref a_13, .ref a_14, .ref a_15, .ref a_16, .ref a_17, .ref a_18, .int i_10, .int i_11, .int i_12, .int i_13, .int i_14, .int i_15, .ref a_19, .int i_16, .ref a_20])), (a_6, .inl (cy 1, 5, .inl (mm_g [i_21, i_18, i_19, i_20, i_21]))), (a_7, .inl (cy 1, 30, .inl (mm_g [i_46, i_47, i_48, i_49, i_50, i_51, i_28, i_29, i_30, i_31, i_32, i_33, i_34, i_35, i_36, i_37, i_38, i_39, i_40, i_41, i_42, i_43, i_44, i_45, i_46, i_47, i_48, i_49, i_50, i_51]))), (a_8, .inl (cy 1, 90, .inl n1)), (a_9, .inl (cy 1, 15, .inl n4)), (a_10, .inl (cy 1, 1050, .inl n7)), (a_11, .inl (cy 1, 30, .inl n10)), (a_12, .inl (cy 1, 240, .inl f_4)), (a_13, .inl (cy 1, 450, .inl f_5))] H) (hD : va_D A [(a_0, .inr (12, [.int i_0, .ref a_1, .ref a_2, .ref a_3, .ref a_4, .ref a_5, .int i_1, .int i_2, .int i_3, .int i_4, .int i_5, .long j_0, .int i_6, .int i_7, .int i_8, .int i_9, .ref a_6, .ref a_7, .ref a_8, .ref a_9, .ref a_10, .ref a_11, .ref a_12, .ref a_13, .ref a_14, .ref a_15, .ref a_16, .ref a_17, .ref a_18, .int i_10, .int i_11, .int i_12, .int i_13, .int i_14, .int i_15, .ref a_19, .int i_16, .ref a_20])), (a_6, .inl (cy 1, 5, .inl (mm_g [i_21, i_18, i_19, i_20, i_21]))), (a_7, .inl (cy 1, 30, .inl (mm_g [i_46, i_47, i_48, i_49, i_50, i_51, i_28, i_29, i_30, i_31, i_32, i_33, i_34, i_35, i_36, i_37, i_38, i_39, i_40, i_41, i_42, i_43, i_44, i_45, i_46, i_47, i_48, i_49, i_50, i_51]))), (a_8, .inl (cy 1, 90, .inl n1)), (a_9, .inl (cy 1, 15, .inl n4)), (a_10, .inl (cy 1, 1050, .inl n7)), (a_11, .inl (cy 1, 30, .inl n10)), (a_12, .inl (cy 1, 240, .inl f_4)), (a_13, .inl (cy 1, 450, .inl f_5))]) hS
  obtain ⟨w11, w12⟩ := hw
  refine lv_aload_n hx hb dX12_copyBook_65 rfl (lv_at hl 0 rfl) ?_
  refine va_get (D := G) (ci := 12) (v := .ref a_12) (C := RX12) (T := TX12) (N := 38) hx hb hts (mm_i inlX12) hown hK.1 hP 0 rfl rfl 22 (by decide) (mm_h hts mm_w154) (fun _ h9 => h9) rfl dX12_copyBook_66 ?_
  refine lv_bipush (v := 48) hx hb dX12_copyBook_69 (by decide) ?_
  refine lv_iload_n hx hb dX12_copyBook_71 rfl (lv_at hl 1 rfl) ?_
  refine lv_iload_n hx hb dX12_copyBook_72 rfl (lv_at hl 2 rfl) ?_
  refine mm_finv (va_runS (As := [.ref a_12, .int 48, .int 4, .int 0]) (rest := []) ⟨hx, hb, hml, hown, hts⟩ (M87_X12_copyRow l G cy H.size a_12 f_4 h39) (va_cwS 4 hts (mm_gS mm_w557 mm_w558 mm_w5 mm_w559) rfl rfl rfl hs_X12_copyRow ⟨by rw [hRf]; exact Nat.le_of_ble_eq_true rfl, by rw [hRl]; exact Nat.le_of_ble_eq_true rfl⟩) (mm_preS hK hZ hS hA hP hD [7] rfl rfl) rfl rfl hl.1 rfl (lv_room (Nat.le_of_ble_eq_true rfl)) dX12_copyBook_73 ⟨by rw [hRc]; exact Nat.le_of_ble_eq_true rfl, by rw [hRs]; exact Nat.le_of_ble_eq_true rfl⟩) hP hD hS hA (fun u : (Nat → Int32) => [(a_0, .inr (12, [.int i_0, .ref a_1, .ref a_2, .ref a_3, .ref a_4, .ref a_5, .int i_1, .int i_2, .int i_3, .int i_4, .int i_5, .long j_0, .int i_6, .int i_7, .int i_8, .int i_9, .ref a_6, .ref a_7, .ref a_8, .ref a_9, .ref a_10, .ref a_11, .ref a_12, .ref a_13, .ref a_14, .ref a_15, .ref a_16, .ref a_17, .ref a_18, .int i_10, .int i_11, .int i_12, .int i_13, .int i_14, .int i_15, .ref a_19, .int i_16, .ref a_20])), (a_6, .inl (cy 1, 5, .inl (mm_g [i_21, i_18, i_19, i_20, i_21]))), (a_7, .inl (cy 1, 30, .inl (mm_g [i_46, i_47, i_48, i_49, i_50, i_51, i_28, i_29, i_30, i_31, i_32, i_33, i_34, i_35, i_36, i_37, i_38, i_39, i_40, i_41, i_42, i_43, i_44, i_45, i_46, i_47, i_48, i_49, i_50, i_51]))), (a_8, .inl (cy 1, 90, .inl n1)), (a_9, .inl (cy 1, 15, .inl n4)), (a_10, .inl (cy 1, 1050, .inl n7)), (a_11, .inl (cy 1, 30, .inl n10)), (a_12, .inl (cy 1, 240, .inl u)), (a_13, .inl (cy 1, 450, .inl f_5))]) [7] [0, 1, 2, 3, 4, 5, 6, 8] (n := 9) (fun _ => rfl) (by decide +kernel) (by decide +kernel) rfl (fun _ => rfl) (wr := [(a_0, .inr (12, [.int i_0, .ref a_1, .ref a_2, .ref a_3, .ref a_4, .ref a_5, .int i_1, .int i_2, .int i_3, .int i_4, .int i_5, .long j_0, .int i_6, .int i_7, .int i_8, .int i_9, .ref a_6, .ref a_7, .ref a_8, .ref a_9, .ref a_10, .ref a_11, .ref a_12, .ref a_13, .ref a_14, .ref a_15, .ref a_16, .ref a_17, .ref a_18, .int i_10, .int i_11, .int i_12, .int i_13, .int i_14, .int i_15, .ref a_19, .int i_16, .ref a_20])), (a_6, .inl (cy 1, 5, .inl (mm_g [i_21, i_18, i_19, i_20, i_21]))), (a_7, .inl (cy 1, 30, .inl (mm_g [i_46, i_47, i_48, i_49, i_50, i_51, i_28, i_29, i_30, i_31, i_32, i_33, i_34, i_35, i_36, i_37, i_38, i_39, i_40, i_41, i_42, i_43, i_44, i_45, i_46, i_47, i_48, i_49, i_50, i_51]))), (a_8, .inl (cy 1, 90, .inl n1)), (a_9, .inl (cy 1, 15, .inl n4)), (a_10, .inl (cy 1, 1050, .inl n7)), (a_11, .inl (cy 1, 30, .inl n10)), (a_13, .inl (cy 1, 450, .inl f_5))]) rfl (fun _ => rfl) (fun _ => rfl) ?_
  clear hP hD hS
  clear H locs
  intro n13 H locs hw (hP : va_P G vwCl [(a_0, .inr (12, [.int i_0, .ref a_1, .ref a_2, .ref a_3, .ref a_4, .ref a_5, .int i_1, .int i_2, .int i_3, .int i_4, .int i_5, .long j_0, .int i_6, .int i_7, .int i_8, .int i_9, .ref a_6, .ref a_7, .ref a_8, .ref a_9, .ref a_10, .ref a_11, .ref a_12, .ref a_13, .ref a_14, .ref a_15, .ref a_16, .ref a_17, .ref a_18, .int i_10, .int i_11, .int i_12, .int i_13, .int i_14, .int i_15, .ref a_19, .int i_16, .ref a_20])), (a_6, .inl (cy 1, 5, .inl (mm_g [i_21, i_18, i_19, i_20, i_21]))), (a_7, .inl (cy 1, 30, .inl (mm_g [i_46, i_47, i_48, i_49, i_50, i_51, i_28, i_29, i_30, i_31, i_32, i_33, i_34, i_35, i_36, i_37, i_38, i_39, i_40, i_41, i_42, i_43, i_44, i_45, i_46, i_47, i_48, i_49, i_50, i_51]))), (a_8, .inl (cy 1, 90, .inl n1)), (a_9, .inl (cy 1, 15, .inl n4)), (a_10, .inl (cy 1, 1050, .inl n7)), (a_11, .inl (cy 1, 30, .inl n10)), (a_12, .inl (cy 1, 240, .inl n13)), (a_13, .inl (cy 1, 450, .inl f_5))] H) (hD : va_D A [(a_0, .inr (12, [.int i_0, .ref a_1, .ref a_2, .ref a_3, .ref a_4, .ref a_5, .int i_1, .int i_2, .int i_3, .int i_4, .int i_5, .long j_0, .int i_6, .int i_7, .int i_8, .int i_9, .ref a_6, .ref a_7, .ref a_8, .ref a_9, .ref a_10, .ref a_11, .ref a_12, .ref a_13, .ref a_14, .ref a_15, .ref a_16, .ref a_17, .ref a_18, .int i_10, .int i_11, .int i_12, .int i_13, .int i_14, .int i_15, .ref a_19, .int i_16, .ref a_20])), (a_6, .inl (cy 1, 5, .inl (mm_g [i_21, i_18, i_19, i_20, i_21]))), (a_7, .inl (cy 1, 30, .inl (mm_g [i_46, i_47, i_48, i_49, i_50, i_51, i_28, i_29, i_30, i_31, i_32, i_33, i_34, i_35, i_36, i_37, i_38, i_39, i_40, i_41, i_42, i_43, i_44, i_45, i_46, i_47, i_48, i_49, i_50, i_51]))), (a_8, .inl (cy 1, 90, .inl n1)), (a_9, .inl (cy 1, 15, .inl n4)), (a_10, .inl (cy 1, 1050, .inl n7)), (a_11, .inl (cy 1, 30, .inl n10)), (a_12, .inl (cy 1, 240, .inl n13)), (a_13, .inl (cy 1, 450, .inl f_5))]) hS
  obtain ⟨w14, w15⟩ := hw
  refine lv_aload_n hx hb dX12_copyBook_76 rfl (lv_at hl 0 rfl) ?_
  refine va_get (D := G) (ci := 12) (v := .ref a_13) (C := RX12) (T := TX12) (N := 38) hx hb hts (mm_i inlX12) hown hK.1 hP 0 rfl rfl 23 (by decide) (mm_h hts mm_w155) (fun _ h9 => h9) rfl dX12_copyBook_77 ?_
  refine lv_bipush (v := 90) hx hb dX12_copyBook_80 (by decide) ?_
  refine lv_iload_n hx hb dX12_copyBook_82 rfl (lv_at hl 1 rfl) ?_
  refine lv_iload_n hx hb dX12_copyBook_83 rfl (lv_at hl 2 rfl) ?_
  refine mm_finv (va_runS (As := [.ref a_13, .int 90, .int 4, .int 0]) (rest := []) ⟨hx, hb, hml, hown, hts⟩ (M88_X12_copyRow l G cy H.size a_13 f_5 h40) (va_cwS 4 hts (mm_gS mm_w557 mm_w558 mm_w5 mm_w559) rfl rfl rfl hs_X12_copyRow ⟨by rw [hRf]; exact Nat.le_of_ble_eq_true rfl, by rw [hRl]; exact Nat.le_of_ble_eq_true rfl⟩) (mm_preS hK hZ hS hA hP hD [8] rfl rfl) rfl rfl hl.1 rfl (lv_room (Nat.le_of_ble_eq_true rfl)) dX12_copyBook_84 ⟨by rw [hRc]; exact Nat.le_of_ble_eq_true rfl, by rw [hRs]; exact Nat.le_of_ble_eq_true rfl⟩) hP hD hS hA (fun u : (Nat → Int32) => [(a_0, .inr (12, [.int i_0, .ref a_1, .ref a_2, .ref a_3, .ref a_4, .ref a_5, .int i_1, .int i_2, .int i_3, .int i_4, .int i_5, .long j_0, .int i_6, .int i_7, .int i_8, .int i_9, .ref a_6, .ref a_7, .ref a_8, .ref a_9, .ref a_10, .ref a_11, .ref a_12, .ref a_13, .ref a_14, .ref a_15, .ref a_16, .ref a_17, .ref a_18, .int i_10, .int i_11, .int i_12, .int i_13, .int i_14, .int i_15, .ref a_19, .int i_16, .ref a_20])), (a_6, .inl (cy 1, 5, .inl (mm_g [i_21, i_18, i_19, i_20, i_21]))), (a_7, .inl (cy 1, 30, .inl (mm_g [i_46, i_47, i_48, i_49, i_50, i_51, i_28, i_29, i_30, i_31, i_32, i_33, i_34, i_35, i_36, i_37, i_38, i_39, i_40, i_41, i_42, i_43, i_44, i_45, i_46, i_47, i_48, i_49, i_50, i_51]))), (a_8, .inl (cy 1, 90, .inl n1)), (a_9, .inl (cy 1, 15, .inl n4)), (a_10, .inl (cy 1, 1050, .inl n7)), (a_11, .inl (cy 1, 30, .inl n10)), (a_12, .inl (cy 1, 240, .inl n13)), (a_13, .inl (cy 1, 450, .inl u))]) [8] [0, 1, 2, 3, 4, 5, 6, 7] (n := 9) (fun _ => rfl) (by decide +kernel) (by decide +kernel) rfl (fun _ => rfl) (wr := [(a_0, .inr (12, [.int i_0, .ref a_1, .ref a_2, .ref a_3, .ref a_4, .ref a_5, .int i_1, .int i_2, .int i_3, .int i_4, .int i_5, .long j_0, .int i_6, .int i_7, .int i_8, .int i_9, .ref a_6, .ref a_7, .ref a_8, .ref a_9, .ref a_10, .ref a_11, .ref a_12, .ref a_13, .ref a_14, .ref a_15, .ref a_16, .ref a_17, .ref a_18, .int i_10, .int i_11, .int i_12, .int i_13, .int i_14, .int i_15, .ref a_19, .int i_16, .ref a_20])), (a_6, .inl (cy 1, 5, .inl (mm_g [i_21, i_18, i_19, i_20, i_21]))), (a_7, .inl (cy 1, 30, .inl (mm_g [i_46, i_47, i_48, i_49, i_50, i_51, i_28, i_29, i_30, i_31, i_32, i_33, i_34, i_35, i_36, i_37, i_38, i_39, i_40, i_41, i_42, i_43, i_44, i_45, i_46, i_47, i_48, i_49, i_50, i_51]))), (a_8, .inl (cy 1, 90, .inl n1)), (a_9, .inl (cy 1, 15, .inl n4)), (a_10, .inl (cy 1, 1050, .inl n7)), (a_11, .inl (cy 1, 30, .inl n10)), (a_12, .inl (cy 1, 240, .inl n13))]) rfl (fun _ => rfl) (fun _ => rfl) ?_
  clear hP hD hS
  clear H locs
  intro n16 H locs hw (hP : va_P G vwCl [(a_0, .inr (12, [.int i_0, .ref a_1, .ref a_2, .ref a_3, .ref a_4, .ref a_5, .int i_1, .int i_2, .int i_3, .int i_4, .int i_5, .long j_0, .int i_6, .int i_7, .int i_8, .int i_9, .ref a_6, .ref a_7, .ref a_8, .ref a_9, .ref a_10, .ref a_11, .ref a_12, .ref a_13, .ref a_14, .ref a_15, .ref a_16, .ref a_17, .ref a_18, .int i_10, .int i_11, .int i_12, .int i_13, .int i_14, .int i_15, .ref a_19, .int i_16, .ref a_20])), (a_6, .inl (cy 1, 5, .inl (mm_g [i_21, i_18, i_19, i_20, i_21]))), (a_7, .inl (cy 1, 30, .inl (mm_g [i_46, i_47, i_48, i_49, i_50, i_51, i_28, i_29, i_30, i_31, i_32, i_33, i_34, i_35, i_36, i_37, i_38, i_39, i_40, i_41, i_42, i_43, i_44, i_45, i_46, i_47, i_48, i_49, i_50, i_51]))), (a_8, .inl (cy 1, 90, .inl n1)), (a_9, .inl (cy 1, 15, .inl n4)), (a_10, .inl (cy 1, 1050, .inl n7)), (a_11, .inl (cy 1, 30, .inl n10)), (a_12, .inl (cy 1, 240, .inl n13)), (a_13, .inl (cy 1, 450, .inl n16))] H) (hD : va_D A [(a_0, .inr (12, [.int i_0, .ref a_1, .ref a_2, .ref a_3, .ref a_4, .ref a_5, .int i_1, .int i_2, .int i_3, .int i_4, .int i_5, .long j_0, .int i_6, .int i_7, .int i_8, .int i_9, .ref a_6, .ref a_7, .ref a_8, .ref a_9, .ref a_10, .ref a_11, .ref a_12, .ref a_13, .ref a_14, .ref a_15, .ref a_16, .ref a_17, .ref a_18, .int i_10, .int i_11, .int i_12, .int i_13, .int i_14, .int i_15, .ref a_19, .int i_16, .ref a_20])), (a_6, .inl (cy 1, 5, .inl (mm_g [i_21, i_18, i_19, i_20, i_21]))), (a_7, .inl (cy 1, 30, .inl (mm_g [i_46, i_47, i_48, i_49, i_50, i_51, i_28, i_29, i_30, i_31, i_32, i_33, i_34, i_35, i_36, i_37, i_38, i_39, i_40, i_41, i_42, i_43, i_44, i_45, i_46, i_47, i_48, i_49, i_50, i_51]))), (a_8, .inl (cy 1, 90, .inl n1)), (a_9, .inl (cy 1, 15, .inl n4)), (a_10, .inl (cy 1, 1050, .inl n7)), (a_11, .inl (cy 1, 30, .inl n10)), (a_12, .inl (cy 1, 240, .inl n13)), (a_13, .inl (cy 1, 450, .inl n16))]) hS
  obtain ⟨w17, w18⟩ := hw
  have w19 : mm_rls n4 n7 0 i_48 i_49 := (mm_rls_cp h57 w6 w9)
  have w20 : mm_txs n10 n13 0 i_48 i_50 := (mm_txs_cp h58 w12 w15)
  have w21 : mm_acs n16 0 i_48 i_49 i_51 := (mm_acs_cp h59 w18)
  have w22 : mm_rls n4 n7 1 i_30 i_31 := (mm_rls_ck h45 w6 w9 (by decide))
  have w23 : mm_txs n10 n13 1 i_30 i_32 := (mm_txs_ck h46 w12 w15 (by decide))
  have w24 : mm_acs n16 1 i_30 i_31 i_33 := (mm_acs_ck h47 w18 (by decide))
  have w25 : mm_rls n4 n7 2 i_36 i_37 := (mm_rls_ck h49 w6 w9 (by decide))
  have w26 : mm_txs n10 n13 2 i_36 i_38 := (mm_txs_ck h50 w12 w15 (by decide))
  have w27 : mm_acs n16 2 i_36 i_37 i_39 := (mm_acs_ck h51 w18 (by decide))
  have w28 : mm_rls n4 n7 3 i_42 i_43 := (mm_rls_ck h53 w6 w9 (by decide))
  have w29 : mm_txs n10 n13 3 i_42 i_44 := (mm_txs_ck h54 w12 w15 (by decide))
  have w30 : mm_acs n16 3 i_42 i_43 i_45 := (mm_acs_ck h55 w18 (by decide))
  subst hAe
  rw [hQ]
  exact W.vret hx hb hr (fun t ht hW => ⟨⟨(n1, n4, n7, n10, n13, n16), rfl, ⟨w2, w5, w8, w11, w14, w17, w19, w20, w21, w22, w23, w24, w25, w26, w27, w28, w29, w30⟩, by rw [ht]; exact hP, hK.warm hW, hD⟩, hS.F ht⟩) hS.2.2 dX12_copyBook_87

set_option maxHeartbeats 4000000 in
set_option maxRecDepth 100000 in
theorem M90_X12_book (l : Launch) (G : va_G) (cy : Nat → ClassId) (sz : Nat) (a_0 : Nat) (i_0 : Int32) (a_1 : Nat) (a_2 : Nat) (a_3 : Nat) (a_4 : Nat) (a_5 : Nat) (i_1 : Int32) (i_2 : Int32) (i_3 : Int32) (i_4 : Int32) (i_5 : Int32) (j_0 : Int64) (i_6 : Int32) (i_7 : Int32) (i_8 : Int32) (i_9 : Int32) (a_6 : Nat) (a_7 : Nat) (a_8 : Nat) (a_9 : Nat) (a_10 : Nat) (a_11 : Nat) (a_12 : Nat) (a_13 : Nat) (a_14 : Nat) (a_15 : Nat) (a_16 : Nat) (a_17 : Nat) (a_18 : Nat) (i_10 : Int32) (i_11 : Int32) (i_12 : Int32) (i_13 : Int32) (i_14 : Int32) (i_15 : Int32) (a_19 : Nat) (i_16 : Int32) (a_20 : Nat) (f_0 : Nat → Int32) (i_17 : Int32) (i_18 : Int32) (i_19 : Int32) (i_20 : Int32) (i_21 : Int32) (i_22 : Int32) (i_23 : Int32) (i_24 : Int32) (i_25 : Int32) (i_26 : Int32) (i_27 : Int32) (i_28 : Int32) (i_29 : Int32) (i_30 : Int32) (i_31 : Int32) (i_32 : Int32) (i_33 : Int32) (i_34 : Int32) (i_35 : Int32) (i_36 : Int32) (i_37 : Int32) (i_38 : Int32) (i_39 : Int32) (i_40 : Int32) (i_41 : Int32) (i_42 : Int32) (i_43 : Int32) (i_44 : Int32) (i_45 : Int32) (i_46 : Int32) (i_47 : Int32) (i_48 : Int32) (i_49 : Int32) (i_50 : Int32) (i_51 : Int32) (f_1 : Nat → Int32) (f_2 : Nat → Int32) (f_3 : Nat → Int32) (f_4 : Nat → Int32) (f_5 : Nat → Int32) (f_6 : Nat → Int32) (h0 : mm_rg i_1 0 600) (h1 : mm_rg i_2 0 600) (h2 : mm_rg i_3 0 4) (h3 : mm_rg i_4 0 600) (h4 : mm_rg i_6 0 3) (h5 : mm_ar f_0 (-128) 127) (h6 : mm_rg i_17 0 601) (h7 : mm_rg i_18 0 601) (h8 : mm_rg i_19 0 601) (h9 : mm_rg i_20 0 601) (h10 : mm_rg i_21 0 601) (h11 : mm_rg i_22 0 10) (h12 : mm_rg i_23 0 99) (h13 : mm_rg i_24 0 9) (h14 : mm_rg i_25 0 3) (h15 : mm_rg i_26 0 6) (h16 : mm_rg i_27 0 30) (h17 : mm_rg i_28 0 10) (h18 : mm_rg i_29 0 99) (h19 : mm_rg i_30 0 9) (h20 : mm_rg i_31 0 3) (h21 : mm_rg i_32 0 6) (h22 : mm_rg i_33 0 30) (h23 : mm_rg i_34 0 10) (h24 : mm_rg i_35 0 99) (h25 : mm_rg i_36 0 9) (h26 : mm_rg i_37 0 3) (h27 : mm_rg i_38 0 6) (h28 : mm_rg i_39 0 30) (h29 : mm_rg i_40 0 10) (h30 : mm_rg i_41 0 99) (h31 : mm_rg i_42 0 9) (h32 : mm_rg i_43 0 3) (h33 : mm_rg i_44 0 6) (h34 : mm_rg i_45 0 30) (h35 : mm_rg i_46 0 10) (h36 : mm_rg i_47 0 99) (h37 : mm_rg i_48 0 9) (h38 : mm_rg i_49 0 3) (h39 : mm_rg i_50 0 6) (h40 : mm_rg i_51 0 30) (h41 : mm_ar f_1 0 99) (h42 : mm_ar f_2 0 7) (h43 : mm_ar f_3 0 9) (h44 : mm_ar f_4 0 8) (h45 : mm_ar f_5 0 9) (h46 : mm_ar f_6 (-1) 99) (h47 : mm_rls f_2 f_3 0 i_24 i_25) (h48 : mm_txs f_4 f_5 0 i_24 i_26) (h49 : mm_acs f_6 0 i_24 i_25 i_27) (h50 : mm_tl i_17 i_25 i_26) (h51 : mm_rls f_2 f_3 1 i_30 i_31) (h52 : mm_txs f_4 f_5 1 i_30 i_32) (h53 : mm_acs f_6 1 i_30 i_31 i_33) (h54 : mm_tl i_18 i_31 i_32) (h55 : mm_rls f_2 f_3 2 i_36 i_37) (h56 : mm_txs f_4 f_5 2 i_36 i_38) (h57 : mm_acs f_6 2 i_36 i_37 i_39) (h58 : mm_tl i_19 i_37 i_38) (h59 : mm_rls f_2 f_3 3 i_42 i_43) (h60 : mm_txs f_4 f_5 3 i_42 i_44) (h61 : mm_acs f_6 3 i_42 i_43 i_45) (h62 : mm_tl i_20 i_43 i_44)  : mm_CI l yX12_book (mm_ws yX12_book cX12_book 1 (some .int)) ({ frames := 7, cells := 0, slots := 0, locals := 158 } : Room) G cy sz [(a_0, .inr (12, [.int i_0, .ref a_1, .ref a_2, .ref a_3, .ref a_4, .ref a_5, .int i_1, .int i_2, .int i_3, .int i_4, .int i_5, .long j_0, .int i_6, .int i_7, .int i_8, .int i_9, .ref a_6, .ref a_7, .ref a_8, .ref a_9, .ref a_10, .ref a_11, .ref a_12, .ref a_13, .ref a_14, .ref a_15, .ref a_16, .ref a_17, .ref a_18, .int i_10, .int i_11, .int i_12, .int i_13, .int i_14, .int i_15, .ref a_19, .int i_16, .ref a_20])), (a_5, .inl (cy 0, 600, .inl f_0)), (a_6, .inl (cy 1, 5, .inl (mm_g [i_17, i_18, i_19, i_20, i_21]))), (a_7, .inl (cy 1, 30, .inl (mm_g [i_22, i_23, i_24, i_25, i_26, i_27, i_28, i_29, i_30, i_31, i_32, i_33, i_34, i_35, i_36, i_37, i_38, i_39, i_40, i_41, i_42, i_43, i_44, i_45, i_46, i_47, i_48, i_49, i_50, i_51]))), (a_8, .inl (cy 1, 90, .inl f_1)), (a_9, .inl (cy 1, 15, .inl f_2)), (a_10, .inl (cy 1, 1050, .inl f_3)), (a_11, .inl (cy 1, 30, .inl f_4)), (a_12, .inl (cy 1, 240, .inl f_5)), (a_13, .inl (cy 1, 450, .inl f_6))] [.ref a_0] (fun u : Int32 × Int32 × Int32 × Int32 × Int64 × Int32 × Int32 × Int32 × Int32 × Int32 × Int32 × Int32 × Int32 × Int32 × Int32 × Int32 × Int32 × Int32 × Int32 × Int32 × Int32 × Int32 × (Nat → Int32) × (Nat → Int32) × (Nat → Int32) × (Nat → Int32) × (Nat → Int32) × (Nat → Int32) => [(a_0, .inr (12, [.int 0, .ref a_1, .ref a_2, .ref a_3, .ref a_4, .ref a_5, .int 0, .int u.1, .int u.2.1, .int u.2.2.1, .int u.2.2.2.1, .long u.2.2.2.2.1, .int u.2.2.2.2.2.1, .int u.2.2.2.2.2.2.1, .int u.2.2.2.2.2.2.2.1, .int u.2.2.2.2.2.2.2.2.1, .ref a_6, .ref a_7, .ref a_8, .ref a_9, .ref a_10, .ref a_11, .ref a_12, .ref a_13, .ref a_14, .ref a_15, .ref a_16, .ref a_17, .ref a_18, .int i_10, .int i_11, .int i_12, .int i_13, .int i_14, .int i_15, .ref a_19, .int i_16, .ref a_20])), (a_5, .inl (cy 0, 600, .inl f_0)), (a_6, .inl (cy 1, 5, .inl (mm_g [u.2.2.2.2.2.2.2.2.2.1, i_18, i_19, i_20, u.2.2.2.2.2.2.2.2.2.2.1]))), (a_7, .inl (cy 1, 30, .inl (mm_g [u.2.2.2.2.2.2.2.2.2.2.2.1, u.2.2.2.2.2.2.2.2.2.2.2.2.1, u.2.2.2.2.2.2.2.2.2.2.2.2.2.1, u.2.2.2.2.2.2.2.2.2.2.2.2.2.2.1, u.2.2.2.2.2.2.2.2.2.2.2.2.2.2.2.1, u.2.2.2.2.2.2.2.2.2.2.2.2.2.2.2.2.1, i_28, i_29, i_30, i_31, i_32, i_33, i_34, i_35, i_36, i_37, i_38, i_39, i_40, i_41, i_42, i_43, i_44, i_45, u.2.2.2.2.2.2.2.2.2.2.2.2.2.2.2.2.2.1, u.2.2.2.2.2.2.2.2.2.2.2.2.2.2.2.2.2.2.1, u.2.2.2.2.2.2.2.2.2.2.2.2.2.2.2.2.2.2.2.1, u.2.2.2.2.2.2.2.2.2.2.2.2.2.2.2.2.2.2.2.2.1, u.2.2.2.2.2.2.2.2.2.2.2.2.2.2.2.2.2.2.2.2.2.1, 0]))), (a_8, .inl (cy 1, 90, .inl u.2.2.2.2.2.2.2.2.2.2.2.2.2.2.2.2.2.2.2.2.2.2.1)), (a_9, .inl (cy 1, 15, .inl u.2.2.2.2.2.2.2.2.2.2.2.2.2.2.2.2.2.2.2.2.2.2.2.1)), (a_10, .inl (cy 1, 1050, .inl u.2.2.2.2.2.2.2.2.2.2.2.2.2.2.2.2.2.2.2.2.2.2.2.2.1)), (a_11, .inl (cy 1, 30, .inl u.2.2.2.2.2.2.2.2.2.2.2.2.2.2.2.2.2.2.2.2.2.2.2.2.2.1)), (a_12, .inl (cy 1, 240, .inl u.2.2.2.2.2.2.2.2.2.2.2.2.2.2.2.2.2.2.2.2.2.2.2.2.2.2.1)), (a_13, .inl (cy 1, 450, .inl u.2.2.2.2.2.2.2.2.2.2.2.2.2.2.2.2.2.2.2.2.2.2.2.2.2.2.2))]) (fun (r : Int32) (u : Int32 × Int32 × Int32 × Int32 × Int64 × Int32 × Int32 × Int32 × Int32 × Int32 × Int32 × Int32 × Int32 × Int32 × Int32 × Int32 × Int32 × Int32 × Int32 × Int32 × Int32 × Int32 × (Nat → Int32) × (Nat → Int32) × (Nat → Int32) × (Nat → Int32) × (Nat → Int32) × (Nat → Int32)) => mm_rg u.1 0 600 ∧ mm_rg u.2.1 0 4 ∧ mm_rg u.2.2.1 0 600 ∧ mm_rg u.2.2.2.2.2.1 0 3 ∧ mm_rg u.2.2.2.2.2.2.2.1 0 3 ∧ mm_rg u.2.2.2.2.2.2.2.2.2.1 0 601 ∧ mm_rg u.2.2.2.2.2.2.2.2.2.2.1 0 601 ∧ mm_rg u.2.2.2.2.2.2.2.2.2.2.2.1 0 10 ∧ mm_rg u.2.2.2.2.2.2.2.2.2.2.2.2.1 0 99 ∧ mm_rg u.2.2.2.2.2.2.2.2.2.2.2.2.2.1 0 9 ∧ mm_rg u.2.2.2.2.2.2.2.2.2.2.2.2.2.2.1 0 3 ∧ mm_rg u.2.2.2.2.2.2.2.2.2.2.2.2.2.2.2.1 0 6 ∧ mm_rg u.2.2.2.2.2.2.2.2.2.2.2.2.2.2.2.2.1 0 30 ∧ mm_rg u.2.2.2.2.2.2.2.2.2.2.2.2.2.2.2.2.2.1 0 10 ∧ mm_rg u.2.2.2.2.2.2.2.2.2.2.2.2.2.2.2.2.2.2.1 0 99 ∧ mm_rg u.2.2.2.2.2.2.2.2.2.2.2.2.2.2.2.2.2.2.2.1 0 9 ∧ mm_rg u.2.2.2.2.2.2.2.2.2.2.2.2.2.2.2.2.2.2.2.2.1 0 3 ∧ mm_rg u.2.2.2.2.2.2.2.2.2.2.2.2.2.2.2.2.2.2.2.2.2.1 0 6 ∧ mm_ar u.2.2.2.2.2.2.2.2.2.2.2.2.2.2.2.2.2.2.2.2.2.2.1 0 99 ∧ mm_ar u.2.2.2.2.2.2.2.2.2.2.2.2.2.2.2.2.2.2.2.2.2.2.2.1 0 7 ∧ mm_ar u.2.2.2.2.2.2.2.2.2.2.2.2.2.2.2.2.2.2.2.2.2.2.2.2.1 0 9 ∧ mm_ar u.2.2.2.2.2.2.2.2.2.2.2.2.2.2.2.2.2.2.2.2.2.2.2.2.2.1 0 8 ∧ mm_ar u.2.2.2.2.2.2.2.2.2.2.2.2.2.2.2.2.2.2.2.2.2.2.2.2.2.2.1 0 9 ∧ mm_ar u.2.2.2.2.2.2.2.2.2.2.2.2.2.2.2.2.2.2.2.2.2.2.2.2.2.2.2 (-1) 99 ∧ mm_rls u.2.2.2.2.2.2.2.2.2.2.2.2.2.2.2.2.2.2.2.2.2.2.2.1 u.2.2.2.2.2.2.2.2.2.2.2.2.2.2.2.2.2.2.2.2.2.2.2.2.1 0 u.2.2.2.2.2.2.2.2.2.2.2.2.2.1 u.2.2.2.2.2.2.2.2.2.2.2.2.2.2.1 ∧ mm_txs u.2.2.2.2.2.2.2.2.2.2.2.2.2.2.2.2.2.2.2.2.2.2.2.2.2.1 u.2.2.2.2.2.2.2.2.2.2.2.2.2.2.2.2.2.2.2.2.2.2.2.2.2.2.1 0 u.2.2.2.2.2.2.2.2.2.2.2.2.2.1 u.2.2.2.2.2.2.2.2.2.2.2.2.2.2.2.1 ∧ mm_acs u.2.2.2.2.2.2.2.2.2.2.2.2.2.2.2.2.2.2.2.2.2.2.2.2.2.2.2 0 u.2.2.2.2.2.2.2.2.2.2.2.2.2.1 u.2.2.2.2.2.2.2.2.2.2.2.2.2.2.1 u.2.2.2.2.2.2.2.2.2.2.2.2.2.2.2.2.1 ∧ mm_tl u.2.2.2.2.2.2.2.2.2.1 u.2.2.2.2.2.2.2.2.2.2.2.2.2.2.1 u.2.2.2.2.2.2.2.2.2.2.2.2.2.2.2.1 ∧ mm_rls u.2.2.2.2.2.2.2.2.2.2.2.2.2.2.2.2.2.2.2.2.2.2.2.1 u.2.2.2.2.2.2.2.2.2.2.2.2.2.2.2.2.2.2.2.2.2.2.2.2.1 1 i_30 i_31 ∧ mm_txs u.2.2.2.2.2.2.2.2.2.2.2.2.2.2.2.2.2.2.2.2.2.2.2.2.2.1 u.2.2.2.2.2.2.2.2.2.2.2.2.2.2.2.2.2.2.2.2.2.2.2.2.2.2.1 1 i_30 i_32 ∧ mm_acs u.2.2.2.2.2.2.2.2.2.2.2.2.2.2.2.2.2.2.2.2.2.2.2.2.2.2.2 1 i_30 i_31 i_33 ∧ mm_rls u.2.2.2.2.2.2.2.2.2.2.2.2.2.2.2.2.2.2.2.2.2.2.2.1 u.2.2.2.2.2.2.2.2.2.2.2.2.2.2.2.2.2.2.2.2.2.2.2.2.1 2 i_36 i_37 ∧ mm_txs u.2.2.2.2.2.2.2.2.2.2.2.2.2.2.2.2.2.2.2.2.2.2.2.2.2.1 u.2.2.2.2.2.2.2.2.2.2.2.2.2.2.2.2.2.2.2.2.2.2.2.2.2.2.1 2 i_36 i_38 ∧ mm_acs u.2.2.2.2.2.2.2.2.2.2.2.2.2.2.2.2.2.2.2.2.2.2.2.2.2.2.2 2 i_36 i_37 i_39 ∧ mm_rls u.2.2.2.2.2.2.2.2.2.2.2.2.2.2.2.2.2.2.2.2.2.2.2.1 u.2.2.2.2.2.2.2.2.2.2.2.2.2.2.2.2.2.2.2.2.2.2.2.2.1 3 i_42 i_43 ∧ mm_txs u.2.2.2.2.2.2.2.2.2.2.2.2.2.2.2.2.2.2.2.2.2.2.2.2.2.1 u.2.2.2.2.2.2.2.2.2.2.2.2.2.2.2.2.2.2.2.2.2.2.2.2.2.2.1 3 i_42 i_44 ∧ mm_acs u.2.2.2.2.2.2.2.2.2.2.2.2.2.2.2.2.2.2.2.2.2.2.2.2.2.2.2 3 i_42 i_43 i_45 ∧ mm_rg r (-4) 600) 0 0 := by
  refine mm_begin (lv := [(0, .ref a_0)]) (by decide) (Nat.le_of_ble_eq_true rfl) rfl ?_
  intro p e s m below meth c A ls R args Q H locs hRe hQ hAe hx hb hr hlocks hml hown hnm hts hsz hA hS hP hK hD hZ hl
  have hRf : R.frames = 7 := by rw [hRe]
  have hRl : R.locals = 158 := by rw [hRe]
  have hRc : R.cells = 0 := by rw [hRe]
  have hRs : R.slots = 0 := by rw [hRe]
  refine lv_aload_n hx hb dX12_book_0 rfl (lv_at hl 0 rfl) ?_
  refine lv_iconst (v := 0) hx hb dX12_book_1 (by decide) ?_
  refine va_put (D := G) (ci := 12) (v := .int 0) (ty := tyX12 0) (C := RX12) (T := TX12) (N := 38) hx hb hts (mm_i inlX12) tyX12 tyX12_ok nmX12 hown hK.1 hP hD hS 0 rfl rfl 0 (by decide) (mm_h hts mm_w177) (fun _ h9 => h9) rfl (tyX12_ok 0 (by decide)) rfl rfl (Nat.le_of_ble_eq_true rfl) dX12_book_2 ?_
  clear hP hD hS
  clear H locs
  intro H locs (hP : va_P G vwCl [(a_0, .inr (12, [.int 0, .ref a_1, .ref a_2, .ref a_3, .ref a_4, .ref a_5, .int i_1, .int i_2, .int i_3, .int i_4, .int i_5, .long j_0, .int i_6, .int i_7, .int i_8, .int i_9, .ref a_6, .ref a_7, .ref a_8, .ref a_9, .ref a_10, .ref a_11, .ref a_12, .ref a_13, .ref a_14, .ref a_15, .ref a_16, .ref a_17, .ref a_18, .int i_10, .int i_11, .int i_12, .int i_13, .int i_14, .int i_15, .ref a_19, .int i_16, .ref a_20])), (a_5, .inl (cy 0, 600, .inl f_0)), (a_6, .inl (cy 1, 5, .inl (mm_g [i_17, i_18, i_19, i_20, i_21]))), (a_7, .inl (cy 1, 30, .inl (mm_g [i_22, i_23, i_24, i_25, i_26, i_27, i_28, i_29, i_30, i_31, i_32, i_33, i_34, i_35, i_36, i_37, i_38, i_39, i_40, i_41, i_42, i_43, i_44, i_45, i_46, i_47, i_48, i_49, i_50, i_51]))), (a_8, .inl (cy 1, 90, .inl f_1)), (a_9, .inl (cy 1, 15, .inl f_2)), (a_10, .inl (cy 1, 1050, .inl f_3)), (a_11, .inl (cy 1, 30, .inl f_4)), (a_12, .inl (cy 1, 240, .inl f_5)), (a_13, .inl (cy 1, 450, .inl f_6))] H) (hD : va_D A [(a_0, .inr (12, [.int 0, .ref a_1, .ref a_2, .ref a_3, .ref a_4, .ref a_5, .int i_1, .int i_2, .int i_3, .int i_4, .int i_5, .long j_0, .int i_6, .int i_7, .int i_8, .int i_9, .ref a_6, .ref a_7, .ref a_8, .ref a_9, .ref a_10, .ref a_11, .ref a_12, .ref a_13, .ref a_14, .ref a_15, .ref a_16, .ref a_17, .ref a_18, .int i_10, .int i_11, .int i_12, .int i_13, .int i_14, .int i_15, .ref a_19, .int i_16, .ref a_20])), (a_5, .inl (cy 0, 600, .inl f_0)), (a_6, .inl (cy 1, 5, .inl (mm_g [i_17, i_18, i_19, i_20, i_21]))), (a_7, .inl (cy 1, 30, .inl (mm_g [i_22, i_23, i_24, i_25, i_26, i_27, i_28, i_29, i_30, i_31, i_32, i_33, i_34, i_35, i_36, i_37, i_38, i_39, i_40, i_41, i_42, i_43, i_44, i_45, i_46, i_47, i_48, i_49, i_50, i_51]))), (a_8, .inl (cy 1, 90, .inl f_1)), (a_9, .inl (cy 1, 15, .inl f_2)), (a_10, .inl (cy 1, 1050, .inl f_3)), (a_11, .inl (cy 1, 30, .inl f_4)), (a_12, .inl (cy 1, 240, .inl f_5)), (a_13, .inl (cy 1, 450, .inl f_6))]) hS
  refine lv_aload_n hx hb dX12_book_5 rfl (lv_at hl 0 rfl) ?_
  refine mm_finv (va_runV (As := []) (rest := []) ⟨hx, hb, hml, hown, hts⟩ (M15_X12_clears l G cy H.size a_0 0 a_1 a_2 a_3 a_4 a_5 i_1 i_2 i_3 i_4 i_5 j_0 i_6 i_7 i_8 i_9 a_6 a_7 a_8 a_9 a_10 a_11 a_12 a_13 a_14 a_15 a_16 a_17 a_18 i_10 i_11 i_12 i_13 i_14 i_15 a_19 i_16 a_20 i_17 i_18 i_19 i_20 i_21 i_22 i_23 i_24 i_25 i_26 i_27 i_28 i_29 i_30 i_31 i_32 i_33 i_34 i_35 i_36 i_37 i_38 i_39 i_40 i_41 i_42 i_43 i_44 i_45 i_46 i_47 i_48 i_49 i_50 i_51 f_2 h6 h7 h8 h9 h10 h11 h12 h13 h14 h15 h16 h17 h18 h19 h20 h21 h22 h23 h24 h25 h26 h27 h28 h29 h30 h31 h32 h33 h34 h35 h36 h37 h38 h39 h40 h42 h50 h54 h58 h62) (cwV 0 hts (mm_gV mm_w437 mm_w438 mm_w439 mm_w5 mm_w440) rfl rfl rfl hd_X12_clears ⟨by rw [hRf]; exact Nat.le_of_ble_eq_true rfl, by rw [hRl]; exact Nat.le_of_ble_eq_true rfl⟩) (mm_preV hK hZ hS hA hP hD [0, 2, 3, 5] rfl rfl 0 rfl rfl rfl) rfl rfl hl.1 rfl (lv_room (Nat.le_of_ble_eq_true rfl)) dX12_book_6 ⟨by rw [hRc]; exact Nat.le_of_ble_eq_true rfl, by rw [hRs]; exact Nat.le_of_ble_eq_true rfl⟩) hP hD hS hA (fun u : (Nat → Int32) => [(a_0, .inr (12, [.int 0, .ref a_1, .ref a_2, .ref a_3, .ref a_4, .ref a_5, .int i_1, .int i_2, .int i_3, .int i_4, .int i_5, .long j_0, .int i_6, .int i_7, .int i_8, .int i_9, .ref a_6, .ref a_7, .ref a_8, .ref a_9, .ref a_10, .ref a_11, .ref a_12, .ref a_13, .ref a_14, .ref a_15, .ref a_16, .ref a_17, .ref a_18, .int i_10, .int i_11, .int i_12, .int i_13, .int i_14, .int i_15, .ref a_19, .int i_16, .ref a_20])), (a_5, .inl (cy 0, 600, .inl f_0)), (a_6, .inl (cy 1, 5, .inl (mm_g [i_17, i_18, i_19, i_20, 0]))), (a_7, .inl (cy 1, 30, .inl (mm_g [i_22, i_23, i_24, i_25, i_26, i_27, i_28, i_29, i_30, i_31, i_32, i_33, i_34, i_35, i_36, i_37, i_38, i_39, i_40, i_41, i_42, i_43, i_44, i_45, 0, 0, 0, 0, 0, 0]))), (a_8, .inl (cy 1, 90, .inl f_1)), (a_9, .inl (cy 1, 15, .inl u)), (a_10, .inl (cy 1, 1050, .inl f_3)), (a_11, .inl (cy 1, 30, .inl f_4)), (a_12, .inl (cy 1, 240, .inl f_5)), (a_13, .inl (cy 1, 450, .inl f_6))]) [0, 2, 3, 5] [1, 4, 6, 7, 8, 9] (n := 10) (fun _ => rfl) (by decide +kernel) (by decide +kernel) rfl (fun _ => rfl) (wr := [(a_5, .inl (cy 0, 600, .inl f_0)), (a_8, .inl (cy 1, 90, .inl f_1)), (a_10, .inl (cy 1, 1050, .inl f_3)), (a_11, .inl (cy 1, 30, .inl f_4)), (a_12, .inl (cy 1, 240, .inl f_5)), (a_13, .inl (cy 1, 450, .inl f_6))]) rfl (fun _ => rfl) (fun _ => @rfl _ ([a_0, a_6, a_7, a_9] : List Nat)) ?_
  clear hP hD hS
  clear H locs
  intro n1 H locs hw (hP : va_P G vwCl [(a_0, .inr (12, [.int 0, .ref a_1, .ref a_2, .ref a_3, .ref a_4, .ref a_5, .int i_1, .int i_2, .int i_3, .int i_4, .int i_5, .long j_0, .int i_6, .int i_7, .int i_8, .int i_9, .ref a_6, .ref a_7, .ref a_8, .ref a_9, .ref a_10, .ref a_11, .ref a_12, .ref a_13, .ref a_14, .ref a_15, .ref a_16, .ref a_17, .ref a_18, .int i_10, .int i_11, .int i_12, .int i_13, .int i_14, .int i_15, .ref a_19, .int i_16, .ref a_20])), (a_5, .inl (cy 0, 600, .inl f_0)), (a_6, .inl (cy 1, 5, .inl (mm_g [i_17, i_18, i_19, i_20, 0]))), (a_7, .inl (cy 1, 30, .inl (mm_g [i_22, i_23, i_24, i_25, i_26, i_27, i_28, i_29, i_30, i_31, i_32, i_33, i_34, i_35, i_36, i_37, i_38, i_39, i_40, i_41, i_42, i_43, i_44, i_45, 0, 0, 0, 0, 0, 0]))), (a_8, .inl (cy 1, 90, .inl f_1)), (a_9, .inl (cy 1, 15, .inl n1)), (a_10, .inl (cy 1, 1050, .inl f_3)), (a_11, .inl (cy 1, 30, .inl f_4)), (a_12, .inl (cy 1, 240, .inl f_5)), (a_13, .inl (cy 1, 450, .inl f_6))] H) (hD : va_D A [(a_0, .inr (12, [.int 0, .ref a_1, .ref a_2, .ref a_3, .ref a_4, .ref a_5, .int i_1, .int i_2, .int i_3, .int i_4, .int i_5, .long j_0, .int i_6, .int i_7, .int i_8, .int i_9, .ref a_6, .ref a_7, .ref a_8, .ref a_9, .ref a_10, .ref a_11, .ref a_12, .ref a_13, .ref a_14, .ref a_15, .ref a_16, .ref a_17, .ref a_18, .int i_10, .int i_11, .int i_12, .int i_13, .int i_14, .int i_15, .ref a_19, .int i_16, .ref a_20])), (a_5, .inl (cy 0, 600, .inl f_0)), (a_6, .inl (cy 1, 5, .inl (mm_g [i_17, i_18, i_19, i_20, 0]))), (a_7, .inl (cy 1, 30, .inl (mm_g [i_22, i_23, i_24, i_25, i_26, i_27, i_28, i_29, i_30, i_31, i_32, i_33, i_34, i_35, i_36, i_37, i_38, i_39, i_40, i_41, i_42, i_43, i_44, i_45, 0, 0, 0, 0, 0, 0]))), (a_8, .inl (cy 1, 90, .inl f_1)), (a_9, .inl (cy 1, 15, .inl n1)), (a_10, .inl (cy 1, 1050, .inl f_3)), (a_11, .inl (cy 1, 30, .inl f_4)), (a_12, .inl (cy 1, 240, .inl f_5)), (a_13, .inl (cy 1, 450, .inl f_6))]) hS
  obtain ⟨w2, w3, w4⟩ := hw
  refine lv_aload_n hx hb dX12_book_9 rfl (lv_at hl 0 rfl) ?_
  refine mm_finv (va_runV (As := []) (rest := []) ⟨hx, hb, hml, hown, hts⟩ (M23_X12_begins l G cy H.size a_0 0 a_1 a_2 a_3 a_4 a_5 i_1 i_2 i_3 i_4 i_5 j_0 i_6 i_7 i_8 i_9 a_6 a_7 a_8 a_9 a_10 a_11 a_12 a_13 a_14 a_15 a_16 a_17 a_18 i_10 i_11 i_12 i_13 i_14 i_15 a_19 i_16 a_20 f_0 h0 h1 h2 h3 h4 h5) (cwV 0 hts (mm_gV mm_w445 mm_w446 mm_w447 mm_w5 mm_w448) rfl rfl rfl hd_X12_begins ⟨by rw [hRf]; exact Nat.le_of_ble_eq_true rfl, by rw [hRl]; exact Nat.le_of_ble_eq_true rfl⟩) (mm_preV hK hZ hS hA hP hD [0, 1] rfl rfl 0 rfl rfl rfl) rfl rfl hl.1 rfl (lv_room (Nat.le_of_ble_eq_true rfl)) dX12_book_10 ⟨by rw [hRc]; exact Nat.le_of_ble_eq_true rfl, by rw [hRs]; exact Nat.le_of_ble_eq_true rfl⟩) hP hD hS hA (fun u : Int32 × Int32 × Int32 × Int32 × Int64 => [(a_0, .inr (12, [.int 0, .ref a_1, .ref a_2, .ref a_3, .ref a_4, .ref a_5, .int i_1, .int u.1, .int u.2.1, .int u.2.2.1, .int u.2.2.2.1, .long u.2.2.2.2, .int 0, .int (-1), .int i_8, .int i_9, .ref a_6, .ref a_7, .ref a_8, .ref a_9, .ref a_10, .ref a_11, .ref a_12, .ref a_13, .ref a_14, .ref a_15, .ref a_16, .ref a_17, .ref a_18, .int i_10, .int i_11, .int i_12, .int i_13, .int i_14, .int i_15, .ref a_19, .int i_16, .ref a_20])), (a_5, .inl (cy 0, 600, .inl f_0)), (a_6, .inl (cy 1, 5, .inl (mm_g [i_17, i_18, i_19, i_20, 0]))), (a_7, .inl (cy 1, 30, .inl (mm_g [i_22, i_23, i_24, i_25, i_26, i_27, i_28, i_29, i_30, i_31, i_32, i_33, i_34, i_35, i_36, i_37, i_38, i_39, i_40, i_41, i_42, i_43, i_44, i_45, 0, 0, 0, 0, 0, 0]))), (a_8, .inl (cy 1, 90, .inl f_1)), (a_9, .inl (cy 1, 15, .inl n1)), (a_10, .inl (cy 1, 1050, .inl f_3)), (a_11, .inl (cy 1, 30, .inl f_4)), (a_12, .inl (cy 1, 240, .inl f_5)), (a_13, .inl (cy 1, 450, .inl f_6))]) [0, 1] [2, 3, 4, 5, 6, 7, 8, 9] (n := 10) (fun _ => rfl) (by decide +kernel) (by decide +kernel) rfl (fun _ => rfl) (wr := [(a_6, .inl (cy 1, 5, .inl (mm_g [i_17, i_18, i_19, i_20, 0]))), (a_7, .inl (cy 1, 30, .inl (mm_g [i_22, i_23, i_24, i_25, i_26, i_27, i_28, i_29, i_30, i_31, i_32, i_33, i_34, i_35, i_36, i_37, i_38, i_39, i_40, i_41, i_42, i_43, i_44, i_45, 0, 0, 0, 0, 0, 0]))), (a_8, .inl (cy 1, 90, .inl f_1)), (a_9, .inl (cy 1, 15, .inl n1)), (a_10, .inl (cy 1, 1050, .inl f_3)), (a_11, .inl (cy 1, 30, .inl f_4)), (a_12, .inl (cy 1, 240, .inl f_5)), (a_13, .inl (cy 1, 450, .inl f_6))]) rfl (fun _ => rfl) (fun _ => rfl) ?_
  clear hP hD hS
  clear H locs
  intro u
  obtain ⟨n5, n6, n7, n8, n9⟩ := u
  intro H locs hw (hP : va_P G vwCl [(a_0, .inr (12, [.int 0, .ref a_1, .ref a_2, .ref a_3, .ref a_4, .ref a_5, .int i_1, .int n5, .int n6, .int n7, .int n8, .long n9, .int 0, .int (-1), .int i_8, .int i_9, .ref a_6, .ref a_7, .ref a_8, .ref a_9, .ref a_10, .ref a_11, .ref a_12, .ref a_13, .ref a_14, .ref a_15, .ref a_16, .ref a_17, .ref a_18, .int i_10, .int i_11, .int i_12, .int i_13, .int i_14, .int i_15, .ref a_19, .int i_16, .ref a_20])), (a_5, .inl (cy 0, 600, .inl f_0)), (a_6, .inl (cy 1, 5, .inl (mm_g [i_17, i_18, i_19, i_20, 0]))), (a_7, .inl (cy 1, 30, .inl (mm_g [i_22, i_23, i_24, i_25, i_26, i_27, i_28, i_29, i_30, i_31, i_32, i_33, i_34, i_35, i_36, i_37, i_38, i_39, i_40, i_41, i_42, i_43, i_44, i_45, 0, 0, 0, 0, 0, 0]))), (a_8, .inl (cy 1, 90, .inl f_1)), (a_9, .inl (cy 1, 15, .inl n1)), (a_10, .inl (cy 1, 1050, .inl f_3)), (a_11, .inl (cy 1, 30, .inl f_4)), (a_12, .inl (cy 1, 240, .inl f_5)), (a_13, .inl (cy 1, 450, .inl f_6))] H) (hD : va_D A [(a_0, .inr (12, [.int 0, .ref a_1, .ref a_2, .ref a_3, .ref a_4, .ref a_5, .int i_1, .int n5, .int n6, .int n7, .int n8, .long n9, .int 0, .int (-1), .int i_8, .int i_9, .ref a_6, .ref a_7, .ref a_8, .ref a_9, .ref a_10, .ref a_11, .ref a_12, .ref a_13, .ref a_14, .ref a_15, .ref a_16, .ref a_17, .ref a_18, .int i_10, .int i_11, .int i_12, .int i_13, .int i_14, .int i_15, .ref a_19, .int i_16, .ref a_20])), (a_5, .inl (cy 0, 600, .inl f_0)), (a_6, .inl (cy 1, 5, .inl (mm_g [i_17, i_18, i_19, i_20, 0]))), (a_7, .inl (cy 1, 30, .inl (mm_g [i_22, i_23, i_24, i_25, i_26, i_27, i_28, i_29, i_30, i_31, i_32, i_33, i_34, i_35, i_36, i_37, i_38, i_39, i_40, i_41, i_42, i_43, i_44, i_45, 0, 0, 0, 0, 0, 0]))), (a_8, .inl (cy 1, 90, .inl f_1)), (a_9, .inl (cy 1, 15, .inl n1)), (a_10, .inl (cy 1, 1050, .inl f_3)), (a_11, .inl (cy 1, 30, .inl f_4)), (a_12, .inl (cy 1, 240, .inl f_5)), (a_13, .inl (cy 1, 450, .inl f_6))]) hS
  obtain ⟨w10, w11, w12, w13, w14, w15⟩ := hw
  replace w13 : (n7 : Int32).toInt ≤ (n5 : Int32).toInt := w13
  replace w14 : (n5 : Int32).toInt ≤ (i_1 : Int32).toInt := w14
  replace w15 : mm_tk n6 n7 n5 := w15
  have L13_688 : ∀ (n : Nat) (y13_0_7_659 : Int32) (y13_0_8_660 : Int32) (y13_0_9_661 : Int32) (y13_0_10_662 : Int32) (y13_0_11_663 : Int64) (y13_0_12_664 : Int32) (y13_0_13_665 : Int32) (w13_2_4_666 : Int32) (w13_3_24_667 : Int32) (w13_3_25_668 : Int32) (w13_3_26_669 : Int32) (w13_3_27_670 : Int32) (w13_3_28_671 : Int32) (z13_4_672 : Nat → Int32) (z13_5_673 : Nat → Int32) (z13_6_674 : Nat → Int32) (z13_7_675 : Nat → Int32) (z13_8_676 : Nat → Int32), mm_rg y13_0_7_659 0 600 → mm_rg y13_0_8_660 0 4 → mm_rg y13_0_9_661 0 600 → mm_rg y13_0_12_664 0 3 → mm_rg w13_2_4_666 0 601 → mm_rg w13_3_24_667 0 10 → mm_rg w13_3_25_668 0 99 → mm_rg w13_3_26_669 0 9 → mm_rg w13_3_27_670 0 3 → mm_rg w13_3_28_671 0 6 → mm_ar z13_4_672 0 99 → mm_ar z13_5_673 0 7 → mm_ar z13_6_674 0 9 → mm_ar z13_7_675 0 8 → mm_ar z13_8_676 0 9 → (y13_0_9_661 : Int32).toInt ≤ (y13_0_7_659 : Int32).toInt → (y13_0_7_659 : Int32).toInt ≤ (i_1 : Int32).toInt → mm_tk y13_0_8_660 y13_0_9_661 y13_0_7_659 → mm_lp y13_0_12_664 w13_2_4_666 y13_0_9_661 → mm_fr f_2 z13_5_673 12 → mm_fr f_3 z13_6_674 840 → mm_fr f_4 z13_7_675 24 → mm_fr f_5 z13_8_676 192 → mm_rls z13_5_673 z13_6_674 4 w13_3_26_669 w13_3_27_670 → mm_txs z13_7_675 z13_8_676 4 w13_3_26_669 w13_3_28_671 → mm_acs f_6 4 w13_3_26_669 w13_3_27_670 0 → mm_tl w13_2_4_666 w13_3_27_670 w13_3_28_671 → (if (y13_0_12_664 : Int32).toInt = 0 then (601 - (y13_0_9_661 : Int32).toInt).toNat + 1 else 0) < n → ∀ (H : Heap) (locs : List Loc), va_P G vwCl [(a_0, .inr (12, [.int 0, .ref a_1, .ref a_2, .ref a_3, .ref a_4, .ref a_5, .int i_1, .int y13_0_7_659, .int y13_0_8_660, .int y13_0_9_661, .int y13_0_10_662, .long y13_0_11_663, .int y13_0_12_664, .int y13_0_13_665, .int i_8, .int i_9, .ref a_6, .ref a_7, .ref a_8, .ref a_9, .ref a_10, .ref a_11, .ref a_12, .ref a_13, .ref a_14, .ref a_15, .ref a_16, .ref a_17, .ref a_18, .int i_10, .int i_11, .int i_12, .int i_13, .int i_14, .int i_15, .ref a_19, .int i_16, .ref a_20])), (a_5, .inl (cy 0, 600, .inl f_0)), (a_6, .inl (cy 1, 5, .inl (mm_g [i_17, i_18, i_19, i_20, w13_2_4_666]))), (a_7, .inl (cy 1, 30, .inl (mm_g [i_22, i_23, i_24, i_25, i_26, i_27, i_28, i_29, i_30, i_31, i_32, i_33, i_34, i_35, i_36, i_37, i_38, i_39, i_40, i_41, i_42, i_43, i_44, i_45, w13_3_24_667, w13_3_25_668, w13_3_26_669, w13_3_27_670, w13_3_28_671, 0]))), (a_8, .inl (cy 1, 90, .inl z13_4_672)), (a_9, .inl (cy 1, 15, .inl z13_5_673)), (a_10, .inl (cy 1, 1050, .inl z13_6_674)), (a_11, .inl (cy 1, 30, .inl z13_7_675)), (a_12, .inl (cy 1, 240, .inl z13_8_676)), (a_13, .inl (cy 1, 450, .inl f_6))] H → va_D A [(a_0, .inr (12, [.int 0, .ref a_1, .ref a_2, .ref a_3, .ref a_4, .ref a_5, .int i_1, .int y13_0_7_659, .int y13_0_8_660, .int y13_0_9_661, .int y13_0_10_662, .long y13_0_11_663, .int y13_0_12_664, .int y13_0_13_665, .int i_8, .int i_9, .ref a_6, .ref a_7, .ref a_8, .ref a_9, .ref a_10, .ref a_11, .ref a_12, .ref a_13, .ref a_14, .ref a_15, .ref a_16, .ref a_17, .ref a_18, .int i_10, .int i_11, .int i_12, .int i_13, .int i_14, .int i_15, .ref a_19, .int i_16, .ref a_20])), (a_5, .inl (cy 0, 600, .inl f_0)), (a_6, .inl (cy 1, 5, .inl (mm_g [i_17, i_18, i_19, i_20, w13_2_4_666]))), (a_7, .inl (cy 1, 30, .inl (mm_g [i_22, i_23, i_24, i_25, i_26, i_27, i_28, i_29, i_30, i_31, i_32, i_33, i_34, i_35, i_36, i_37, i_38, i_39, i_40, i_41, i_42, i_43, i_44, i_45, w13_3_24_667, w13_3_25_668, w13_3_26_669, w13_3_27_670, w13_3_28_671, 0]))), (a_8, .inl (cy 1, 90, .inl z13_4_672)), (a_9, .inl (cy 1, 15, .inl z13_5_673)), (a_10, .inl (cy 1, 1050, .inl z13_6_674)), (a_11, .inl (cy 1, 30, .inl z13_7_675)), (a_12, .inl (cy 1, 240, .inl z13_8_676)), (a_13, .inl (cy 1, 450, .inl f_6))] → va_S A s.heap H locs → ∀ (ls : Array Slot), lv_has ls 1 [(0, .ref a_0)] → W p l e R s m args below meth c H locs 0 0 Q (F0 m 13 ls []) := by
    intro n
    induction n with
    | zero => intro y13_0_7_659 y13_0_8_660 y13_0_9_661 y13_0_10_662 y13_0_11_663 y13_0_12_664 y13_0_13_665 w13_2_4_666 w13_3_24_667 w13_3_25_668 w13_3_26_669 w13_3_27_670 w13_3_28_671 z13_4_672 z13_5_673 z13_6_674 z13_7_675 z13_8_676 ry13_0_7_659 ry13_0_8_660 ry13_0_9_661 ry13_0_12_664 rw13_2_4_666 rw13_3_24_667 rw13_3_25_668 rw13_3_26_669 rw13_3_27_670 rw13_3_28_671 rz13_4_672 rz13_5_673 rz13_6_674 rz13_7_675 rz13_8_676 w677 w678 w679 w680 w681 w682 w683 w684 w685 w686 w687 w688 hm; exact absurd hm (Nat.not_lt_zero _)
    | succ n ih13 =>
      intro y13_0_7_659 y13_0_8_660 y13_0_9_661 y13_0_10_662 y13_0_11_663 y13_0_12_664 y13_0_13_665 w13_2_4_666 w13_3_24_667 w13_3_25_668 w13_3_26_669 w13_3_27_670 w13_3_28_671 z13_4_672 z13_5_673 z13_6_674 z13_7_675 z13_8_676 ry13_0_7_659 ry13_0_8_660 ry13_0_9_661 ry13_0_12_664 rw13_2_4_666 rw13_3_24_667 rw13_3_25_668 rw13_3_26_669 rw13_3_27_670 rw13_3_28_671 rz13_4_672 rz13_5_673 rz13_6_674 rz13_7_675 rz13_8_676 w677 w678 w679 w680 w681 w682 w683 w684 w685 w686 w687 w688 hm13 H locs hP hD hS ls hl
      refine lv_aload_n hx hb dX12_book_13 rfl (lv_at hl 0 rfl) ?_
      refine mm_finir (va_runV (As := []) (rest := []) ⟨hx, hb, hml, hown, hts⟩ (M24_X12_isGood l G cy H.size a_0 0 a_1 a_2 a_3 a_4 a_5 i_1 y13_0_7_659 y13_0_8_660 y13_0_9_661 y13_0_10_662 y13_0_11_663 y13_0_12_664 y13_0_13_665 i_8 i_9 a_6 a_7 a_8 a_9 a_10 a_11 a_12 a_13 a_14 a_15 a_16 a_17 a_18 i_10 i_11 i_12 i_13 i_14 i_15 a_19 i_16 a_20 ry13_0_12_664) (cwV 0 hts (mm_gV mm_w467 mm_w468 mm_w469 mm_w5 mm_w470) rfl rfl rfl hd_X12_isGood ⟨by rw [hRf]; exact Nat.le_of_ble_eq_true rfl, by rw [hRl]; exact Nat.le_of_ble_eq_true rfl⟩) (mm_preV hK hZ hS hA hP hD [0] rfl rfl 0 rfl rfl rfl) rfl rfl hl.1 rfl (lv_room (Nat.le_of_ble_eq_true rfl)) dX12_book_14 ⟨by rw [hRc]; exact Nat.le_of_ble_eq_true rfl, by rw [hRs]; exact Nat.le_of_ble_eq_true rfl⟩) hP hD hS hA [0] rfl (fun _ => rfl) ?_
      clear hP hD hS
      clear H locs
      intro v690 _u H locs hw hP hD hS
      rcases hw with ⟨rfl, w691⟩ | ⟨rfl, w692⟩
      · refine lv_if_eq (tgt := 104) hx hb dX12_book_17 (by decide) (fun c693 => ?_) (fun c693 => ?_)
        · refine lv_aload_n hx hb dX12_book_104 rfl (lv_at hl 0 rfl) ?_
          refine mm_finv (va_runV (As := []) (rest := []) ⟨hx, hb, hml, hown, hts⟩ (M80_X12_isOver l G cy H.size a_0 0 a_1 a_2 a_3 a_4 a_5 i_1 y13_0_7_659 y13_0_8_660 y13_0_9_661 y13_0_10_662 y13_0_11_663 y13_0_12_664 y13_0_13_665 i_8 i_9 a_6 a_7 a_8 a_9 a_10 a_11 a_12 a_13 a_14 a_15 a_16 a_17 a_18 i_10 i_11 i_12 i_13 i_14 i_15 a_19 i_16 a_20 h0 (mm_wk w691 (by decide))) (cwV 0 hts (mm_gV mm_w548 mm_w549 mm_w550 mm_w5 mm_w551) rfl rfl rfl hd_X12_isOver ⟨by rw [hRf]; exact Nat.le_of_ble_eq_true rfl, by rw [hRl]; exact Nat.le_of_ble_eq_true rfl⟩) (mm_preV hK hZ hS hA hP hD [0] rfl rfl 0 rfl rfl rfl) rfl rfl hl.1 rfl (lv_room (Nat.le_of_ble_eq_true rfl)) dX12_book_105 ⟨by rw [hRc]; exact Nat.le_of_ble_eq_true rfl, by rw [hRs]; exact Nat.le_of_ble_eq_true rfl⟩) hP hD hS hA (fun u : Int32 => [(a_0, .inr (12, [.int 0, .ref a_1, .ref a_2, .ref a_3, .ref a_4, .ref a_5, .int 0, .int y13_0_7_659, .int y13_0_8_660, .int y13_0_9_661, .int y13_0_10_662, .long y13_0_11_663, .int y13_0_12_664, .int y13_0_13_665, .int y13_0_12_664, .int u, .ref a_6, .ref a_7, .ref a_8, .ref a_9, .ref a_10, .ref a_11, .ref a_12, .ref a_13, .ref a_14, .ref a_15, .ref a_16, .ref a_17, .ref a_18, .int i_10, .int i_11, .int i_12, .int i_13, .int i_14, .int i_15, .ref a_19, .int i_16, .ref a_20])), (a_5, .inl (cy 0, 600, .inl f_0)), (a_6, .inl (cy 1, 5, .inl (mm_g [i_17, i_18, i_19, i_20, w13_2_4_666]))), (a_7, .inl (cy 1, 30, .inl (mm_g [i_22, i_23, i_24, i_25, i_26, i_27, i_28, i_29, i_30, i_31, i_32, i_33, i_34, i_35, i_36, i_37, i_38, i_39, i_40, i_41, i_42, i_43, i_44, i_45, w13_3_24_667, w13_3_25_668, w13_3_26_669, w13_3_27_670, w13_3_28_671, 0]))), (a_8, .inl (cy 1, 90, .inl z13_4_672)), (a_9, .inl (cy 1, 15, .inl z13_5_673)), (a_10, .inl (cy 1, 1050, .inl z13_6_674)), (a_11, .inl (cy 1, 30, .inl z13_7_675)), (a_12, .inl (cy 1, 240, .inl z13_8_676)), (a_13, .inl (cy 1, 450, .inl f_6))]) [0] [1, 2, 3, 4, 5, 6, 7, 8, 9] (n := 10) (fun _ => rfl) (by decide +kernel) (by decide +kernel) rfl (fun _ => rfl) (wr := [(a_5, .inl (cy 0, 600, .inl f_0)), (a_6, .inl (cy 1, 5, .inl (mm_g [i_17, i_18, i_19, i_20, w13_2_4_666]))), (a_7, .inl (cy 1, 30, .inl (mm_g [i_22, i_23, i_24, i_25, i_26, i_27, i_28, i_29, i_30, i_31, i_32, i_33, i_34, i_35, i_36, i_37, i_38, i_39, i_40, i_41, i_42, i_43, i_44, i_45, w13_3_24_667, w13_3_25_668, w13_3_26_669, w13_3_27_670, w13_3_28_671, 0]))), (a_8, .inl (cy 1, 90, .inl z13_4_672)), (a_9, .inl (cy 1, 15, .inl z13_5_673)), (a_10, .inl (cy 1, 1050, .inl z13_6_674)), (a_11, .inl (cy 1, 30, .inl z13_7_675)), (a_12, .inl (cy 1, 240, .inl z13_8_676)), (a_13, .inl (cy 1, 450, .inl f_6))]) rfl (fun _ => rfl) (fun _ => rfl) ?_
          clear hP hD hS
          clear H locs
          intro n694 H locs hw (hP : va_P G vwCl [(a_0, .inr (12, [.int 0, .ref a_1, .ref a_2, .ref a_3, .ref a_4, .ref a_5, .int 0, .int y13_0_7_659, .int y13_0_8_660, .int y13_0_9_661, .int y13_0_10_662, .long y13_0_11_663, .int y13_0_12_664, .int y13_0_13_665, .int y13_0_12_664, .int n694, .ref a_6, .ref a_7, .ref a_8, .ref a_9, .ref a_10, .ref a_11, .ref a_12, .ref a_13, .ref a_14, .ref a_15, .ref a_16, .ref a_17, .ref a_18, .int i_10, .int i_11, .int i_12, .int i_13, .int i_14, .int i_15, .ref a_19, .int i_16, .ref a_20])), (a_5, .inl (cy 0, 600, .inl f_0)), (a_6, .inl (cy 1, 5, .inl (mm_g [i_17, i_18, i_19, i_20, w13_2_4_666]))), (a_7, .inl (cy 1, 30, .inl (mm_g [i_22, i_23, i_24, i_25, i_26, i_27, i_28, i_29, i_30, i_31, i_32, i_33, i_34, i_35, i_36, i_37, i_38, i_39, i_40, i_41, i_42, i_43, i_44, i_45, w13_3_24_667, w13_3_25_668, w13_3_26_669, w13_3_27_670, w13_3_28_671, 0]))), (a_8, .inl (cy 1, 90, .inl z13_4_672)), (a_9, .inl (cy 1, 15, .inl z13_5_673)), (a_10, .inl (cy 1, 1050, .inl z13_6_674)), (a_11, .inl (cy 1, 30, .inl z13_7_675)), (a_12, .inl (cy 1, 240, .inl z13_8_676)), (a_13, .inl (cy 1, 450, .inl f_6))] H) (hD : va_D A [(a_0, .inr (12, [.int 0, .ref a_1, .ref a_2, .ref a_3, .ref a_4, .ref a_5, .int 0, .int y13_0_7_659, .int y13_0_8_660, .int y13_0_9_661, .int y13_0_10_662, .long y13_0_11_663, .int y13_0_12_664, .int y13_0_13_665, .int y13_0_12_664, .int n694, .ref a_6, .ref a_7, .ref a_8, .ref a_9, .ref a_10, .ref a_11, .ref a_12, .ref a_13, .ref a_14, .ref a_15, .ref a_16, .ref a_17, .ref a_18, .int i_10, .int i_11, .int i_12, .int i_13, .int i_14, .int i_15, .ref a_19, .int i_16, .ref a_20])), (a_5, .inl (cy 0, 600, .inl f_0)), (a_6, .inl (cy 1, 5, .inl (mm_g [i_17, i_18, i_19, i_20, w13_2_4_666]))), (a_7, .inl (cy 1, 30, .inl (mm_g [i_22, i_23, i_24, i_25, i_26, i_27, i_28, i_29, i_30, i_31, i_32, i_33, i_34, i_35, i_36, i_37, i_38, i_39, i_40, i_41, i_42, i_43, i_44, i_45, w13_3_24_667, w13_3_25_668, w13_3_26_669, w13_3_27_670, w13_3_28_671, 0]))), (a_8, .inl (cy 1, 90, .inl z13_4_672)), (a_9, .inl (cy 1, 15, .inl z13_5_673)), (a_10, .inl (cy 1, 1050, .inl z13_6_674)), (a_11, .inl (cy 1, 30, .inl z13_7_675)), (a_12, .inl (cy 1, 240, .inl z13_8_676)), (a_13, .inl (cy 1, 450, .inl f_6))]) hS
          refine lv_aload_n hx hb dX12_book_108 rfl (lv_at hl 0 rfl) ?_
          refine va_get (D := G) (ci := 12) (v := .int y13_0_12_664) (C := RX12) (T := TX12) (N := 38) hx hb hts (mm_i inlX12) hown hK.1 hP 0 rfl rfl 12 (by decide) (mm_h hts mm_w436) (fun _ h9 => h9) rfl dX12_book_109 ?_
          refine lv_if_eq (tgt := 118) hx hb dX12_book_112 (by decide) (fun c695 => ?_) (fun c695 => ?_)
          · exact mm_eqN c695.symm mm_k0 w691 (by decide)
          · refine lv_bipush (v := (-4)) hx hb dX12_book_115 (by decide) ?_
            have w696 : mm_rls z13_5_673 z13_6_674 0 i_24 i_25 := (mm_rls_fr h47 w681 w682 (by decide))
            have w697 : mm_txs z13_7_675 z13_8_676 0 i_24 i_26 := (mm_txs_fr h48 w683 w684 (by decide))
            have w698 : mm_rls z13_5_673 z13_6_674 1 i_30 i_31 := (mm_rls_fr h51 w681 w682 (by decide))
            have w699 : mm_txs z13_7_675 z13_8_676 1 i_30 i_32 := (mm_txs_fr h52 w683 w684 (by decide))
            have w700 : mm_rls z13_5_673 z13_6_674 2 i_36 i_37 := (mm_rls_fr h55 w681 w682 (by decide))
            have w701 : mm_txs z13_7_675 z13_8_676 2 i_36 i_38 := (mm_txs_fr h56 w683 w684 (by decide))
            have w702 : mm_rls z13_5_673 z13_6_674 3 i_42 i_43 := (mm_rls_fr h59 w681 w682 (by decide))
            have w703 : mm_txs z13_7_675 z13_8_676 3 i_42 i_44 := (mm_txs_fr h60 w683 w684 (by decide))
            subst hAe
            rw [hQ]
            exact W.iret (v := (-4)) hx hb hr (fun t ht hW => ⟨⟨(-4), (y13_0_7_659, y13_0_8_660, y13_0_9_661, y13_0_10_662, y13_0_11_663, y13_0_12_664, y13_0_13_665, y13_0_12_664, n694, i_17, w13_2_4_666, i_22, i_23, i_24, i_25, i_26, i_27, w13_3_24_667, w13_3_25_668, w13_3_26_669, w13_3_27_670, w13_3_28_671, z13_4_672, z13_5_673, z13_6_674, z13_7_675, z13_8_676, f_6), rfl, ⟨ry13_0_7_659, ry13_0_8_660, ry13_0_9_661, (mm_wk w691 (by decide)), (mm_wk w691 (by decide)), h6, rw13_2_4_666, h11, h12, h13, h14, h15, h16, rw13_3_24_667, rw13_3_25_668, rw13_3_26_669, rw13_3_27_670, rw13_3_28_671, rz13_4_672, rz13_5_673, rz13_6_674, rz13_7_675, rz13_8_676, h46, w696, w697, h49, h50, w698, w699, h53, w700, w701, h57, w702, w703, h61, (mm_wk mm_km4 (by decide))⟩, by rw [ht]; exact hP, hK.warm hW, hD⟩, hS.F ht⟩) hS.2.2 dX12_book_117
        · exact absurd rfl (mm_ne c693)
      · have w704 := mm_lp0 w680 w692 (by decide)
        have q705 := mm_leL w704 rw13_2_4_666 ry13_0_9_661
        refine lv_if_eq (tgt := 104) hx hb dX12_book_17 (by decide) (fun c706 => ?_) (fun c706 => ?_)
        · exact mm_eqN c706.symm mm_k0 mm_k1 (by decide)
        · refine lv_aload_n hx hb dX12_book_20 rfl (lv_at hl 0 rfl) ?_
          refine va_get (D := G) (ci := 12) (v := .int y13_0_8_660) (C := RX12) (T := TX12) (N := 38) hx hb hts (mm_i inlX12) hown hK.1 hP 0 rfl rfl 8 (by decide) (mm_h hts mm_w432) (fun _ h9 => h9) rfl dX12_book_21 ?_
          refine lv_if_eq (tgt := 104) hx hb dX12_book_24 (by decide) (fun c707 => ?_) (fun c707 => ?_)
          · have q708 := mm_eqI (lo := 0) (hi := 0) c707 ry13_0_8_660 mm_k0 (by decide)
            refine lv_aload_n hx hb dX12_book_104 rfl (lv_at hl 0 rfl) ?_
            refine mm_finv (va_runV (As := []) (rest := []) ⟨hx, hb, hml, hown, hts⟩ (M80_X12_isOver l G cy H.size a_0 0 a_1 a_2 a_3 a_4 a_5 i_1 y13_0_7_659 y13_0_8_660 y13_0_9_661 y13_0_10_662 y13_0_11_663 y13_0_12_664 y13_0_13_665 i_8 i_9 a_6 a_7 a_8 a_9 a_10 a_11 a_12 a_13 a_14 a_15 a_16 a_17 a_18 i_10 i_11 i_12 i_13 i_14 i_15 a_19 i_16 a_20 h0 (mm_wk w692 (by decide))) (cwV 0 hts (mm_gV mm_w548 mm_w549 mm_w550 mm_w5 mm_w551) rfl rfl rfl hd_X12_isOver ⟨by rw [hRf]; exact Nat.le_of_ble_eq_true rfl, by rw [hRl]; exact Nat.le_of_ble_eq_true rfl⟩) (mm_preV hK hZ hS hA hP hD [0] rfl rfl 0 rfl rfl rfl) rfl rfl hl.1 rfl (lv_room (Nat.le_of_ble_eq_true rfl)) dX12_book_105 ⟨by rw [hRc]; exact Nat.le_of_ble_eq_true rfl, by rw [hRs]; exact Nat.le_of_ble_eq_true rfl⟩) hP hD hS hA (fun u : Int32 => [(a_0, .inr (12, [.int 0, .ref a_1, .ref a_2, .ref a_3, .ref a_4, .ref a_5, .int 0, .int y13_0_7_659, .int y13_0_8_660, .int y13_0_9_661, .int y13_0_10_662, .long y13_0_11_663, .int y13_0_12_664, .int y13_0_13_665, .int y13_0_12_664, .int u, .ref a_6, .ref a_7, .ref a_8, .ref a_9, .ref a_10, .ref a_11, .ref a_12, .ref a_13, .ref a_14, .ref a_15, .ref a_16, .ref a_17, .ref a_18, .int i_10, .int i_11, .int i_12, .int i_13, .int i_14, .int i_15, .ref a_19, .int i_16, .ref a_20])), (a_5, .inl (cy 0, 600, .inl f_0)), (a_6, .inl (cy 1, 5, .inl (mm_g [i_17, i_18, i_19, i_20, w13_2_4_666]))), (a_7, .inl (cy 1, 30, .inl (mm_g [i_22, i_23, i_24, i_25, i_26, i_27, i_28, i_29, i_30, i_31, i_32, i_33, i_34, i_35, i_36, i_37, i_38, i_39, i_40, i_41, i_42, i_43, i_44, i_45, w13_3_24_667, w13_3_25_668, w13_3_26_669, w13_3_27_670, w13_3_28_671, 0]))), (a_8, .inl (cy 1, 90, .inl z13_4_672)), (a_9, .inl (cy 1, 15, .inl z13_5_673)), (a_10, .inl (cy 1, 1050, .inl z13_6_674)), (a_11, .inl (cy 1, 30, .inl z13_7_675)), (a_12, .inl (cy 1, 240, .inl z13_8_676)), (a_13, .inl (cy 1, 450, .inl f_6))]) [0] [1, 2, 3, 4, 5, 6, 7, 8, 9] (n := 10) (fun _ => rfl) (by decide +kernel) (by decide +kernel) rfl (fun _ => rfl) (wr := [(a_5, .inl (cy 0, 600, .inl f_0)), (a_6, .inl (cy 1, 5, .inl (mm_g [i_17, i_18, i_19, i_20, w13_2_4_666]))), (a_7, .inl (cy 1, 30, .inl (mm_g [i_22, i_23, i_24, i_25, i_26, i_27, i_28, i_29, i_30, i_31, i_32, i_33, i_34, i_35, i_36, i_37, i_38, i_39, i_40, i_41, i_42, i_43, i_44, i_45, w13_3_24_667, w13_3_25_668, w13_3_26_669, w13_3_27_670, w13_3_28_671, 0]))), (a_8, .inl (cy 1, 90, .inl z13_4_672)), (a_9, .inl (cy 1, 15, .inl z13_5_673)), (a_10, .inl (cy 1, 1050, .inl z13_6_674)), (a_11, .inl (cy 1, 30, .inl z13_7_675)), (a_12, .inl (cy 1, 240, .inl z13_8_676)), (a_13, .inl (cy 1, 450, .inl f_6))]) rfl (fun _ => rfl) (fun _ => rfl) ?_
            clear hP hD hS
            clear H locs
            intro n709 H locs hw (hP : va_P G vwCl [(a_0, .inr (12, [.int 0, .ref a_1, .ref a_2, .ref a_3, .ref a_4, .ref a_5, .int 0, .int y13_0_7_659, .int y13_0_8_660, .int y13_0_9_661, .int y13_0_10_662, .long y13_0_11_663, .int y13_0_12_664, .int y13_0_13_665, .int y13_0_12_664, .int n709, .ref a_6, .ref a_7, .ref a_8, .ref a_9, .ref a_10, .ref a_11, .ref a_12, .ref a_13, .ref a_14, .ref a_15, .ref a_16, .ref a_17, .ref a_18, .int i_10, .int i_11, .int i_12, .int i_13, .int i_14, .int i_15, .ref a_19, .int i_16, .ref a_20])), (a_5, .inl (cy 0, 600, .inl f_0)), (a_6, .inl (cy 1, 5, .inl (mm_g [i_17, i_18, i_19, i_20, w13_2_4_666]))), (a_7, .inl (cy 1, 30, .inl (mm_g [i_22, i_23, i_24, i_25, i_26, i_27, i_28, i_29, i_30, i_31, i_32, i_33, i_34, i_35, i_36, i_37, i_38, i_39, i_40, i_41, i_42, i_43, i_44, i_45, w13_3_24_667, w13_3_25_668, w13_3_26_669, w13_3_27_670, w13_3_28_671, 0]))), (a_8, .inl (cy 1, 90, .inl z13_4_672)), (a_9, .inl (cy 1, 15, .inl z13_5_673)), (a_10, .inl (cy 1, 1050, .inl z13_6_674)), (a_11, .inl (cy 1, 30, .inl z13_7_675)), (a_12, .inl (cy 1, 240, .inl z13_8_676)), (a_13, .inl (cy 1, 450, .inl f_6))] H) (hD : va_D A [(a_0, .inr (12, [.int 0, .ref a_1, .ref a_2, .ref a_3, .ref a_4, .ref a_5, .int 0, .int y13_0_7_659, .int y13_0_8_660, .int y13_0_9_661, .int y13_0_10_662, .long y13_0_11_663, .int y13_0_12_664, .int y13_0_13_665, .int y13_0_12_664, .int n709, .ref a_6, .ref a_7, .ref a_8, .ref a_9, .ref a_10, .ref a_11, .ref a_12, .ref a_13, .ref a_14, .ref a_15, .ref a_16, .ref a_17, .ref a_18, .int i_10, .int i_11, .int i_12, .int i_13, .int i_14, .int i_15, .ref a_19, .int i_16, .ref a_20])), (a_5, .inl (cy 0, 600, .inl f_0)), (a_6, .inl (cy 1, 5, .inl (mm_g [i_17, i_18, i_19, i_20, w13_2_4_666]))), (a_7, .inl (cy 1, 30, .inl (mm_g [i_22, i_23, i_24, i_25, i_26, i_27, i_28, i_29, i_30, i_31, i_32, i_33, i_34, i_35, i_36, i_37, i_38, i_39, i_40, i_41, i_42, i_43, i_44, i_45, w13_3_24_667, w13_3_25_668, w13_3_26_669, w13_3_27_670, w13_3_28_671, 0]))), (a_8, .inl (cy 1, 90, .inl z13_4_672)), (a_9, .inl (cy 1, 15, .inl z13_5_673)), (a_10, .inl (cy 1, 1050, .inl z13_6_674)), (a_11, .inl (cy 1, 30, .inl z13_7_675)), (a_12, .inl (cy 1, 240, .inl z13_8_676)), (a_13, .inl (cy 1, 450, .inl f_6))]) hS
            refine lv_aload_n hx hb dX12_book_108 rfl (lv_at hl 0 rfl) ?_
            refine va_get (D := G) (ci := 12) (v := .int y13_0_12_664) (C := RX12) (T := TX12) (N := 38) hx hb hts (mm_i inlX12) hown hK.1 hP 0 rfl rfl 12 (by decide) (mm_h hts mm_w436) (fun _ h9 => h9) rfl dX12_book_109 ?_
            refine lv_if_eq (tgt := 118) hx hb dX12_book_112 (by decide) (fun c710 => ?_) (fun c710 => ?_)
            · refine lv_aload_n hx hb dX12_book_118 rfl (lv_at hl 0 rfl) ?_
              refine lv_iconst (v := 4) hx hb dX12_book_119 (by decide) ?_
              refine lv_iconst (v := 0) hx hb dX12_book_120 (by decide) ?_
              refine mm_finv (va_runV (As := [.int 4, .int 0]) (rest := []) ⟨hx, hb, hml, hown, hts⟩ (M89_X12_copyBook l G cy H.size a_0 0 a_1 a_2 a_3 a_4 a_5 0 y13_0_7_659 y13_0_8_660 y13_0_9_661 y13_0_10_662 y13_0_11_663 y13_0_12_664 y13_0_13_665 y13_0_12_664 n709 a_6 a_7 a_8 a_9 a_10 a_11 a_12 a_13 a_14 a_15 a_16 a_17 a_18 i_10 i_11 i_12 i_13 i_14 i_15 a_19 i_16 a_20 i_17 i_18 i_19 i_20 w13_2_4_666 i_22 i_23 i_24 i_25 i_26 i_27 i_28 i_29 i_30 i_31 i_32 i_33 i_34 i_35 i_36 i_37 i_38 i_39 i_40 i_41 i_42 i_43 i_44 i_45 w13_3_24_667 w13_3_25_668 w13_3_26_669 w13_3_27_670 w13_3_28_671 0 z13_4_672 z13_5_673 z13_6_674 z13_7_675 z13_8_676 f_6 h6 h7 h8 h9 (mm_wk q705 (by decide)) h11 h12 h13 h14 h15 h16 h17 h18 h19 h20 h21 h22 h23 h24 h25 h26 h27 h28 h29 h30 h31 h32 h33 h34 rw13_3_24_667 rw13_3_25_668 rw13_3_26_669 rw13_3_27_670 rw13_3_28_671 (mm_wk mm_k0 (by decide)) rz13_4_672 rz13_5_673 rz13_6_674 rz13_7_675 rz13_8_676 h46 (mm_rls_fr h47 w681 w682 (by decide)) (mm_txs_fr h48 w683 w684 (by decide)) h49 h50 (mm_rls_fr h51 w681 w682 (by decide)) (mm_txs_fr h52 w683 w684 (by decide)) h53 h54 (mm_rls_fr h55 w681 w682 (by decide)) (mm_txs_fr h56 w683 w684 (by decide)) h57 h58 (mm_rls_fr h59 w681 w682 (by decide)) (mm_txs_fr h60 w683 w684 (by decide)) h61 h62 w685 w686 w687 w688) (cwV 2 hts (mm_gV mm_w553 mm_w554 mm_w555 mm_w5 mm_w556) rfl rfl rfl hd_X12_copyBook ⟨by rw [hRf]; exact Nat.le_of_ble_eq_true rfl, by rw [hRl]; exact Nat.le_of_ble_eq_true rfl⟩) (mm_preV hK hZ hS hA hP hD [0, 2, 3, 4, 5, 6, 7, 8, 9] rfl rfl 0 rfl rfl rfl) rfl rfl hl.1 rfl (lv_room (Nat.le_of_ble_eq_true rfl)) dX12_book_121 ⟨by rw [hRc]; exact Nat.le_of_ble_eq_true rfl, by rw [hRs]; exact Nat.le_of_ble_eq_true rfl⟩) hP hD hS hA (fun u : (Nat → Int32) × (Nat → Int32) × (Nat → Int32) × (Nat → Int32) × (Nat → Int32) × (Nat → Int32) => [(a_0, .inr (12, [.int 0, .ref a_1, .ref a_2, .ref a_3, .ref a_4, .ref a_5, .int 0, .int y13_0_7_659, .int y13_0_8_660, .int y13_0_9_661, .int y13_0_10_662, .long y13_0_11_663, .int y13_0_12_664, .int y13_0_13_665, .int y13_0_12_664, .int n709, .ref a_6, .ref a_7, .ref a_8, .ref a_9, .ref a_10, .ref a_11, .ref a_12, .ref a_13, .ref a_14, .ref a_15, .ref a_16, .ref a_17, .ref a_18, .int i_10, .int i_11, .int i_12, .int i_13, .int i_14, .int i_15, .ref a_19, .int i_16, .ref a_20])), (a_5, .inl (cy 0, 600, .inl f_0)), (a_6, .inl (cy 1, 5, .inl (mm_g [w13_2_4_666, i_18, i_19, i_20, w13_2_4_666]))), (a_7, .inl (cy 1, 30, .inl (mm_g [w13_3_24_667, w13_3_25_668, w13_3_26_669, w13_3_27_670, w13_3_28_671, 0, i_28, i_29, i_30, i_31, i_32, i_33, i_34, i_35, i_36, i_37, i_38, i_39, i_40, i_41, i_42, i_43, i_44, i_45, w13_3_24_667, w13_3_25_668, w13_3_26_669, w13_3_27_670, w13_3_28_671, 0]))), (a_8, .inl (cy 1, 90, .inl u.1)), (a_9, .inl (cy 1, 15, .inl u.2.1)), (a_10, .inl (cy 1, 1050, .inl u.2.2.1)), (a_11, .inl (cy 1, 30, .inl u.2.2.2.1)), (a_12, .inl (cy 1, 240, .inl u.2.2.2.2.1)), (a_13, .inl (cy 1, 450, .inl u.2.2.2.2.2))]) [0, 2, 3, 4, 5, 6, 7, 8, 9] [1] (n := 10) (fun _ => rfl) (by decide +kernel) (by decide +kernel) rfl (fun _ => rfl) (wr := [(a_5, .inl (cy 0, 600, .inl f_0))]) rfl (fun _ => rfl) (fun _ => @rfl _ ([a_0, a_6, a_7, a_8, a_9, a_10, a_11, a_12, a_13] : List Nat)) ?_
              clear hP hD hS
              clear H locs
              intro u
              obtain ⟨n711, n712, n713, n714, n715, n716⟩ := u
              intro H locs hw (hP : va_P G vwCl [(a_0, .inr (12, [.int 0, .ref a_1, .ref a_2, .ref a_3, .ref a_4, .ref a_5, .int 0, .int y13_0_7_659, .int y13_0_8_660, .int y13_0_9_661, .int y13_0_10_662, .long y13_0_11_663, .int y13_0_12_664, .int y13_0_13_665, .int y13_0_12_664, .int n709, .ref a_6, .ref a_7, .ref a_8, .ref a_9, .ref a_10, .ref a_11, .ref a_12, .ref a_13, .ref a_14, .ref a_15, .ref a_16, .ref a_17, .ref a_18, .int i_10, .int i_11, .int i_12, .int i_13, .int i_14, .int i_15, .ref a_19, .int i_16, .ref a_20])), (a_5, .inl (cy 0, 600, .inl f_0)), (a_6, .inl (cy 1, 5, .inl (mm_g [w13_2_4_666, i_18, i_19, i_20, w13_2_4_666]))), (a_7, .inl (cy 1, 30, .inl (mm_g [w13_3_24_667, w13_3_25_668, w13_3_26_669, w13_3_27_670, w13_3_28_671, 0, i_28, i_29, i_30, i_31, i_32, i_33, i_34, i_35, i_36, i_37, i_38, i_39, i_40, i_41, i_42, i_43, i_44, i_45, w13_3_24_667, w13_3_25_668, w13_3_26_669, w13_3_27_670, w13_3_28_671, 0]))), (a_8, .inl (cy 1, 90, .inl n711)), (a_9, .inl (cy 1, 15, .inl n712)), (a_10, .inl (cy 1, 1050, .inl n713)), (a_11, .inl (cy 1, 30, .inl n714)), (a_12, .inl (cy 1, 240, .inl n715)), (a_13, .inl (cy 1, 450, .inl n716))] H) (hD : va_D A [(a_0, .inr (12, [.int 0, .ref a_1, .ref a_2, .ref a_3, .ref a_4, .ref a_5, .int 0, .int y13_0_7_659, .int y13_0_8_660, .int y13_0_9_661, .int y13_0_10_662, .long y13_0_11_663, .int y13_0_12_664, .int y13_0_13_665, .int y13_0_12_664, .int n709, .ref a_6, .ref a_7, .ref a_8, .ref a_9, .ref a_10, .ref a_11, .ref a_12, .ref a_13, .ref a_14, .ref a_15, .ref a_16, .ref a_17, .ref a_18, .int i_10, .int i_11, .int i_12, .int i_13, .int i_14, .int i_15, .ref a_19, .int i_16, .ref a_20])), (a_5, .inl (cy 0, 600, .inl f_0)), (a_6, .inl (cy 1, 5, .inl (mm_g [w13_2_4_666, i_18, i_19, i_20, w13_2_4_666]))), (a_7, .inl (cy 1, 30, .inl (mm_g [w13_3_24_667, w13_3_25_668, w13_3_26_669, w13_3_27_670, w13_3_28_671, 0, i_28, i_29, i_30, i_31, i_32, i_33, i_34, i_35, i_36, i_37, i_38, i_39, i_40, i_41, i_42, i_43, i_44, i_45, w13_3_24_667, w13_3_25_668, w13_3_26_669, w13_3_27_670, w13_3_28_671, 0]))), (a_8, .inl (cy 1, 90, .inl n711)), (a_9, .inl (cy 1, 15, .inl n712)), (a_10, .inl (cy 1, 1050, .inl n713)), (a_11, .inl (cy 1, 30, .inl n714)), (a_12, .inl (cy 1, 240, .inl n715)), (a_13, .inl (cy 1, 450, .inl n716))]) hS
              obtain ⟨w717, w718, w719, w720, w721, w722, w723, w724, w725, w726, w727, w728, w729, w730, w731, w732, w733, w734⟩ := hw
              replace w723 : mm_rls n712 n713 0 w13_3_26_669 w13_3_27_670 := w723
              replace w724 : mm_txs n714 n715 0 w13_3_26_669 w13_3_28_671 := w724
              replace w725 : mm_acs n716 0 w13_3_26_669 w13_3_27_670 0 := w725
              replace w726 : mm_rls n712 n713 1 i_30 i_31 := w726
              replace w727 : mm_txs n714 n715 1 i_30 i_32 := w727
              replace w728 : mm_acs n716 1 i_30 i_31 i_33 := w728
              replace w729 : mm_rls n712 n713 2 i_36 i_37 := w729
              replace w730 : mm_txs n714 n715 2 i_36 i_38 := w730
              replace w731 : mm_acs n716 2 i_36 i_37 i_39 := w731
              replace w732 : mm_rls n712 n713 3 i_42 i_43 := w732
              replace w733 : mm_txs n714 n715 3 i_42 i_44 := w733
              replace w734 : mm_acs n716 3 i_42 i_43 i_45 := w734
              refine lv_aload_n hx hb dX12_book_124 rfl (lv_at hl 0 rfl) ?_
              refine va_get (D := G) (ci := 12) (v := .ref a_6) (C := RX12) (T := TX12) (N := 38) hx hb hts (mm_i inlX12) hown hK.1 hP 0 rfl rfl 16 (by decide) (mm_h hts mm_w148) (fun _ h9 => h9) rfl dX12_book_125 ?_
              refine lv_iconst (v := 0) hx hb dX12_book_128 (by decide) ?_
              refine va_iald hx hb hK.1 hP 2 1 rfl rfl (mm_in mm_k0 (by decide)) dX12_book_129 ?_
              rw [show (mm_g [w13_2_4_666, i_18, i_19, i_20, w13_2_4_666]) (0 : Int32).toNatClampNeg = w13_2_4_666 from mm_ge 0 (by decide) rfl]
              subst hAe
              rw [hQ]
              exact W.iret (v := w13_2_4_666) hx hb hr (fun t ht hW => ⟨⟨w13_2_4_666, (y13_0_7_659, y13_0_8_660, y13_0_9_661, y13_0_10_662, y13_0_11_663, y13_0_12_664, y13_0_13_665, y13_0_12_664, n709, w13_2_4_666, w13_2_4_666, w13_3_24_667, w13_3_25_668, w13_3_26_669, w13_3_27_670, w13_3_28_671, 0, w13_3_24_667, w13_3_25_668, w13_3_26_669, w13_3_27_670, w13_3_28_671, n711, n712, n713, n714, n715, n716), rfl, ⟨ry13_0_7_659, (mm_wk q708 (by decide)), ry13_0_9_661, (mm_wk w692 (by decide)), (mm_wk w692 (by decide)), (mm_wk q705 (by decide)), (mm_wk q705 (by decide)), rw13_3_24_667, rw13_3_25_668, rw13_3_26_669, rw13_3_27_670, rw13_3_28_671, (mm_wk mm_k0 (by decide)), rw13_3_24_667, rw13_3_25_668, rw13_3_26_669, rw13_3_27_670, rw13_3_28_671, w717, w718, w719, w720, w721, w722, w723, w724, w725, w688, w726, w727, w728, w729, w730, w731, w732, w733, w734, (mm_wk q705 (by decide))⟩, by rw [ht]; exact hP, hK.warm hW, hD⟩, hS.F ht⟩) hS.2.2 dX12_book_130
            · have q735 := mm_neL (lo := 1) (mm_ne c710) w692 mm_k0 (by decide) (by decide)
              exact mm_no q735 (by decide)
          · have q736 := mm_neL (lo := 1) (mm_ne c707) ry13_0_8_660 mm_k0 (by decide) (by decide)
            refine lv_aload_n hx hb dX12_book_27 rfl (lv_at hl 0 rfl) ?_
            refine va_get (D := G) (ci := 12) (v := .ref a_6) (C := RX12) (T := TX12) (N := 38) hx hb hts (mm_i inlX12) hown hK.1 hP 0 rfl rfl 16 (by decide) (mm_h hts mm_w148) (fun _ h9 => h9) rfl dX12_book_28 ?_
            refine lv_iconst (v := 4) hx hb dX12_book_31 (by decide) ?_
            refine va_iald hx hb hK.1 hP 2 1 rfl rfl (mm_in mm_k4 (by decide)) dX12_book_32 ?_
            rw [show (mm_g [i_17, i_18, i_19, i_20, w13_2_4_666]) (4 : Int32).toNatClampNeg = w13_2_4_666 from mm_ge 4 (by decide) rfl]
            refine lv_if_ne (tgt := 76) hx hb dX12_book_33 (by decide) (fun c737 => ?_) (fun c737 => ?_)
            · have q738 := mm_neL (lo := 1) (mm_ne c737) q705 mm_k0 (by decide) (by decide)
              have q739 := mm_leR w704 q738 ry13_0_9_661
              have q740 := mm_leR w677 q739 ry13_0_7_659
              have q741 := mm_leR w678 q740 h0
              refine lv_aload_n hx hb dX12_book_76 rfl (lv_at hl 0 rfl) ?_
              refine mm_finv (va_runV (As := []) (rest := []) ⟨hx, hb, hml, hown, hts⟩ (M79_X12_lineHere l G cy H.size a_0 0 a_1 a_2 a_3 a_4 a_5 i_1 y13_0_7_659 y13_0_8_660 y13_0_9_661 y13_0_10_662 y13_0_11_663 y13_0_12_664 y13_0_13_665 i_8 i_9 a_6 a_7 a_8 a_9 a_10 a_11 a_12 a_13 a_14 a_15 a_16 a_17 a_18 i_10 i_11 i_12 i_13 i_14 i_15 a_19 i_16 a_20 f_0 i_22 i_23 i_24 i_25 i_26 i_27 i_28 i_29 i_30 i_31 i_32 i_33 i_34 i_35 i_36 i_37 i_38 i_39 i_40 i_41 i_42 i_43 i_44 i_45 w13_3_24_667 w13_3_25_668 w13_3_26_669 w13_3_27_670 w13_3_28_671 0 z13_4_672 z13_5_673 z13_6_674 z13_7_675 z13_8_676 (mm_wk q741 (by decide)) (mm_wk q740 (by decide)) (mm_wk q736 (by decide)) (mm_wk q739 (by decide)) (mm_wk w692 (by decide)) h5 h11 h12 h13 h14 h15 h16 h17 h18 h19 h20 h21 h22 h23 h24 h25 h26 h27 h28 h29 h30 h31 h32 h33 h34 rw13_3_24_667 rw13_3_25_668 rw13_3_26_669 rw13_3_27_670 rw13_3_28_671 (mm_wk mm_k0 (by decide)) rz13_4_672 rz13_5_673 rz13_6_674 rz13_7_675 rz13_8_676 (mm_rls_fr h47 w681 w682 (by decide)) (mm_txs_fr h48 w683 w684 (by decide)) (mm_rls_fr h51 w681 w682 (by decide)) (mm_txs_fr h52 w683 w684 (by decide)) (mm_rls_fr h55 w681 w682 (by decide)) (mm_txs_fr h56 w683 w684 (by decide)) (mm_rls_fr h59 w681 w682 (by decide)) (mm_txs_fr h60 w683 w684 (by decide)) w677 w678 w679 w685 w686) (cwV 0 hts (mm_gV mm_w495 mm_w496 mm_w497 mm_w5 mm_w498) rfl rfl rfl hd_X12_lineHere ⟨by rw [hRf]; exact Nat.le_of_ble_eq_true rfl, by rw [hRl]; exact Nat.le_of_ble_eq_true rfl⟩) (mm_preV hK hZ hS hA hP hD [0, 1, 3, 4, 5, 6, 7, 8] rfl rfl 0 rfl rfl rfl) rfl rfl hl.1 rfl (lv_room (Nat.le_of_ble_eq_true rfl)) dX12_book_77 ⟨by rw [hRc]; exact Nat.le_of_ble_eq_true rfl, by rw [hRs]; exact Nat.le_of_ble_eq_true rfl⟩) hP hD hS hA (fun u : Int32 × Int32 × Int32 × Int32 × Int64 × Int32 × Int32 × Int32 × Int32 × Int32 × (Nat → Int32) × (Nat → Int32) × (Nat → Int32) × (Nat → Int32) × (Nat → Int32) => [(a_0, .inr (12, [.int 0, .ref a_1, .ref a_2, .ref a_3, .ref a_4, .ref a_5, .int i_1, .int u.1, .int u.2.1, .int u.2.2.1, .int u.2.2.2.1, .long u.2.2.2.2.1, .int u.2.2.2.2.2.1, .int u.2.2.2.2.2.2.1, .int i_8, .int i_9, .ref a_6, .ref a_7, .ref a_8, .ref a_9, .ref a_10, .ref a_11, .ref a_12, .ref a_13, .ref a_14, .ref a_15, .ref a_16, .ref a_17, .ref a_18, .int i_10, .int i_11, .int i_12, .int i_13, .int i_14, .int i_15, .ref a_19, .int i_16, .ref a_20])), (a_5, .inl (cy 0, 600, .inl f_0)), (a_6, .inl (cy 1, 5, .inl (mm_g [i_17, i_18, i_19, i_20, w13_2_4_666]))), (a_7, .inl (cy 1, 30, .inl (mm_g [i_22, i_23, i_24, i_25, i_26, i_27, i_28, i_29, i_30, i_31, i_32, i_33, i_34, i_35, i_36, i_37, i_38, i_39, i_40, i_41, i_42, i_43, i_44, i_45, w13_3_24_667, w13_3_25_668, u.2.2.2.2.2.2.2.1, u.2.2.2.2.2.2.2.2.1, u.2.2.2.2.2.2.2.2.2.1, 0]))), (a_8, .inl (cy 1, 90, .inl u.2.2.2.2.2.2.2.2.2.2.1)), (a_9, .inl (cy 1, 15, .inl u.2.2.2.2.2.2.2.2.2.2.2.1)), (a_10, .inl (cy 1, 1050, .inl u.2.2.2.2.2.2.2.2.2.2.2.2.1)), (a_11, .inl (cy 1, 30, .inl u.2.2.2.2.2.2.2.2.2.2.2.2.2.1)), (a_12, .inl (cy 1, 240, .inl u.2.2.2.2.2.2.2.2.2.2.2.2.2.2)), (a_13, .inl (cy 1, 450, .inl f_6))]) [0, 1, 3, 4, 5, 6, 7, 8] [2, 9] (n := 10) (fun _ => rfl) (by decide +kernel) (by decide +kernel) rfl (fun _ => rfl) (wr := [(a_6, .inl (cy 1, 5, .inl (mm_g [i_17, i_18, i_19, i_20, w13_2_4_666]))), (a_13, .inl (cy 1, 450, .inl f_6))]) rfl (fun _ => rfl) (fun _ => @rfl _ ([a_0, a_5, a_7, a_8, a_9, a_10, a_11, a_12] : List Nat)) ?_
              clear hP hD hS
              clear H locs
              intro u
              obtain ⟨n742, n743, n744, n745, n746, n747, n748, n749, n750, n751, n752, n753, n754, n755, n756⟩ := u
              intro H locs hw (hP : va_P G vwCl [(a_0, .inr (12, [.int 0, .ref a_1, .ref a_2, .ref a_3, .ref a_4, .ref a_5, .int i_1, .int n742, .int n743, .int n744, .int n745, .long n746, .int n747, .int n748, .int i_8, .int i_9, .ref a_6, .ref a_7, .ref a_8, .ref a_9, .ref a_10, .ref a_11, .ref a_12, .ref a_13, .ref a_14, .ref a_15, .ref a_16, .ref a_17, .ref a_18, .int i_10, .int i_11, .int i_12, .int i_13, .int i_14, .int i_15, .ref a_19, .int i_16, .ref a_20])), (a_5, .inl (cy 0, 600, .inl f_0)), (a_6, .inl (cy 1, 5, .inl (mm_g [i_17, i_18, i_19, i_20, w13_2_4_666]))), (a_7, .inl (cy 1, 30, .inl (mm_g [i_22, i_23, i_24, i_25, i_26, i_27, i_28, i_29, i_30, i_31, i_32, i_33, i_34, i_35, i_36, i_37, i_38, i_39, i_40, i_41, i_42, i_43, i_44, i_45, w13_3_24_667, w13_3_25_668, n749, n750, n751, 0]))), (a_8, .inl (cy 1, 90, .inl n752)), (a_9, .inl (cy 1, 15, .inl n753)), (a_10, .inl (cy 1, 1050, .inl n754)), (a_11, .inl (cy 1, 30, .inl n755)), (a_12, .inl (cy 1, 240, .inl n756)), (a_13, .inl (cy 1, 450, .inl f_6))] H) (hD : va_D A [(a_0, .inr (12, [.int 0, .ref a_1, .ref a_2, .ref a_3, .ref a_4, .ref a_5, .int i_1, .int n742, .int n743, .int n744, .int n745, .long n746, .int n747, .int n748, .int i_8, .int i_9, .ref a_6, .ref a_7, .ref a_8, .ref a_9, .ref a_10, .ref a_11, .ref a_12, .ref a_13, .ref a_14, .ref a_15, .ref a_16, .ref a_17, .ref a_18, .int i_10, .int i_11, .int i_12, .int i_13, .int i_14, .int i_15, .ref a_19, .int i_16, .ref a_20])), (a_5, .inl (cy 0, 600, .inl f_0)), (a_6, .inl (cy 1, 5, .inl (mm_g [i_17, i_18, i_19, i_20, w13_2_4_666]))), (a_7, .inl (cy 1, 30, .inl (mm_g [i_22, i_23, i_24, i_25, i_26, i_27, i_28, i_29, i_30, i_31, i_32, i_33, i_34, i_35, i_36, i_37, i_38, i_39, i_40, i_41, i_42, i_43, i_44, i_45, w13_3_24_667, w13_3_25_668, n749, n750, n751, 0]))), (a_8, .inl (cy 1, 90, .inl n752)), (a_9, .inl (cy 1, 15, .inl n753)), (a_10, .inl (cy 1, 1050, .inl n754)), (a_11, .inl (cy 1, 30, .inl n755)), (a_12, .inl (cy 1, 240, .inl n756)), (a_13, .inl (cy 1, 450, .inl f_6))]) hS
              obtain ⟨w757, w758, w759, w760, w761, w762, w763, w764, w765, w766, w767, w768, w769, w770, w771, w772, w773, w774, w775, w776, w777, w778, w779, w780, w781, w782, w783, w784, w785, w786⟩ := hw
              replace w769 : mm_rls n753 n754 0 i_24 i_25 := w769
              replace w770 : mm_txs n755 n756 0 i_24 i_26 := w770
              replace w771 : mm_rls n753 n754 1 i_30 i_31 := w771
              replace w772 : mm_txs n755 n756 1 i_30 i_32 := w772
              replace w773 : mm_rls n753 n754 2 i_36 i_37 := w773
              replace w774 : mm_txs n755 n756 2 i_36 i_38 := w774
              replace w775 : mm_rls n753 n754 3 i_42 i_43 := w775
              replace w776 : mm_txs n755 n756 3 i_42 i_44 := w776
              replace w777 : (n744 : Int32).toInt ≤ (n742 : Int32).toInt := w777
              replace w778 : (n742 : Int32).toInt ≤ (i_1 : Int32).toInt := w778
              replace w779 : mm_tk n743 n744 n742 := w779
              replace w780 : (y13_0_9_661 : Int32).toInt ≤ (n744 : Int32).toInt := w780
              have q787 := mm_leR w780 q739 w759
              have q788 := mm_leR w777 q787 w757
              replace w781 : mm_rls n753 n754 4 n749 n750 := w781
              replace w782 : mm_txs n755 n756 4 n749 n751 := w782
              replace w783 : mm_fr z13_5_673 n753 12 := w783
              replace w784 : mm_fr z13_6_674 n754 840 := w784
              replace w785 : mm_fr z13_7_675 n755 24 := w785
              replace w786 : mm_fr z13_8_676 n756 192 := w786
              refine lv_aload_n hx hb dX12_book_80 rfl (lv_at hl 0 rfl) ?_
              refine mm_finir (va_runV (As := []) (rest := []) ⟨hx, hb, hml, hown, hts⟩ (M24_X12_isGood l G cy H.size a_0 0 a_1 a_2 a_3 a_4 a_5 i_1 n742 n743 n744 n745 n746 n747 n748 i_8 i_9 a_6 a_7 a_8 a_9 a_10 a_11 a_12 a_13 a_14 a_15 a_16 a_17 a_18 i_10 i_11 i_12 i_13 i_14 i_15 a_19 i_16 a_20 w760) (cwV 0 hts (mm_gV mm_w467 mm_w468 mm_w469 mm_w5 mm_w470) rfl rfl rfl hd_X12_isGood ⟨by rw [hRf]; exact Nat.le_of_ble_eq_true rfl, by rw [hRl]; exact Nat.le_of_ble_eq_true rfl⟩) (mm_preV hK hZ hS hA hP hD [0] rfl rfl 0 rfl rfl rfl) rfl rfl hl.1 rfl (lv_room (Nat.le_of_ble_eq_true rfl)) dX12_book_81 ⟨by rw [hRc]; exact Nat.le_of_ble_eq_true rfl, by rw [hRs]; exact Nat.le_of_ble_eq_true rfl⟩) hP hD hS hA [0] rfl (fun _ => rfl) ?_
              clear hP hD hS
              clear H locs
              intro v789 _u H locs hw hP hD hS
              rcases hw with ⟨rfl, w790⟩ | ⟨rfl, w791⟩
              · refine lv_if_eq (tgt := 91) hx hb dX12_book_84 (by decide) (fun c792 => ?_) (fun c792 => ?_)
                · refine lv_aload_n hx hb dX12_book_91 rfl (lv_at hl 0 rfl) ?_
                  refine va_get (D := G) (ci := 12) (v := .ref a_6) (C := RX12) (T := TX12) (N := 38) hx hb hts (mm_i inlX12) hown hK.1 hP 0 rfl rfl 16 (by decide) (mm_h hts mm_w148) (fun _ h9 => h9) rfl dX12_book_92 ?_
                  refine lv_iconst (v := 4) hx hb dX12_book_95 (by decide) ?_
                  refine lv_dup2_11 hx hb dX12_book_96 rfl rfl ?_
                  refine va_iald hx hb hK.1 hP 2 1 rfl rfl (mm_in mm_k4 (by decide)) dX12_book_97 ?_
                  rw [show (mm_g [i_17, i_18, i_19, i_20, w13_2_4_666]) (4 : Int32).toNatClampNeg = w13_2_4_666 from mm_ge 4 (by decide) rfl]
                  refine lv_iconst (v := 1) hx hb dX12_book_98 (by decide) ?_
                  refine lv_iadd hx hb dX12_book_99 ?_
                  refine lv_topi (fun v793 ev793 => ?_)
                  have rv793 : mm_rg v793 2 601 := mm_add ev793 q738 mm_k1 (by decide) (by decide)
                  have tv793 := mm_addEc ev793 q738 mm_k1 (by decide) (k := 1) (by decide)
                  refine va_iast hx hb hK.1 hP hD hS 2 1 rfl rfl (mm_in mm_k4 (by decide)) dX12_book_100 ?_
                  clear hP hD hS
                  clear H locs
                  rw [show upd (mm_g [i_17, i_18, i_19, i_20, w13_2_4_666]) (4 : Int32).toNatClampNeg v793 = (mm_g [i_17, i_18, i_19, i_20, v793]) from mm_gs2 4 5 (by decide) rfl rfl rfl]
                  intro H locs (hP : va_P G vwCl [(a_0, .inr (12, [.int 0, .ref a_1, .ref a_2, .ref a_3, .ref a_4, .ref a_5, .int i_1, .int n742, .int n743, .int n744, .int n745, .long n746, .int n747, .int n748, .int i_8, .int i_9, .ref a_6, .ref a_7, .ref a_8, .ref a_9, .ref a_10, .ref a_11, .ref a_12, .ref a_13, .ref a_14, .ref a_15, .ref a_16, .ref a_17, .ref a_18, .int i_10, .int i_11, .int i_12, .int i_13, .int i_14, .int i_15, .ref a_19, .int i_16, .ref a_20])), (a_5, .inl (cy 0, 600, .inl f_0)), (a_6, .inl (cy 1, 5, .inl (mm_g [i_17, i_18, i_19, i_20, v793]))), (a_7, .inl (cy 1, 30, .inl (mm_g [i_22, i_23, i_24, i_25, i_26, i_27, i_28, i_29, i_30, i_31, i_32, i_33, i_34, i_35, i_36, i_37, i_38, i_39, i_40, i_41, i_42, i_43, i_44, i_45, w13_3_24_667, w13_3_25_668, n749, n750, n751, 0]))), (a_8, .inl (cy 1, 90, .inl n752)), (a_9, .inl (cy 1, 15, .inl n753)), (a_10, .inl (cy 1, 1050, .inl n754)), (a_11, .inl (cy 1, 30, .inl n755)), (a_12, .inl (cy 1, 240, .inl n756)), (a_13, .inl (cy 1, 450, .inl f_6))] H) (hD : va_D A [(a_0, .inr (12, [.int 0, .ref a_1, .ref a_2, .ref a_3, .ref a_4, .ref a_5, .int i_1, .int n742, .int n743, .int n744, .int n745, .long n746, .int n747, .int n748, .int i_8, .int i_9, .ref a_6, .ref a_7, .ref a_8, .ref a_9, .ref a_10, .ref a_11, .ref a_12, .ref a_13, .ref a_14, .ref a_15, .ref a_16, .ref a_17, .ref a_18, .int i_10, .int i_11, .int i_12, .int i_13, .int i_14, .int i_15, .ref a_19, .int i_16, .ref a_20])), (a_5, .inl (cy 0, 600, .inl f_0)), (a_6, .inl (cy 1, 5, .inl (mm_g [i_17, i_18, i_19, i_20, v793]))), (a_7, .inl (cy 1, 30, .inl (mm_g [i_22, i_23, i_24, i_25, i_26, i_27, i_28, i_29, i_30, i_31, i_32, i_33, i_34, i_35, i_36, i_37, i_38, i_39, i_40, i_41, i_42, i_43, i_44, i_45, w13_3_24_667, w13_3_25_668, n749, n750, n751, 0]))), (a_8, .inl (cy 1, 90, .inl n752)), (a_9, .inl (cy 1, 15, .inl n753)), (a_10, .inl (cy 1, 1050, .inl n754)), (a_11, .inl (cy 1, 30, .inl n755)), (a_12, .inl (cy 1, 240, .inl n756)), (a_13, .inl (cy 1, 450, .inl f_6))]) hS
                  refine lv_goto (tgt := 13) hx hb dX12_book_101 (by decide) ?_
                  exact ih13 n742 n743 n744 n745 n746 n747 n748 v793 w13_3_24_667 w13_3_25_668 n749 n750 n751 n752 n753 n754 n755 n756 (mm_wk q788 (by decide)) w758 (mm_wk q787 (by decide)) (mm_wk w790 (by decide)) (mm_wk rv793 (by decide)) rw13_3_24_667 rw13_3_25_668 w761 w762 w763 w764 w765 w766 w767 w768 w777 w778 w779 (mm_lp_n w790 (by decide)) (mm_fr_t w681 w783) (mm_fr_t w682 w784) (mm_fr_t w683 w785) (mm_fr_t w684 w786) w781 w782 (mm_acs_z mm_k0 (by decide)) (mm_tl_1 rv793 (by decide)) (mm_bm hm13 w692 (mm_go_n w790 (by decide)) q787) H locs hP hD hS ls (lv_sub hl [0] rfl)
                · exact absurd rfl (mm_ne c792)
              · refine lv_if_eq (tgt := 91) hx hb dX12_book_84 (by decide) (fun c794 => ?_) (fun c794 => ?_)
                · exact mm_eqN c794.symm mm_k0 mm_k1 (by decide)
                · refine lv_aload_n hx hb dX12_book_87 rfl (lv_at hl 0 rfl) ?_
                  refine mm_finv (va_runV (As := []) (rest := []) ⟨hx, hb, hml, hown, hts⟩ (M36_X12_ends l G cy H.size a_0 0 a_1 a_2 a_3 a_4 a_5 i_1 n742 n743 n744 n745 n746 n747 n748 i_8 i_9 a_6 a_7 a_8 a_9 a_10 a_11 a_12 a_13 a_14 a_15 a_16 a_17 a_18 i_10 i_11 i_12 i_13 i_14 i_15 a_19 i_16 a_20 f_0 (mm_wk q741 (by decide)) (mm_wk q788 (by decide)) w758 (mm_wk q787 (by decide)) (mm_wk w791 (by decide)) h5 w777 w778 w779) (cwV 0 hts (mm_gV mm_w544 mm_w545 mm_w546 mm_w5 mm_w547) rfl rfl rfl hd_X12_ends ⟨by rw [hRf]; exact Nat.le_of_ble_eq_true rfl, by rw [hRl]; exact Nat.le_of_ble_eq_true rfl⟩) (mm_preV hK hZ hS hA hP hD [0, 1] rfl rfl 0 rfl rfl rfl) rfl rfl hl.1 rfl (lv_room (Nat.le_of_ble_eq_true rfl)) dX12_book_88 ⟨by rw [hRc]; exact Nat.le_of_ble_eq_true rfl, by rw [hRs]; exact Nat.le_of_ble_eq_true rfl⟩) hP hD hS hA (fun u : Int32 × Int32 × Int32 × Int32 × Int64 × Int32 × Int32 => [(a_0, .inr (12, [.int 0, .ref a_1, .ref a_2, .ref a_3, .ref a_4, .ref a_5, .int i_1, .int u.1, .int u.2.1, .int u.2.2.1, .int u.2.2.2.1, .long u.2.2.2.2.1, .int u.2.2.2.2.2.1, .int u.2.2.2.2.2.2, .int i_8, .int i_9, .ref a_6, .ref a_7, .ref a_8, .ref a_9, .ref a_10, .ref a_11, .ref a_12, .ref a_13, .ref a_14, .ref a_15, .ref a_16, .ref a_17, .ref a_18, .int i_10, .int i_11, .int i_12, .int i_13, .int i_14, .int i_15, .ref a_19, .int i_16, .ref a_20])), (a_5, .inl (cy 0, 600, .inl f_0)), (a_6, .inl (cy 1, 5, .inl (mm_g [i_17, i_18, i_19, i_20, w13_2_4_666]))), (a_7, .inl (cy 1, 30, .inl (mm_g [i_22, i_23, i_24, i_25, i_26, i_27, i_28, i_29, i_30, i_31, i_32, i_33, i_34, i_35, i_36, i_37, i_38, i_39, i_40, i_41, i_42, i_43, i_44, i_45, w13_3_24_667, w13_3_25_668, n749, n750, n751, 0]))), (a_8, .inl (cy 1, 90, .inl n752)), (a_9, .inl (cy 1, 15, .inl n753)), (a_10, .inl (cy 1, 1050, .inl n754)), (a_11, .inl (cy 1, 30, .inl n755)), (a_12, .inl (cy 1, 240, .inl n756)), (a_13, .inl (cy 1, 450, .inl f_6))]) [0, 1] [2, 3, 4, 5, 6, 7, 8, 9] (n := 10) (fun _ => rfl) (by decide +kernel) (by decide +kernel) rfl (fun _ => rfl) (wr := [(a_6, .inl (cy 1, 5, .inl (mm_g [i_17, i_18, i_19, i_20, w13_2_4_666]))), (a_7, .inl (cy 1, 30, .inl (mm_g [i_22, i_23, i_24, i_25, i_26, i_27, i_28, i_29, i_30, i_31, i_32, i_33, i_34, i_35, i_36, i_37, i_38, i_39, i_40, i_41, i_42, i_43, i_44, i_45, w13_3_24_667, w13_3_25_668, n749, n750, n751, 0]))), (a_8, .inl (cy 1, 90, .inl n752)), (a_9, .inl (cy 1, 15, .inl n753)), (a_10, .inl (cy 1, 1050, .inl n754)), (a_11, .inl (cy 1, 30, .inl n755)), (a_12, .inl (cy 1, 240, .inl n756)), (a_13, .inl (cy 1, 450, .inl f_6))]) rfl (fun _ => rfl) (fun _ => rfl) ?_
                  clear hP hD hS
                  clear H locs
                  intro u
                  obtain ⟨n795, n796, n797, n798, n799, n800, n801⟩ := u
                  intro H locs hw (hP : va_P G vwCl [(a_0, .inr (12, [.int 0, .ref a_1, .ref a_2, .ref a_3, .ref a_4, .ref a_5, .int i_1, .int n795, .int n796, .int n797, .int n798, .long n799, .int n800, .int n801, .int i_8, .int i_9, .ref a_6, .ref a_7, .ref a_8, .ref a_9, .ref a_10, .ref a_11, .ref a_12, .ref a_13, .ref a_14, .ref a_15, .ref a_16, .ref a_17, .ref a_18, .int i_10, .int i_11, .int i_12, .int i_13, .int i_14, .int i_15, .ref a_19, .int i_16, .ref a_20])), (a_5, .inl (cy 0, 600, .inl f_0)), (a_6, .inl (cy 1, 5, .inl (mm_g [i_17, i_18, i_19, i_20, w13_2_4_666]))), (a_7, .inl (cy 1, 30, .inl (mm_g [i_22, i_23, i_24, i_25, i_26, i_27, i_28, i_29, i_30, i_31, i_32, i_33, i_34, i_35, i_36, i_37, i_38, i_39, i_40, i_41, i_42, i_43, i_44, i_45, w13_3_24_667, w13_3_25_668, n749, n750, n751, 0]))), (a_8, .inl (cy 1, 90, .inl n752)), (a_9, .inl (cy 1, 15, .inl n753)), (a_10, .inl (cy 1, 1050, .inl n754)), (a_11, .inl (cy 1, 30, .inl n755)), (a_12, .inl (cy 1, 240, .inl n756)), (a_13, .inl (cy 1, 450, .inl f_6))] H) (hD : va_D A [(a_0, .inr (12, [.int 0, .ref a_1, .ref a_2, .ref a_3, .ref a_4, .ref a_5, .int i_1, .int n795, .int n796, .int n797, .int n798, .long n799, .int n800, .int n801, .int i_8, .int i_9, .ref a_6, .ref a_7, .ref a_8, .ref a_9, .ref a_10, .ref a_11, .ref a_12, .ref a_13, .ref a_14, .ref a_15, .ref a_16, .ref a_17, .ref a_18, .int i_10, .int i_11, .int i_12, .int i_13, .int i_14, .int i_15, .ref a_19, .int i_16, .ref a_20])), (a_5, .inl (cy 0, 600, .inl f_0)), (a_6, .inl (cy 1, 5, .inl (mm_g [i_17, i_18, i_19, i_20, w13_2_4_666]))), (a_7, .inl (cy 1, 30, .inl (mm_g [i_22, i_23, i_24, i_25, i_26, i_27, i_28, i_29, i_30, i_31, i_32, i_33, i_34, i_35, i_36, i_37, i_38, i_39, i_40, i_41, i_42, i_43, i_44, i_45, w13_3_24_667, w13_3_25_668, n749, n750, n751, 0]))), (a_8, .inl (cy 1, 90, .inl n752)), (a_9, .inl (cy 1, 15, .inl n753)), (a_10, .inl (cy 1, 1050, .inl n754)), (a_11, .inl (cy 1, 30, .inl n755)), (a_12, .inl (cy 1, 240, .inl n756)), (a_13, .inl (cy 1, 450, .inl f_6))]) hS
                  obtain ⟨w802, w803, w804, w805, w806, w807, w808, w809, w810⟩ := hw
                  replace w806 : (n797 : Int32).toInt ≤ (n795 : Int32).toInt := w806
                  replace w807 : (n795 : Int32).toInt ≤ (i_1 : Int32).toInt := w807
                  replace w808 : mm_tk n796 n797 n795 := w808
                  replace w809 : (n744 : Int32).toInt ≤ (n797 : Int32).toInt := w809
                  have q811 := mm_leR w809 q787 w804
                  have q812 := mm_leR w806 q811 w802
                  replace w810 : mm_go n800 n744 n797 := w810
                  refine lv_aload_n hx hb dX12_book_91 rfl (lv_at hl 0 rfl) ?_
                  refine va_get (D := G) (ci := 12) (v := .ref a_6) (C := RX12) (T := TX12) (N := 38) hx hb hts (mm_i inlX12) hown hK.1 hP 0 rfl rfl 16 (by decide) (mm_h hts mm_w148) (fun _ h9 => h9) rfl dX12_book_92 ?_
                  refine lv_iconst (v := 4) hx hb dX12_book_95 (by decide) ?_
                  refine lv_dup2_11 hx hb dX12_book_96 rfl rfl ?_
                  refine va_iald hx hb hK.1 hP 2 1 rfl rfl (mm_in mm_k4 (by decide)) dX12_book_97 ?_
                  rw [show (mm_g [i_17, i_18, i_19, i_20, w13_2_4_666]) (4 : Int32).toNatClampNeg = w13_2_4_666 from mm_ge 4 (by decide) rfl]
                  refine lv_iconst (v := 1) hx hb dX12_book_98 (by decide) ?_
                  refine lv_iadd hx hb dX12_book_99 ?_
                  refine lv_topi (fun v813 ev813 => ?_)
                  have rv813 : mm_rg v813 2 601 := mm_add ev813 q738 mm_k1 (by decide) (by decide)
                  have tv813 := mm_addEc ev813 q738 mm_k1 (by decide) (k := 1) (by decide)
                  refine va_iast hx hb hK.1 hP hD hS 2 1 rfl rfl (mm_in mm_k4 (by decide)) dX12_book_100 ?_
                  clear hP hD hS
                  clear H locs
                  rw [show upd (mm_g [i_17, i_18, i_19, i_20, w13_2_4_666]) (4 : Int32).toNatClampNeg v813 = (mm_g [i_17, i_18, i_19, i_20, v813]) from mm_gs2 4 5 (by decide) rfl rfl rfl]
                  intro H locs (hP : va_P G vwCl [(a_0, .inr (12, [.int 0, .ref a_1, .ref a_2, .ref a_3, .ref a_4, .ref a_5, .int i_1, .int n795, .int n796, .int n797, .int n798, .long n799, .int n800, .int n801, .int i_8, .int i_9, .ref a_6, .ref a_7, .ref a_8, .ref a_9, .ref a_10, .ref a_11, .ref a_12, .ref a_13, .ref a_14, .ref a_15, .ref a_16, .ref a_17, .ref a_18, .int i_10, .int i_11, .int i_12, .int i_13, .int i_14, .int i_15, .ref a_19, .int i_16, .ref a_20])), (a_5, .inl (cy 0, 600, .inl f_0)), (a_6, .inl (cy 1, 5, .inl (mm_g [i_17, i_18, i_19, i_20, v813]))), (a_7, .inl (cy 1, 30, .inl (mm_g [i_22, i_23, i_24, i_25, i_26, i_27, i_28, i_29, i_30, i_31, i_32, i_33, i_34, i_35, i_36, i_37, i_38, i_39, i_40, i_41, i_42, i_43, i_44, i_45, w13_3_24_667, w13_3_25_668, n749, n750, n751, 0]))), (a_8, .inl (cy 1, 90, .inl n752)), (a_9, .inl (cy 1, 15, .inl n753)), (a_10, .inl (cy 1, 1050, .inl n754)), (a_11, .inl (cy 1, 30, .inl n755)), (a_12, .inl (cy 1, 240, .inl n756)), (a_13, .inl (cy 1, 450, .inl f_6))] H) (hD : va_D A [(a_0, .inr (12, [.int 0, .ref a_1, .ref a_2, .ref a_3, .ref a_4, .ref a_5, .int i_1, .int n795, .int n796, .int n797, .int n798, .long n799, .int n800, .int n801, .int i_8, .int i_9, .ref a_6, .ref a_7, .ref a_8, .ref a_9, .ref a_10, .ref a_11, .ref a_12, .ref a_13, .ref a_14, .ref a_15, .ref a_16, .ref a_17, .ref a_18, .int i_10, .int i_11, .int i_12, .int i_13, .int i_14, .int i_15, .ref a_19, .int i_16, .ref a_20])), (a_5, .inl (cy 0, 600, .inl f_0)), (a_6, .inl (cy 1, 5, .inl (mm_g [i_17, i_18, i_19, i_20, v813]))), (a_7, .inl (cy 1, 30, .inl (mm_g [i_22, i_23, i_24, i_25, i_26, i_27, i_28, i_29, i_30, i_31, i_32, i_33, i_34, i_35, i_36, i_37, i_38, i_39, i_40, i_41, i_42, i_43, i_44, i_45, w13_3_24_667, w13_3_25_668, n749, n750, n751, 0]))), (a_8, .inl (cy 1, 90, .inl n752)), (a_9, .inl (cy 1, 15, .inl n753)), (a_10, .inl (cy 1, 1050, .inl n754)), (a_11, .inl (cy 1, 30, .inl n755)), (a_12, .inl (cy 1, 240, .inl n756)), (a_13, .inl (cy 1, 450, .inl f_6))]) hS
                  refine lv_goto (tgt := 13) hx hb dX12_book_101 (by decide) ?_
                  exact ih13 n795 n796 n797 n798 n799 n800 n801 v813 w13_3_24_667 w13_3_25_668 n749 n750 n751 n752 n753 n754 n755 n756 (mm_wk q812 (by decide)) w803 (mm_wk q811 (by decide)) w805 (mm_wk rv813 (by decide)) rw13_3_24_667 rw13_3_25_668 w761 w762 w763 w764 w765 w766 w767 w768 w806 w807 w808 (mm_lp_s w810 (by have := w704; have := w780; omega) tv813) (mm_fr_t w681 w783) (mm_fr_t w682 w784) (mm_fr_t w683 w785) (mm_fr_t w684 w786) w781 w782 (mm_acs_z mm_k0 (by decide)) (mm_tl_1 rv813 (by decide)) (mm_bm hm13 w692 (mm_go_t w810 w780) q811) H locs hP hD hS ls (lv_sub hl [0] rfl)
            · have q814 := mm_eqI (lo := 0) (hi := 0) c737 q705 mm_k0 (by decide)
              refine lv_aload_n hx hb dX12_book_36 rfl (lv_at hl 0 rfl) ?_
              refine lv_ldc2 (v := 50717) hx hb hown (mm_h hts mm_w433) dX12_book_37 ?_
              refine mm_finv (va_runV (As := [.long 50717]) (rest := []) ⟨hx, hb, hml, hown, hts⟩ (M28_X12_asks l G cy H.size a_0 50717 0 a_1 a_2 a_3 a_4 a_5 i_1 y13_0_7_659 y13_0_8_660 y13_0_9_661 y13_0_10_662 y13_0_11_663 y13_0_12_664 y13_0_13_665 i_8 i_9 a_6 a_7 a_8 a_9 a_10 a_11 a_12 a_13 a_14 a_15 a_16 a_17 a_18 i_10 i_11 i_12 i_13 i_14 i_15 a_19 i_16 a_20 f_0 h0 ry13_0_7_659 (mm_wk q736 (by decide)) ry13_0_9_661 (mm_wk w692 (by decide)) h5 w677 w678 w679) (cwV 1 hts (mm_gV mm_w471 mm_w472 mm_w473 mm_w5 mm_w474) rfl rfl rfl hd_X12_asks ⟨by rw [hRf]; exact Nat.le_of_ble_eq_true rfl, by rw [hRl]; exact Nat.le_of_ble_eq_true rfl⟩) (mm_preV hK hZ hS hA hP hD [0, 1] rfl rfl 0 rfl rfl rfl) rfl rfl hl.1 rfl (lv_room (Nat.le_of_ble_eq_true rfl)) dX12_book_40 ⟨by rw [hRc]; exact Nat.le_of_ble_eq_true rfl, by rw [hRs]; exact Nat.le_of_ble_eq_true rfl⟩) hP hD hS hA (fun u : Int32 × Int32 × Int32 × Int32 × Int64 × Int32 × Int32 => [(a_0, .inr (12, [.int 0, .ref a_1, .ref a_2, .ref a_3, .ref a_4, .ref a_5, .int i_1, .int u.1, .int u.2.1, .int u.2.2.1, .int u.2.2.2.1, .long u.2.2.2.2.1, .int u.2.2.2.2.2.1, .int u.2.2.2.2.2.2, .int i_8, .int i_9, .ref a_6, .ref a_7, .ref a_8, .ref a_9, .ref a_10, .ref a_11, .ref a_12, .ref a_13, .ref a_14, .ref a_15, .ref a_16, .ref a_17, .ref a_18, .int i_10, .int i_11, .int i_12, .int i_13, .int i_14, .int i_15, .ref a_19, .int i_16, .ref a_20])), (a_5, .inl (cy 0, 600, .inl f_0)), (a_6, .inl (cy 1, 5, .inl (mm_g [i_17, i_18, i_19, i_20, w13_2_4_666]))), (a_7, .inl (cy 1, 30, .inl (mm_g [i_22, i_23, i_24, i_25, i_26, i_27, i_28, i_29, i_30, i_31, i_32, i_33, i_34, i_35, i_36, i_37, i_38, i_39, i_40, i_41, i_42, i_43, i_44, i_45, w13_3_24_667, w13_3_25_668, w13_3_26_669, w13_3_27_670, w13_3_28_671, 0]))), (a_8, .inl (cy 1, 90, .inl z13_4_672)), (a_9, .inl (cy 1, 15, .inl z13_5_673)), (a_10, .inl (cy 1, 1050, .inl z13_6_674)), (a_11, .inl (cy 1, 30, .inl z13_7_675)), (a_12, .inl (cy 1, 240, .inl z13_8_676)), (a_13, .inl (cy 1, 450, .inl f_6))]) [0, 1] [2, 3, 4, 5, 6, 7, 8, 9] (n := 10) (fun _ => rfl) (by decide +kernel) (by decide +kernel) rfl (fun _ => rfl) (wr := [(a_6, .inl (cy 1, 5, .inl (mm_g [i_17, i_18, i_19, i_20, w13_2_4_666]))), (a_7, .inl (cy 1, 30, .inl (mm_g [i_22, i_23, i_24, i_25, i_26, i_27, i_28, i_29, i_30, i_31, i_32, i_33, i_34, i_35, i_36, i_37, i_38, i_39, i_40, i_41, i_42, i_43, i_44, i_45, w13_3_24_667, w13_3_25_668, w13_3_26_669, w13_3_27_670, w13_3_28_671, 0]))), (a_8, .inl (cy 1, 90, .inl z13_4_672)), (a_9, .inl (cy 1, 15, .inl z13_5_673)), (a_10, .inl (cy 1, 1050, .inl z13_6_674)), (a_11, .inl (cy 1, 30, .inl z13_7_675)), (a_12, .inl (cy 1, 240, .inl z13_8_676)), (a_13, .inl (cy 1, 450, .inl f_6))]) rfl (fun _ => rfl) (fun _ => rfl) ?_
              clear hP hD hS
              clear H locs
              intro u
              obtain ⟨n815, n816, n817, n818, n819, n820, n821⟩ := u
              intro H locs hw (hP : va_P G vwCl [(a_0, .inr (12, [.int 0, .ref a_1, .ref a_2, .ref a_3, .ref a_4, .ref a_5, .int i_1, .int n815, .int n816, .int n817, .int n818, .long n819, .int n820, .int n821, .int i_8, .int i_9, .ref a_6, .ref a_7, .ref a_8, .ref a_9, .ref a_10, .ref a_11, .ref a_12, .ref a_13, .ref a_14, .ref a_15, .ref a_16, .ref a_17, .ref a_18, .int i_10, .int i_11, .int i_12, .int i_13, .int i_14, .int i_15, .ref a_19, .int i_16, .ref a_20])), (a_5, .inl (cy 0, 600, .inl f_0)), (a_6, .inl (cy 1, 5, .inl (mm_g [i_17, i_18, i_19, i_20, w13_2_4_666]))), (a_7, .inl (cy 1, 30, .inl (mm_g [i_22, i_23, i_24, i_25, i_26, i_27, i_28, i_29, i_30, i_31, i_32, i_33, i_34, i_35, i_36, i_37, i_38, i_39, i_40, i_41, i_42, i_43, i_44, i_45, w13_3_24_667, w13_3_25_668, w13_3_26_669, w13_3_27_670, w13_3_28_671, 0]))), (a_8, .inl (cy 1, 90, .inl z13_4_672)), (a_9, .inl (cy 1, 15, .inl z13_5_673)), (a_10, .inl (cy 1, 1050, .inl z13_6_674)), (a_11, .inl (cy 1, 30, .inl z13_7_675)), (a_12, .inl (cy 1, 240, .inl z13_8_676)), (a_13, .inl (cy 1, 450, .inl f_6))] H) (hD : va_D A [(a_0, .inr (12, [.int 0, .ref a_1, .ref a_2, .ref a_3, .ref a_4, .ref a_5, .int i_1, .int n815, .int n816, .int n817, .int n818, .long n819, .int n820, .int n821, .int i_8, .int i_9, .ref a_6, .ref a_7, .ref a_8, .ref a_9, .ref a_10, .ref a_11, .ref a_12, .ref a_13, .ref a_14, .ref a_15, .ref a_16, .ref a_17, .ref a_18, .int i_10, .int i_11, .int i_12, .int i_13, .int i_14, .int i_15, .ref a_19, .int i_16, .ref a_20])), (a_5, .inl (cy 0, 600, .inl f_0)), (a_6, .inl (cy 1, 5, .inl (mm_g [i_17, i_18, i_19, i_20, w13_2_4_666]))), (a_7, .inl (cy 1, 30, .inl (mm_g [i_22, i_23, i_24, i_25, i_26, i_27, i_28, i_29, i_30, i_31, i_32, i_33, i_34, i_35, i_36, i_37, i_38, i_39, i_40, i_41, i_42, i_43, i_44, i_45, w13_3_24_667, w13_3_25_668, w13_3_26_669, w13_3_27_670, w13_3_28_671, 0]))), (a_8, .inl (cy 1, 90, .inl z13_4_672)), (a_9, .inl (cy 1, 15, .inl z13_5_673)), (a_10, .inl (cy 1, 1050, .inl z13_6_674)), (a_11, .inl (cy 1, 30, .inl z13_7_675)), (a_12, .inl (cy 1, 240, .inl z13_8_676)), (a_13, .inl (cy 1, 450, .inl f_6))]) hS
              obtain ⟨w822, w823, w824, w825, w826, w827, w828, w829⟩ := hw
              replace w826 : (n817 : Int32).toInt ≤ (n815 : Int32).toInt := w826
              replace w827 : (n815 : Int32).toInt ≤ (i_1 : Int32).toInt := w827
              replace w828 : mm_tk n816 n817 n815 := w828
              replace w829 : (y13_0_9_661 : Int32).toInt ≤ (n817 : Int32).toInt := w829
              refine lv_aload_n hx hb dX12_book_43 rfl (lv_at hl 0 rfl) ?_
              refine lv_iconst (v := 0) hx hb dX12_book_44 (by decide) ?_
              refine lv_aload_n hx hb dX12_book_45 rfl (lv_at hl 0 rfl) ?_
              refine lv_ldc2 (v := 298288) hx hb hown (mm_h hts mm_w434) dX12_book_46 ?_
              refine lv_iconst (v := 0) hx hb dX12_book_49 (by decide) ?_
              refine lv_bipush (v := 10) hx hb dX12_book_50 (by decide) ?_
              refine mm_fini (va_runV (As := [.long 298288, .int 0, .int 10]) (rest := [.int 0, .ref a_0]) ⟨hx, hb, hml, hown, hts⟩ (M31_X12_number_ l G cy H.size a_0 298288 0 a_1 a_2 a_3 a_4 a_5 i_1 n815 n816 n817 n818 n819 n820 n821 i_8 i_9 a_6 a_7 a_8 a_9 a_10 a_11 a_12 a_13 a_14 a_15 a_16 a_17 a_18 i_10 i_11 i_12 i_13 i_14 i_15 a_19 i_16 a_20 f_0 h0 w822 w823 w824 w825 h5 w826 w827 w828) (cwV 3 hts (mm_gV mm_w487 mm_w488 mm_w489 mm_w5 mm_w490) rfl rfl rfl hd_X12_number_ ⟨by rw [hRf]; exact Nat.le_of_ble_eq_true rfl, by rw [hRl]; exact Nat.le_of_ble_eq_true rfl⟩) (mm_preV hK hZ hS hA hP hD [0, 1] rfl rfl 0 rfl rfl rfl) rfl rfl hl.1 rfl (lv_room (Nat.le_of_ble_eq_true rfl)) dX12_book_52 ⟨by rw [hRc]; exact Nat.le_of_ble_eq_true rfl, by rw [hRs]; exact Nat.le_of_ble_eq_true rfl⟩) hP hD hS hA (fun u : Int32 × Int32 × Int32 × Int32 × Int64 × Int32 × Int32 => [(a_0, .inr (12, [.int 0, .ref a_1, .ref a_2, .ref a_3, .ref a_4, .ref a_5, .int i_1, .int u.1, .int u.2.1, .int u.2.2.1, .int u.2.2.2.1, .long u.2.2.2.2.1, .int u.2.2.2.2.2.1, .int u.2.2.2.2.2.2, .int i_8, .int i_9, .ref a_6, .ref a_7, .ref a_8, .ref a_9, .ref a_10, .ref a_11, .ref a_12, .ref a_13, .ref a_14, .ref a_15, .ref a_16, .ref a_17, .ref a_18, .int i_10, .int i_11, .int i_12, .int i_13, .int i_14, .int i_15, .ref a_19, .int i_16, .ref a_20])), (a_5, .inl (cy 0, 600, .inl f_0)), (a_6, .inl (cy 1, 5, .inl (mm_g [i_17, i_18, i_19, i_20, w13_2_4_666]))), (a_7, .inl (cy 1, 30, .inl (mm_g [i_22, i_23, i_24, i_25, i_26, i_27, i_28, i_29, i_30, i_31, i_32, i_33, i_34, i_35, i_36, i_37, i_38, i_39, i_40, i_41, i_42, i_43, i_44, i_45, w13_3_24_667, w13_3_25_668, w13_3_26_669, w13_3_27_670, w13_3_28_671, 0]))), (a_8, .inl (cy 1, 90, .inl z13_4_672)), (a_9, .inl (cy 1, 15, .inl z13_5_673)), (a_10, .inl (cy 1, 1050, .inl z13_6_674)), (a_11, .inl (cy 1, 30, .inl z13_7_675)), (a_12, .inl (cy 1, 240, .inl z13_8_676)), (a_13, .inl (cy 1, 450, .inl f_6))]) [0, 1] [2, 3, 4, 5, 6, 7, 8, 9] (n := 10) (fun _ => rfl) (by decide +kernel) (by decide +kernel) rfl (fun _ => rfl) (wr := [(a_6, .inl (cy 1, 5, .inl (mm_g [i_17, i_18, i_19, i_20, w13_2_4_666]))), (a_7, .inl (cy 1, 30, .inl (mm_g [i_22, i_23, i_24, i_25, i_26, i_27, i_28, i_29, i_30, i_31, i_32, i_33, i_34, i_35, i_36, i_37, i_38, i_39, i_40, i_41, i_42, i_43, i_44, i_45, w13_3_24_667, w13_3_25_668, w13_3_26_669, w13_3_27_670, w13_3_28_671, 0]))), (a_8, .inl (cy 1, 90, .inl z13_4_672)), (a_9, .inl (cy 1, 15, .inl z13_5_673)), (a_10, .inl (cy 1, 1050, .inl z13_6_674)), (a_11, .inl (cy 1, 30, .inl z13_7_675)), (a_12, .inl (cy 1, 240, .inl z13_8_676)), (a_13, .inl (cy 1, 450, .inl f_6))]) rfl (fun _ => rfl) (fun _ => rfl) ?_
              clear hP hD hS
              clear H locs
              intro v837 u
              obtain ⟨n830, n831, n832, n833, n834, n835, n836⟩ := u
              intro H locs hw (hP : va_P G vwCl [(a_0, .inr (12, [.int 0, .ref a_1, .ref a_2, .ref a_3, .ref a_4, .ref a_5, .int i_1, .int n830, .int n831, .int n832, .int n833, .long n834, .int n835, .int n836, .int i_8, .int i_9, .ref a_6, .ref a_7, .ref a_8, .ref a_9, .ref a_10, .ref a_11, .ref a_12, .ref a_13, .ref a_14, .ref a_15, .ref a_16, .ref a_17, .ref a_18, .int i_10, .int i_11, .int i_12, .int i_13, .int i_14, .int i_15, .ref a_19, .int i_16, .ref a_20])), (a_5, .inl (cy 0, 600, .inl f_0)), (a_6, .inl (cy 1, 5, .inl (mm_g [i_17, i_18, i_19, i_20, w13_2_4_666]))), (a_7, .inl (cy 1, 30, .inl (mm_g [i_22, i_23, i_24, i_25, i_26, i_27, i_28, i_29, i_30, i_31, i_32, i_33, i_34, i_35, i_36, i_37, i_38, i_39, i_40, i_41, i_42, i_43, i_44, i_45, w13_3_24_667, w13_3_25_668, w13_3_26_669, w13_3_27_670, w13_3_28_671, 0]))), (a_8, .inl (cy 1, 90, .inl z13_4_672)), (a_9, .inl (cy 1, 15, .inl z13_5_673)), (a_10, .inl (cy 1, 1050, .inl z13_6_674)), (a_11, .inl (cy 1, 30, .inl z13_7_675)), (a_12, .inl (cy 1, 240, .inl z13_8_676)), (a_13, .inl (cy 1, 450, .inl f_6))] H) (hD : va_D A [(a_0, .inr (12, [.int 0, .ref a_1, .ref a_2, .ref a_3, .ref a_4, .ref a_5, .int i_1, .int n830, .int n831, .int n832, .int n833, .long n834, .int n835, .int n836, .int i_8, .int i_9, .ref a_6, .ref a_7, .ref a_8, .ref a_9, .ref a_10, .ref a_11, .ref a_12, .ref a_13, .ref a_14, .ref a_15, .ref a_16, .ref a_17, .ref a_18, .int i_10, .int i_11, .int i_12, .int i_13, .int i_14, .int i_15, .ref a_19, .int i_16, .ref a_20])), (a_5, .inl (cy 0, 600, .inl f_0)), (a_6, .inl (cy 1, 5, .inl (mm_g [i_17, i_18, i_19, i_20, w13_2_4_666]))), (a_7, .inl (cy 1, 30, .inl (mm_g [i_22, i_23, i_24, i_25, i_26, i_27, i_28, i_29, i_30, i_31, i_32, i_33, i_34, i_35, i_36, i_37, i_38, i_39, i_40, i_41, i_42, i_43, i_44, i_45, w13_3_24_667, w13_3_25_668, w13_3_26_669, w13_3_27_670, w13_3_28_671, 0]))), (a_8, .inl (cy 1, 90, .inl z13_4_672)), (a_9, .inl (cy 1, 15, .inl z13_5_673)), (a_10, .inl (cy 1, 1050, .inl z13_6_674)), (a_11, .inl (cy 1, 30, .inl z13_7_675)), (a_12, .inl (cy 1, 240, .inl z13_8_676)), (a_13, .inl (cy 1, 450, .inl f_6))]) hS
              obtain ⟨w838, w839, w840, w841, w842, w843, w844, w845, hw⟩ := hw
              replace w842 : (n832 : Int32).toInt ≤ (n830 : Int32).toInt := w842
              replace w843 : (n830 : Int32).toInt ≤ (i_1 : Int32).toInt := w843
              replace w844 : mm_tk n831 n832 n830 := w844
              replace w845 : (n817 : Int32).toInt ≤ (n832 : Int32).toInt := w845
              have w846 := hw
              refine mm_finv (va_runV (As := [.int 0, .int v837]) (rest := []) ⟨hx, hb, hml, hown, hts⟩ (M32_X12_tells l G cy H.size a_0 v837 0 a_1 a_2 a_3 a_4 a_5 i_1 n830 n831 n832 n833 n834 n835 n836 i_8 i_9 a_6 a_7 a_8 a_9 a_10 a_11 a_12 a_13 a_14 a_15 a_16 a_17 a_18 i_10 i_11 i_12 i_13 i_14 i_15 a_19 i_16 a_20 i_22 i_23 i_24 i_25 i_26 i_27 i_28 i_29 i_30 i_31 i_32 i_33 i_34 i_35 i_36 i_37 i_38 i_39 i_40 i_41 i_42 i_43 i_44 i_45 w13_3_24_667 w13_3_25_668 w13_3_26_669 w13_3_27_670 w13_3_28_671 0 w846 h11 h12 h13 h14 h15 h16 h17 h18 h19 h20 h21 h22 h23 h24 h25 h26 h27 h28 h29 h30 h31 h32 h33 h34 rw13_3_24_667 rw13_3_25_668 rw13_3_26_669 rw13_3_27_670 rw13_3_28_671 (mm_wk mm_k0 (by decide))) (cwV 2 hts (mm_gV mm_w441 mm_w442 mm_w443 mm_w5 mm_w444) rfl rfl rfl hd_X12_tells ⟨by rw [hRf]; exact Nat.le_of_ble_eq_true rfl, by rw [hRl]; exact Nat.le_of_ble_eq_true rfl⟩) (mm_preV hK hZ hS hA hP hD [0, 3] rfl rfl 0 rfl rfl rfl) rfl rfl hl.1 rfl (lv_room (Nat.le_of_ble_eq_true rfl)) dX12_book_55 ⟨by rw [hRc]; exact Nat.le_of_ble_eq_true rfl, by rw [hRs]; exact Nat.le_of_ble_eq_true rfl⟩) hP hD hS hA (fun u : Unit => [(a_0, .inr (12, [.int 0, .ref a_1, .ref a_2, .ref a_3, .ref a_4, .ref a_5, .int i_1, .int n830, .int n831, .int n832, .int n833, .long n834, .int n835, .int n836, .int i_8, .int i_9, .ref a_6, .ref a_7, .ref a_8, .ref a_9, .ref a_10, .ref a_11, .ref a_12, .ref a_13, .ref a_14, .ref a_15, .ref a_16, .ref a_17, .ref a_18, .int i_10, .int i_11, .int i_12, .int i_13, .int i_14, .int i_15, .ref a_19, .int i_16, .ref a_20])), (a_5, .inl (cy 0, 600, .inl f_0)), (a_6, .inl (cy 1, 5, .inl (mm_g [i_17, i_18, i_19, i_20, w13_2_4_666]))), (a_7, .inl (cy 1, 30, .inl (mm_g [i_22, i_23, i_24, i_25, i_26, i_27, i_28, i_29, i_30, i_31, i_32, i_33, i_34, i_35, i_36, i_37, i_38, i_39, i_40, i_41, i_42, i_43, i_44, i_45, v837, w13_3_25_668, w13_3_26_669, w13_3_27_670, w13_3_28_671, 0]))), (a_8, .inl (cy 1, 90, .inl z13_4_672)), (a_9, .inl (cy 1, 15, .inl z13_5_673)), (a_10, .inl (cy 1, 1050, .inl z13_6_674)), (a_11, .inl (cy 1, 30, .inl z13_7_675)), (a_12, .inl (cy 1, 240, .inl z13_8_676)), (a_13, .inl (cy 1, 450, .inl f_6))]) [0, 3] [1, 2, 4, 5, 6, 7, 8, 9] (n := 10) (fun _ => rfl) (by decide +kernel) (by decide +kernel) rfl (fun _ => rfl) (wr := [(a_5, .inl (cy 0, 600, .inl f_0)), (a_6, .inl (cy 1, 5, .inl (mm_g [i_17, i_18, i_19, i_20, w13_2_4_666]))), (a_8, .inl (cy 1, 90, .inl z13_4_672)), (a_9, .inl (cy 1, 15, .inl z13_5_673)), (a_10, .inl (cy 1, 1050, .inl z13_6_674)), (a_11, .inl (cy 1, 30, .inl z13_7_675)), (a_12, .inl (cy 1, 240, .inl z13_8_676)), (a_13, .inl (cy 1, 450, .inl f_6))]) rfl (fun _ => rfl) (fun _ => @rfl _ ([a_0, a_7] : List Nat)) ?_
              clear hP hD hS
              clear H locs
              intro _u H locs hw (hP : va_P G vwCl [(a_0, .inr (12, [.int 0, .ref a_1, .ref a_2, .ref a_3, .ref a_4, .ref a_5, .int i_1, .int n830, .int n831, .int n832, .int n833, .long n834, .int n835, .int n836, .int i_8, .int i_9, .ref a_6, .ref a_7, .ref a_8, .ref a_9, .ref a_10, .ref a_11, .ref a_12, .ref a_13, .ref a_14, .ref a_15, .ref a_16, .ref a_17, .ref a_18, .int i_10, .int i_11, .int i_12, .int i_13, .int i_14, .int i_15, .ref a_19, .int i_16, .ref a_20])), (a_5, .inl (cy 0, 600, .inl f_0)), (a_6, .inl (cy 1, 5, .inl (mm_g [i_17, i_18, i_19, i_20, w13_2_4_666]))), (a_7, .inl (cy 1, 30, .inl (mm_g [i_22, i_23, i_24, i_25, i_26, i_27, i_28, i_29, i_30, i_31, i_32, i_33, i_34, i_35, i_36, i_37, i_38, i_39, i_40, i_41, i_42, i_43, i_44, i_45, v837, w13_3_25_668, w13_3_26_669, w13_3_27_670, w13_3_28_671, 0]))), (a_8, .inl (cy 1, 90, .inl z13_4_672)), (a_9, .inl (cy 1, 15, .inl z13_5_673)), (a_10, .inl (cy 1, 1050, .inl z13_6_674)), (a_11, .inl (cy 1, 30, .inl z13_7_675)), (a_12, .inl (cy 1, 240, .inl z13_8_676)), (a_13, .inl (cy 1, 450, .inl f_6))] H) (hD : va_D A [(a_0, .inr (12, [.int 0, .ref a_1, .ref a_2, .ref a_3, .ref a_4, .ref a_5, .int i_1, .int n830, .int n831, .int n832, .int n833, .long n834, .int n835, .int n836, .int i_8, .int i_9, .ref a_6, .ref a_7, .ref a_8, .ref a_9, .ref a_10, .ref a_11, .ref a_12, .ref a_13, .ref a_14, .ref a_15, .ref a_16, .ref a_17, .ref a_18, .int i_10, .int i_11, .int i_12, .int i_13, .int i_14, .int i_15, .ref a_19, .int i_16, .ref a_20])), (a_5, .inl (cy 0, 600, .inl f_0)), (a_6, .inl (cy 1, 5, .inl (mm_g [i_17, i_18, i_19, i_20, w13_2_4_666]))), (a_7, .inl (cy 1, 30, .inl (mm_g [i_22, i_23, i_24, i_25, i_26, i_27, i_28, i_29, i_30, i_31, i_32, i_33, i_34, i_35, i_36, i_37, i_38, i_39, i_40, i_41, i_42, i_43, i_44, i_45, v837, w13_3_25_668, w13_3_26_669, w13_3_27_670, w13_3_28_671, 0]))), (a_8, .inl (cy 1, 90, .inl z13_4_672)), (a_9, .inl (cy 1, 15, .inl z13_5_673)), (a_10, .inl (cy 1, 1050, .inl z13_6_674)), (a_11, .inl (cy 1, 30, .inl z13_7_675)), (a_12, .inl (cy 1, 240, .inl z13_8_676)), (a_13, .inl (cy 1, 450, .inl f_6))]) hS
              refine lv_aload_n hx hb dX12_book_58 rfl (lv_at hl 0 rfl) ?_
              refine lv_iconst (v := 1) hx hb dX12_book_59 (by decide) ?_
              refine lv_aload_n hx hb dX12_book_60 rfl (lv_at hl 0 rfl) ?_
              refine lv_ldc2 (v := 10502066) hx hb hown (mm_h hts mm_w435) dX12_book_61 ?_
              refine lv_iconst (v := 0) hx hb dX12_book_64 (by decide) ?_
              refine lv_bipush (v := 99) hx hb dX12_book_65 (by decide) ?_
              refine mm_fini (va_runV (As := [.long 10502066, .int 0, .int 99]) (rest := [.int 1, .ref a_0]) ⟨hx, hb, hml, hown, hts⟩ (M34_X12_number_ l G cy H.size a_0 10502066 0 a_1 a_2 a_3 a_4 a_5 i_1 n830 n831 n832 n833 n834 n835 n836 i_8 i_9 a_6 a_7 a_8 a_9 a_10 a_11 a_12 a_13 a_14 a_15 a_16 a_17 a_18 i_10 i_11 i_12 i_13 i_14 i_15 a_19 i_16 a_20 f_0 h0 w838 w839 w840 w841 h5 w842 w843 w844) (cwV 3 hts (mm_gV mm_w487 mm_w488 mm_w489 mm_w5 mm_w490) rfl rfl rfl hd_X12_number_ ⟨by rw [hRf]; exact Nat.le_of_ble_eq_true rfl, by rw [hRl]; exact Nat.le_of_ble_eq_true rfl⟩) (mm_preV hK hZ hS hA hP hD [0, 1] rfl rfl 0 rfl rfl rfl) rfl rfl hl.1 rfl (lv_room (Nat.le_of_ble_eq_true rfl)) dX12_book_67 ⟨by rw [hRc]; exact Nat.le_of_ble_eq_true rfl, by rw [hRs]; exact Nat.le_of_ble_eq_true rfl⟩) hP hD hS hA (fun u : Int32 × Int32 × Int32 × Int32 × Int64 × Int32 × Int32 => [(a_0, .inr (12, [.int 0, .ref a_1, .ref a_2, .ref a_3, .ref a_4, .ref a_5, .int i_1, .int u.1, .int u.2.1, .int u.2.2.1, .int u.2.2.2.1, .long u.2.2.2.2.1, .int u.2.2.2.2.2.1, .int u.2.2.2.2.2.2, .int i_8, .int i_9, .ref a_6, .ref a_7, .ref a_8, .ref a_9, .ref a_10, .ref a_11, .ref a_12, .ref a_13, .ref a_14, .ref a_15, .ref a_16, .ref a_17, .ref a_18, .int i_10, .int i_11, .int i_12, .int i_13, .int i_14, .int i_15, .ref a_19, .int i_16, .ref a_20])), (a_5, .inl (cy 0, 600, .inl f_0)), (a_6, .inl (cy 1, 5, .inl (mm_g [i_17, i_18, i_19, i_20, w13_2_4_666]))), (a_7, .inl (cy 1, 30, .inl (mm_g [i_22, i_23, i_24, i_25, i_26, i_27, i_28, i_29, i_30, i_31, i_32, i_33, i_34, i_35, i_36, i_37, i_38, i_39, i_40, i_41, i_42, i_43, i_44, i_45, v837, w13_3_25_668, w13_3_26_669, w13_3_27_670, w13_3_28_671, 0]))), (a_8, .inl (cy 1, 90, .inl z13_4_672)), (a_9, .inl (cy 1, 15, .inl z13_5_673)), (a_10, .inl (cy 1, 1050, .inl z13_6_674)), (a_11, .inl (cy 1, 30, .inl z13_7_675)), (a_12, .inl (cy 1, 240, .inl z13_8_676)), (a_13, .inl (cy 1, 450, .inl f_6))]) [0, 1] [2, 3, 4, 5, 6, 7, 8, 9] (n := 10) (fun _ => rfl) (by decide +kernel) (by decide +kernel) rfl (fun _ => rfl) (wr := [(a_6, .inl (cy 1, 5, .inl (mm_g [i_17, i_18, i_19, i_20, w13_2_4_666]))), (a_7, .inl (cy 1, 30, .inl (mm_g [i_22, i_23, i_24, i_25, i_26, i_27, i_28, i_29, i_30, i_31, i_32, i_33, i_34, i_35, i_36, i_37, i_38, i_39, i_40, i_41, i_42, i_43, i_44, i_45, v837, w13_3_25_668, w13_3_26_669, w13_3_27_670, w13_3_28_671, 0]))), (a_8, .inl (cy 1, 90, .inl z13_4_672)), (a_9, .inl (cy 1, 15, .inl z13_5_673)), (a_10, .inl (cy 1, 1050, .inl z13_6_674)), (a_11, .inl (cy 1, 30, .inl z13_7_675)), (a_12, .inl (cy 1, 240, .inl z13_8_676)), (a_13, .inl (cy 1, 450, .inl f_6))]) rfl (fun _ => rfl) (fun _ => rfl) ?_
              clear hP hD hS
              clear H locs
              intro v854 u
              obtain ⟨n847, n848, n849, n850, n851, n852, n853⟩ := u
              intro H locs hw (hP : va_P G vwCl [(a_0, .inr (12, [.int 0, .ref a_1, .ref a_2, .ref a_3, .ref a_4, .ref a_5, .int i_1, .int n847, .int n848, .int n849, .int n850, .long n851, .int n852, .int n853, .int i_8, .int i_9, .ref a_6, .ref a_7, .ref a_8, .ref a_9, .ref a_10, .ref a_11, .ref a_12, .ref a_13, .ref a_14, .ref a_15, .ref a_16, .ref a_17, .ref a_18, .int i_10, .int i_11, .int i_12, .int i_13, .int i_14, .int i_15, .ref a_19, .int i_16, .ref a_20])), (a_5, .inl (cy 0, 600, .inl f_0)), (a_6, .inl (cy 1, 5, .inl (mm_g [i_17, i_18, i_19, i_20, w13_2_4_666]))), (a_7, .inl (cy 1, 30, .inl (mm_g [i_22, i_23, i_24, i_25, i_26, i_27, i_28, i_29, i_30, i_31, i_32, i_33, i_34, i_35, i_36, i_37, i_38, i_39, i_40, i_41, i_42, i_43, i_44, i_45, v837, w13_3_25_668, w13_3_26_669, w13_3_27_670, w13_3_28_671, 0]))), (a_8, .inl (cy 1, 90, .inl z13_4_672)), (a_9, .inl (cy 1, 15, .inl z13_5_673)), (a_10, .inl (cy 1, 1050, .inl z13_6_674)), (a_11, .inl (cy 1, 30, .inl z13_7_675)), (a_12, .inl (cy 1, 240, .inl z13_8_676)), (a_13, .inl (cy 1, 450, .inl f_6))] H) (hD : va_D A [(a_0, .inr (12, [.int 0, .ref a_1, .ref a_2, .ref a_3, .ref a_4, .ref a_5, .int i_1, .int n847, .int n848, .int n849, .int n850, .long n851, .int n852, .int n853, .int i_8, .int i_9, .ref a_6, .ref a_7, .ref a_8, .ref a_9, .ref a_10, .ref a_11, .ref a_12, .ref a_13, .ref a_14, .ref a_15, .ref a_16, .ref a_17, .ref a_18, .int i_10, .int i_11, .int i_12, .int i_13, .int i_14, .int i_15, .ref a_19, .int i_16, .ref a_20])), (a_5, .inl (cy 0, 600, .inl f_0)), (a_6, .inl (cy 1, 5, .inl (mm_g [i_17, i_18, i_19, i_20, w13_2_4_666]))), (a_7, .inl (cy 1, 30, .inl (mm_g [i_22, i_23, i_24, i_25, i_26, i_27, i_28, i_29, i_30, i_31, i_32, i_33, i_34, i_35, i_36, i_37, i_38, i_39, i_40, i_41, i_42, i_43, i_44, i_45, v837, w13_3_25_668, w13_3_26_669, w13_3_27_670, w13_3_28_671, 0]))), (a_8, .inl (cy 1, 90, .inl z13_4_672)), (a_9, .inl (cy 1, 15, .inl z13_5_673)), (a_10, .inl (cy 1, 1050, .inl z13_6_674)), (a_11, .inl (cy 1, 30, .inl z13_7_675)), (a_12, .inl (cy 1, 240, .inl z13_8_676)), (a_13, .inl (cy 1, 450, .inl f_6))]) hS
              obtain ⟨w855, w856, w857, w858, w859, w860, w861, w862, hw⟩ := hw
              replace w859 : (n849 : Int32).toInt ≤ (n847 : Int32).toInt := w859
              replace w860 : (n847 : Int32).toInt ≤ (i_1 : Int32).toInt := w860
              replace w861 : mm_tk n848 n849 n847 := w861
              replace w862 : (n832 : Int32).toInt ≤ (n849 : Int32).toInt := w862
              have w863 := hw
              refine mm_finv (va_runV (As := [.int 1, .int v854]) (rest := []) ⟨hx, hb, hml, hown, hts⟩ (M35_X12_tells l G cy H.size a_0 v854 0 a_1 a_2 a_3 a_4 a_5 i_1 n847 n848 n849 n850 n851 n852 n853 i_8 i_9 a_6 a_7 a_8 a_9 a_10 a_11 a_12 a_13 a_14 a_15 a_16 a_17 a_18 i_10 i_11 i_12 i_13 i_14 i_15 a_19 i_16 a_20 i_22 i_23 i_24 i_25 i_26 i_27 i_28 i_29 i_30 i_31 i_32 i_33 i_34 i_35 i_36 i_37 i_38 i_39 i_40 i_41 i_42 i_43 i_44 i_45 v837 w13_3_25_668 w13_3_26_669 w13_3_27_670 w13_3_28_671 0 w863 h11 h12 h13 h14 h15 h16 h17 h18 h19 h20 h21 h22 h23 h24 h25 h26 h27 h28 h29 h30 h31 h32 h33 h34 w846 rw13_3_25_668 rw13_3_26_669 rw13_3_27_670 rw13_3_28_671 (mm_wk mm_k0 (by decide))) (cwV 2 hts (mm_gV mm_w441 mm_w442 mm_w443 mm_w5 mm_w444) rfl rfl rfl hd_X12_tells ⟨by rw [hRf]; exact Nat.le_of_ble_eq_true rfl, by rw [hRl]; exact Nat.le_of_ble_eq_true rfl⟩) (mm_preV hK hZ hS hA hP hD [0, 3] rfl rfl 0 rfl rfl rfl) rfl rfl hl.1 rfl (lv_room (Nat.le_of_ble_eq_true rfl)) dX12_book_70 ⟨by rw [hRc]; exact Nat.le_of_ble_eq_true rfl, by rw [hRs]; exact Nat.le_of_ble_eq_true rfl⟩) hP hD hS hA (fun u : Unit => [(a_0, .inr (12, [.int 0, .ref a_1, .ref a_2, .ref a_3, .ref a_4, .ref a_5, .int i_1, .int n847, .int n848, .int n849, .int n850, .long n851, .int n852, .int n853, .int i_8, .int i_9, .ref a_6, .ref a_7, .ref a_8, .ref a_9, .ref a_10, .ref a_11, .ref a_12, .ref a_13, .ref a_14, .ref a_15, .ref a_16, .ref a_17, .ref a_18, .int i_10, .int i_11, .int i_12, .int i_13, .int i_14, .int i_15, .ref a_19, .int i_16, .ref a_20])), (a_5, .inl (cy 0, 600, .inl f_0)), (a_6, .inl (cy 1, 5, .inl (mm_g [i_17, i_18, i_19, i_20, w13_2_4_666]))), (a_7, .inl (cy 1, 30, .inl (mm_g [i_22, i_23, i_24, i_25, i_26, i_27, i_28, i_29, i_30, i_31, i_32, i_33, i_34, i_35, i_36, i_37, i_38, i_39, i_40, i_41, i_42, i_43, i_44, i_45, v837, v854, w13_3_26_669, w13_3_27_670, w13_3_28_671, 0]))), (a_8, .inl (cy 1, 90, .inl z13_4_672)), (a_9, .inl (cy 1, 15, .inl z13_5_673)), (a_10, .inl (cy 1, 1050, .inl z13_6_674)), (a_11, .inl (cy 1, 30, .inl z13_7_675)), (a_12, .inl (cy 1, 240, .inl z13_8_676)), (a_13, .inl (cy 1, 450, .inl f_6))]) [0, 3] [1, 2, 4, 5, 6, 7, 8, 9] (n := 10) (fun _ => rfl) (by decide +kernel) (by decide +kernel) rfl (fun _ => rfl) (wr := [(a_5, .inl (cy 0, 600, .inl f_0)), (a_6, .inl (cy 1, 5, .inl (mm_g [i_17, i_18, i_19, i_20, w13_2_4_666]))), (a_8, .inl (cy 1, 90, .inl z13_4_672)), (a_9, .inl (cy 1, 15, .inl z13_5_673)), (a_10, .inl (cy 1, 1050, .inl z13_6_674)), (a_11, .inl (cy 1, 30, .inl z13_7_675)), (a_12, .inl (cy 1, 240, .inl z13_8_676)), (a_13, .inl (cy 1, 450, .inl f_6))]) rfl (fun _ => rfl) (fun _ => @rfl _ ([a_0, a_7] : List Nat)) ?_
              clear hP hD hS
              clear H locs
              intro _u H locs hw (hP : va_P G vwCl [(a_0, .inr (12, [.int 0, .ref a_1, .ref a_2, .ref a_3, .ref a_4, .ref a_5, .int i_1, .int n847, .int n848, .int n849, .int n850, .long n851, .int n852, .int n853, .int i_8, .int i_9, .ref a_6, .ref a_7, .ref a_8, .ref a_9, .ref a_10, .ref a_11, .ref a_12, .ref a_13, .ref a_14, .ref a_15, .ref a_16, .ref a_17, .ref a_18, .int i_10, .int i_11, .int i_12, .int i_13, .int i_14, .int i_15, .ref a_19, .int i_16, .ref a_20])), (a_5, .inl (cy 0, 600, .inl f_0)), (a_6, .inl (cy 1, 5, .inl (mm_g [i_17, i_18, i_19, i_20, w13_2_4_666]))), (a_7, .inl (cy 1, 30, .inl (mm_g [i_22, i_23, i_24, i_25, i_26, i_27, i_28, i_29, i_30, i_31, i_32, i_33, i_34, i_35, i_36, i_37, i_38, i_39, i_40, i_41, i_42, i_43, i_44, i_45, v837, v854, w13_3_26_669, w13_3_27_670, w13_3_28_671, 0]))), (a_8, .inl (cy 1, 90, .inl z13_4_672)), (a_9, .inl (cy 1, 15, .inl z13_5_673)), (a_10, .inl (cy 1, 1050, .inl z13_6_674)), (a_11, .inl (cy 1, 30, .inl z13_7_675)), (a_12, .inl (cy 1, 240, .inl z13_8_676)), (a_13, .inl (cy 1, 450, .inl f_6))] H) (hD : va_D A [(a_0, .inr (12, [.int 0, .ref a_1, .ref a_2, .ref a_3, .ref a_4, .ref a_5, .int i_1, .int n847, .int n848, .int n849, .int n850, .long n851, .int n852, .int n853, .int i_8, .int i_9, .ref a_6, .ref a_7, .ref a_8, .ref a_9, .ref a_10, .ref a_11, .ref a_12, .ref a_13, .ref a_14, .ref a_15, .ref a_16, .ref a_17, .ref a_18, .int i_10, .int i_11, .int i_12, .int i_13, .int i_14, .int i_15, .ref a_19, .int i_16, .ref a_20])), (a_5, .inl (cy 0, 600, .inl f_0)), (a_6, .inl (cy 1, 5, .inl (mm_g [i_17, i_18, i_19, i_20, w13_2_4_666]))), (a_7, .inl (cy 1, 30, .inl (mm_g [i_22, i_23, i_24, i_25, i_26, i_27, i_28, i_29, i_30, i_31, i_32, i_33, i_34, i_35, i_36, i_37, i_38, i_39, i_40, i_41, i_42, i_43, i_44, i_45, v837, v854, w13_3_26_669, w13_3_27_670, w13_3_28_671, 0]))), (a_8, .inl (cy 1, 90, .inl z13_4_672)), (a_9, .inl (cy 1, 15, .inl z13_5_673)), (a_10, .inl (cy 1, 1050, .inl z13_6_674)), (a_11, .inl (cy 1, 30, .inl z13_7_675)), (a_12, .inl (cy 1, 240, .inl z13_8_676)), (a_13, .inl (cy 1, 450, .inl f_6))]) hS
              refine lv_goto (tgt := 80) hx hb dX12_book_73 (by decide) ?_
              refine lv_aload_n hx hb dX12_book_80 rfl (lv_at hl 0 rfl) ?_
              refine mm_finir (va_runV (As := []) (rest := []) ⟨hx, hb, hml, hown, hts⟩ (M24_X12_isGood l G cy H.size a_0 0 a_1 a_2 a_3 a_4 a_5 i_1 n847 n848 n849 n850 n851 n852 n853 i_8 i_9 a_6 a_7 a_8 a_9 a_10 a_11 a_12 a_13 a_14 a_15 a_16 a_17 a_18 i_10 i_11 i_12 i_13 i_14 i_15 a_19 i_16 a_20 w858) (cwV 0 hts (mm_gV mm_w467 mm_w468 mm_w469 mm_w5 mm_w470) rfl rfl rfl hd_X12_isGood ⟨by rw [hRf]; exact Nat.le_of_ble_eq_true rfl, by rw [hRl]; exact Nat.le_of_ble_eq_true rfl⟩) (mm_preV hK hZ hS hA hP hD [0] rfl rfl 0 rfl rfl rfl) rfl rfl hl.1 rfl (lv_room (Nat.le_of_ble_eq_true rfl)) dX12_book_81 ⟨by rw [hRc]; exact Nat.le_of_ble_eq_true rfl, by rw [hRs]; exact Nat.le_of_ble_eq_true rfl⟩) hP hD hS hA [0] rfl (fun _ => rfl) ?_
              clear hP hD hS
              clear H locs
              intro v864 _u H locs hw hP hD hS
              rcases hw with ⟨rfl, w865⟩ | ⟨rfl, w866⟩
              · refine lv_if_eq (tgt := 91) hx hb dX12_book_84 (by decide) (fun c867 => ?_) (fun c867 => ?_)
                · refine lv_aload_n hx hb dX12_book_91 rfl (lv_at hl 0 rfl) ?_
                  refine va_get (D := G) (ci := 12) (v := .ref a_6) (C := RX12) (T := TX12) (N := 38) hx hb hts (mm_i inlX12) hown hK.1 hP 0 rfl rfl 16 (by decide) (mm_h hts mm_w148) (fun _ h9 => h9) rfl dX12_book_92 ?_
                  refine lv_iconst (v := 4) hx hb dX12_book_95 (by decide) ?_
                  refine lv_dup2_11 hx hb dX12_book_96 rfl rfl ?_
                  refine va_iald hx hb hK.1 hP 2 1 rfl rfl (mm_in mm_k4 (by decide)) dX12_book_97 ?_
                  rw [show (mm_g [i_17, i_18, i_19, i_20, w13_2_4_666]) (4 : Int32).toNatClampNeg = w13_2_4_666 from mm_ge 4 (by decide) rfl]
                  refine lv_iconst (v := 1) hx hb dX12_book_98 (by decide) ?_
                  refine lv_iadd hx hb dX12_book_99 ?_
                  refine lv_topi (fun v868 ev868 => ?_)
                  have rv868 : mm_rg v868 1 1 := mm_add ev868 q814 mm_k1 (by decide) (by decide)
                  have tv868 := mm_addEc ev868 q814 mm_k1 (by decide) (k := 1) (by decide)
                  refine va_iast hx hb hK.1 hP hD hS 2 1 rfl rfl (mm_in mm_k4 (by decide)) dX12_book_100 ?_
                  clear hP hD hS
                  clear H locs
                  rw [show upd (mm_g [i_17, i_18, i_19, i_20, w13_2_4_666]) (4 : Int32).toNatClampNeg v868 = (mm_g [i_17, i_18, i_19, i_20, v868]) from mm_gs2 4 5 (by decide) rfl rfl rfl]
                  intro H locs (hP : va_P G vwCl [(a_0, .inr (12, [.int 0, .ref a_1, .ref a_2, .ref a_3, .ref a_4, .ref a_5, .int i_1, .int n847, .int n848, .int n849, .int n850, .long n851, .int n852, .int n853, .int i_8, .int i_9, .ref a_6, .ref a_7, .ref a_8, .ref a_9, .ref a_10, .ref a_11, .ref a_12, .ref a_13, .ref a_14, .ref a_15, .ref a_16, .ref a_17, .ref a_18, .int i_10, .int i_11, .int i_12, .int i_13, .int i_14, .int i_15, .ref a_19, .int i_16, .ref a_20])), (a_5, .inl (cy 0, 600, .inl f_0)), (a_6, .inl (cy 1, 5, .inl (mm_g [i_17, i_18, i_19, i_20, v868]))), (a_7, .inl (cy 1, 30, .inl (mm_g [i_22, i_23, i_24, i_25, i_26, i_27, i_28, i_29, i_30, i_31, i_32, i_33, i_34, i_35, i_36, i_37, i_38, i_39, i_40, i_41, i_42, i_43, i_44, i_45, v837, v854, w13_3_26_669, w13_3_27_670, w13_3_28_671, 0]))), (a_8, .inl (cy 1, 90, .inl z13_4_672)), (a_9, .inl (cy 1, 15, .inl z13_5_673)), (a_10, .inl (cy 1, 1050, .inl z13_6_674)), (a_11, .inl (cy 1, 30, .inl z13_7_675)), (a_12, .inl (cy 1, 240, .inl z13_8_676)), (a_13, .inl (cy 1, 450, .inl f_6))] H) (hD : va_D A [(a_0, .inr (12, [.int 0, .ref a_1, .ref a_2, .ref a_3, .ref a_4, .ref a_5, .int i_1, .int n847, .int n848, .int n849, .int n850, .long n851, .int n852, .int n853, .int i_8, .int i_9, .ref a_6, .ref a_7, .ref a_8, .ref a_9, .ref a_10, .ref a_11, .ref a_12, .ref a_13, .ref a_14, .ref a_15, .ref a_16, .ref a_17, .ref a_18, .int i_10, .int i_11, .int i_12, .int i_13, .int i_14, .int i_15, .ref a_19, .int i_16, .ref a_20])), (a_5, .inl (cy 0, 600, .inl f_0)), (a_6, .inl (cy 1, 5, .inl (mm_g [i_17, i_18, i_19, i_20, v868]))), (a_7, .inl (cy 1, 30, .inl (mm_g [i_22, i_23, i_24, i_25, i_26, i_27, i_28, i_29, i_30, i_31, i_32, i_33, i_34, i_35, i_36, i_37, i_38, i_39, i_40, i_41, i_42, i_43, i_44, i_45, v837, v854, w13_3_26_669, w13_3_27_670, w13_3_28_671, 0]))), (a_8, .inl (cy 1, 90, .inl z13_4_672)), (a_9, .inl (cy 1, 15, .inl z13_5_673)), (a_10, .inl (cy 1, 1050, .inl z13_6_674)), (a_11, .inl (cy 1, 30, .inl z13_7_675)), (a_12, .inl (cy 1, 240, .inl z13_8_676)), (a_13, .inl (cy 1, 450, .inl f_6))]) hS
                  refine lv_goto (tgt := 13) hx hb dX12_book_101 (by decide) ?_
                  exact ih13 n847 n848 n849 n850 n851 n852 n853 v868 v837 v854 w13_3_26_669 w13_3_27_670 w13_3_28_671 z13_4_672 z13_5_673 z13_6_674 z13_7_675 z13_8_676 w855 w856 w857 (mm_wk w865 (by decide)) (mm_wk rv868 (by decide)) w846 w863 rw13_3_26_669 rw13_3_27_670 rw13_3_28_671 rz13_4_672 rz13_5_673 rz13_6_674 rz13_7_675 rz13_8_676 w859 w860 w861 (mm_lp_n w865 (by decide)) w681 w682 w683 w684 w685 w686 w687 (mm_tl_1 rv868 (by decide)) (mm_bm hm13 w692 (mm_go_n w865 (by decide)) w857) H locs hP hD hS ls (lv_sub hl [0] rfl)
                · exact absurd rfl (mm_ne c867)
              · refine lv_if_eq (tgt := 91) hx hb dX12_book_84 (by decide) (fun c869 => ?_) (fun c869 => ?_)
                · exact mm_eqN c869.symm mm_k0 mm_k1 (by decide)
                · refine lv_aload_n hx hb dX12_book_87 rfl (lv_at hl 0 rfl) ?_
                  refine mm_finv (va_runV (As := []) (rest := []) ⟨hx, hb, hml, hown, hts⟩ (M36_X12_ends l G cy H.size a_0 0 a_1 a_2 a_3 a_4 a_5 i_1 n847 n848 n849 n850 n851 n852 n853 i_8 i_9 a_6 a_7 a_8 a_9 a_10 a_11 a_12 a_13 a_14 a_15 a_16 a_17 a_18 i_10 i_11 i_12 i_13 i_14 i_15 a_19 i_16 a_20 f_0 h0 w855 w856 w857 (mm_wk w866 (by decide)) h5 w859 w860 w861) (cwV 0 hts (mm_gV mm_w544 mm_w545 mm_w546 mm_w5 mm_w547) rfl rfl rfl hd_X12_ends ⟨by rw [hRf]; exact Nat.le_of_ble_eq_true rfl, by rw [hRl]; exact Nat.le_of_ble_eq_true rfl⟩) (mm_preV hK hZ hS hA hP hD [0, 1] rfl rfl 0 rfl rfl rfl) rfl rfl hl.1 rfl (lv_room (Nat.le_of_ble_eq_true rfl)) dX12_book_88 ⟨by rw [hRc]; exact Nat.le_of_ble_eq_true rfl, by rw [hRs]; exact Nat.le_of_ble_eq_true rfl⟩) hP hD hS hA (fun u : Int32 × Int32 × Int32 × Int32 × Int64 × Int32 × Int32 => [(a_0, .inr (12, [.int 0, .ref a_1, .ref a_2, .ref a_3, .ref a_4, .ref a_5, .int i_1, .int u.1, .int u.2.1, .int u.2.2.1, .int u.2.2.2.1, .long u.2.2.2.2.1, .int u.2.2.2.2.2.1, .int u.2.2.2.2.2.2, .int i_8, .int i_9, .ref a_6, .ref a_7, .ref a_8, .ref a_9, .ref a_10, .ref a_11, .ref a_12, .ref a_13, .ref a_14, .ref a_15, .ref a_16, .ref a_17, .ref a_18, .int i_10, .int i_11, .int i_12, .int i_13, .int i_14, .int i_15, .ref a_19, .int i_16, .ref a_20])), (a_5, .inl (cy 0, 600, .inl f_0)), (a_6, .inl (cy 1, 5, .inl (mm_g [i_17, i_18, i_19, i_20, w13_2_4_666]))), (a_7, .inl (cy 1, 30, .inl (mm_g [i_22, i_23, i_24, i_25, i_26, i_27, i_28, i_29, i_30, i_31, i_32, i_33, i_34, i_35, i_36, i_37, i_38, i_39, i_40, i_41, i_42, i_43, i_44, i_45, v837, v854, w13_3_26_669, w13_3_27_670, w13_3_28_671, 0]))), (a_8, .inl (cy 1, 90, .inl z13_4_672)), (a_9, .inl (cy 1, 15, .inl z13_5_673)), (a_10, .inl (cy 1, 1050, .inl z13_6_674)), (a_11, .inl (cy 1, 30, .inl z13_7_675)), (a_12, .inl (cy 1, 240, .inl z13_8_676)), (a_13, .inl (cy 1, 450, .inl f_6))]) [0, 1] [2, 3, 4, 5, 6, 7, 8, 9] (n := 10) (fun _ => rfl) (by decide +kernel) (by decide +kernel) rfl (fun _ => rfl) (wr := [(a_6, .inl (cy 1, 5, .inl (mm_g [i_17, i_18, i_19, i_20, w13_2_4_666]))), (a_7, .inl (cy 1, 30, .inl (mm_g [i_22, i_23, i_24, i_25, i_26, i_27, i_28, i_29, i_30, i_31, i_32, i_33, i_34, i_35, i_36, i_37, i_38, i_39, i_40, i_41, i_42, i_43, i_44, i_45, v837, v854, w13_3_26_669, w13_3_27_670, w13_3_28_671, 0]))), (a_8, .inl (cy 1, 90, .inl z13_4_672)), (a_9, .inl (cy 1, 15, .inl z13_5_673)), (a_10, .inl (cy 1, 1050, .inl z13_6_674)), (a_11, .inl (cy 1, 30, .inl z13_7_675)), (a_12, .inl (cy 1, 240, .inl z13_8_676)), (a_13, .inl (cy 1, 450, .inl f_6))]) rfl (fun _ => rfl) (fun _ => rfl) ?_
                  clear hP hD hS
                  clear H locs
                  intro u
                  obtain ⟨n870, n871, n872, n873, n874, n875, n876⟩ := u
                  intro H locs hw (hP : va_P G vwCl [(a_0, .inr (12, [.int 0, .ref a_1, .ref a_2, .ref a_3, .ref a_4, .ref a_5, .int i_1, .int n870, .int n871, .int n872, .int n873, .long n874, .int n875, .int n876, .int i_8, .int i_9, .ref a_6, .ref a_7, .ref a_8, .ref a_9, .ref a_10, .ref a_11, .ref a_12, .ref a_13, .ref a_14, .ref a_15, .ref a_16, .ref a_17, .ref a_18, .int i_10, .int i_11, .int i_12, .int i_13, .int i_14, .int i_15, .ref a_19, .int i_16, .ref a_20])), (a_5, .inl (cy 0, 600, .inl f_0)), (a_6, .inl (cy 1, 5, .inl (mm_g [i_17, i_18, i_19, i_20, w13_2_4_666]))), (a_7, .inl (cy 1, 30, .inl (mm_g [i_22, i_23, i_24, i_25, i_26, i_27, i_28, i_29, i_30, i_31, i_32, i_33, i_34, i_35, i_36, i_37, i_38, i_39, i_40, i_41, i_42, i_43, i_44, i_45, v837, v854, w13_3_26_669, w13_3_27_670, w13_3_28_671, 0]))), (a_8, .inl (cy 1, 90, .inl z13_4_672)), (a_9, .inl (cy 1, 15, .inl z13_5_673)), (a_10, .inl (cy 1, 1050, .inl z13_6_674)), (a_11, .inl (cy 1, 30, .inl z13_7_675)), (a_12, .inl (cy 1, 240, .inl z13_8_676)), (a_13, .inl (cy 1, 450, .inl f_6))] H) (hD : va_D A [(a_0, .inr (12, [.int 0, .ref a_1, .ref a_2, .ref a_3, .ref a_4, .ref a_5, .int i_1, .int n870, .int n871, .int n872, .int n873, .long n874, .int n875, .int n876, .int i_8, .int i_9, .ref a_6, .ref a_7, .ref a_8, .ref a_9, .ref a_10, .ref a_11, .ref a_12, .ref a_13, .ref a_14, .ref a_15, .ref a_16, .ref a_17, .ref a_18, .int i_10, .int i_11, .int i_12, .int i_13, .int i_14, .int i_15, .ref a_19, .int i_16, .ref a_20])), (a_5, .inl (cy 0, 600, .inl f_0)), (a_6, .inl (cy 1, 5, .inl (mm_g [i_17, i_18, i_19, i_20, w13_2_4_666]))), (a_7, .inl (cy 1, 30, .inl (mm_g [i_22, i_23, i_24, i_25, i_26, i_27, i_28, i_29, i_30, i_31, i_32, i_33, i_34, i_35, i_36, i_37, i_38, i_39, i_40, i_41, i_42, i_43, i_44, i_45, v837, v854, w13_3_26_669, w13_3_27_670, w13_3_28_671, 0]))), (a_8, .inl (cy 1, 90, .inl z13_4_672)), (a_9, .inl (cy 1, 15, .inl z13_5_673)), (a_10, .inl (cy 1, 1050, .inl z13_6_674)), (a_11, .inl (cy 1, 30, .inl z13_7_675)), (a_12, .inl (cy 1, 240, .inl z13_8_676)), (a_13, .inl (cy 1, 450, .inl f_6))]) hS
                  obtain ⟨w877, w878, w879, w880, w881, w882, w883, w884, w885⟩ := hw
                  replace w881 : (n872 : Int32).toInt ≤ (n870 : Int32).toInt := w881
                  replace w882 : (n870 : Int32).toInt ≤ (i_1 : Int32).toInt := w882
                  replace w883 : mm_tk n871 n872 n870 := w883
                  replace w884 : (n849 : Int32).toInt ≤ (n872 : Int32).toInt := w884
                  replace w885 : mm_go n875 n849 n872 := w885
                  refine lv_aload_n hx hb dX12_book_91 rfl (lv_at hl 0 rfl) ?_
                  refine va_get (D := G) (ci := 12) (v := .ref a_6) (C := RX12) (T := TX12) (N := 38) hx hb hts (mm_i inlX12) hown hK.1 hP 0 rfl rfl 16 (by decide) (mm_h hts mm_w148) (fun _ h9 => h9) rfl dX12_book_92 ?_
                  refine lv_iconst (v := 4) hx hb dX12_book_95 (by decide) ?_
                  refine lv_dup2_11 hx hb dX12_book_96 rfl rfl ?_
                  refine va_iald hx hb hK.1 hP 2 1 rfl rfl (mm_in mm_k4 (by decide)) dX12_book_97 ?_
                  rw [show (mm_g [i_17, i_18, i_19, i_20, w13_2_4_666]) (4 : Int32).toNatClampNeg = w13_2_4_666 from mm_ge 4 (by decide) rfl]
                  refine lv_iconst (v := 1) hx hb dX12_book_98 (by decide) ?_
                  refine lv_iadd hx hb dX12_book_99 ?_
                  refine lv_topi (fun v886 ev886 => ?_)
                  have rv886 : mm_rg v886 1 1 := mm_add ev886 q814 mm_k1 (by decide) (by decide)
                  have tv886 := mm_addEc ev886 q814 mm_k1 (by decide) (k := 1) (by decide)
                  refine va_iast hx hb hK.1 hP hD hS 2 1 rfl rfl (mm_in mm_k4 (by decide)) dX12_book_100 ?_
                  clear hP hD hS
                  clear H locs
                  rw [show upd (mm_g [i_17, i_18, i_19, i_20, w13_2_4_666]) (4 : Int32).toNatClampNeg v886 = (mm_g [i_17, i_18, i_19, i_20, v886]) from mm_gs2 4 5 (by decide) rfl rfl rfl]
                  intro H locs (hP : va_P G vwCl [(a_0, .inr (12, [.int 0, .ref a_1, .ref a_2, .ref a_3, .ref a_4, .ref a_5, .int i_1, .int n870, .int n871, .int n872, .int n873, .long n874, .int n875, .int n876, .int i_8, .int i_9, .ref a_6, .ref a_7, .ref a_8, .ref a_9, .ref a_10, .ref a_11, .ref a_12, .ref a_13, .ref a_14, .ref a_15, .ref a_16, .ref a_17, .ref a_18, .int i_10, .int i_11, .int i_12, .int i_13, .int i_14, .int i_15, .ref a_19, .int i_16, .ref a_20])), (a_5, .inl (cy 0, 600, .inl f_0)), (a_6, .inl (cy 1, 5, .inl (mm_g [i_17, i_18, i_19, i_20, v886]))), (a_7, .inl (cy 1, 30, .inl (mm_g [i_22, i_23, i_24, i_25, i_26, i_27, i_28, i_29, i_30, i_31, i_32, i_33, i_34, i_35, i_36, i_37, i_38, i_39, i_40, i_41, i_42, i_43, i_44, i_45, v837, v854, w13_3_26_669, w13_3_27_670, w13_3_28_671, 0]))), (a_8, .inl (cy 1, 90, .inl z13_4_672)), (a_9, .inl (cy 1, 15, .inl z13_5_673)), (a_10, .inl (cy 1, 1050, .inl z13_6_674)), (a_11, .inl (cy 1, 30, .inl z13_7_675)), (a_12, .inl (cy 1, 240, .inl z13_8_676)), (a_13, .inl (cy 1, 450, .inl f_6))] H) (hD : va_D A [(a_0, .inr (12, [.int 0, .ref a_1, .ref a_2, .ref a_3, .ref a_4, .ref a_5, .int i_1, .int n870, .int n871, .int n872, .int n873, .long n874, .int n875, .int n876, .int i_8, .int i_9, .ref a_6, .ref a_7, .ref a_8, .ref a_9, .ref a_10, .ref a_11, .ref a_12, .ref a_13, .ref a_14, .ref a_15, .ref a_16, .ref a_17, .ref a_18, .int i_10, .int i_11, .int i_12, .int i_13, .int i_14, .int i_15, .ref a_19, .int i_16, .ref a_20])), (a_5, .inl (cy 0, 600, .inl f_0)), (a_6, .inl (cy 1, 5, .inl (mm_g [i_17, i_18, i_19, i_20, v886]))), (a_7, .inl (cy 1, 30, .inl (mm_g [i_22, i_23, i_24, i_25, i_26, i_27, i_28, i_29, i_30, i_31, i_32, i_33, i_34, i_35, i_36, i_37, i_38, i_39, i_40, i_41, i_42, i_43, i_44, i_45, v837, v854, w13_3_26_669, w13_3_27_670, w13_3_28_671, 0]))), (a_8, .inl (cy 1, 90, .inl z13_4_672)), (a_9, .inl (cy 1, 15, .inl z13_5_673)), (a_10, .inl (cy 1, 1050, .inl z13_6_674)), (a_11, .inl (cy 1, 30, .inl z13_7_675)), (a_12, .inl (cy 1, 240, .inl z13_8_676)), (a_13, .inl (cy 1, 450, .inl f_6))]) hS
                  refine lv_goto (tgt := 13) hx hb dX12_book_101 (by decide) ?_
                  exact ih13 n870 n871 n872 n873 n874 n875 n876 v886 v837 v854 w13_3_26_669 w13_3_27_670 w13_3_28_671 z13_4_672 z13_5_673 z13_6_674 z13_7_675 z13_8_676 w877 w878 w879 w880 (mm_wk rv886 (by decide)) w846 w863 rw13_3_26_669 rw13_3_27_670 rw13_3_28_671 rz13_4_672 rz13_5_673 rz13_6_674 rz13_7_675 rz13_8_676 w881 w882 w883 (mm_lp_s w885 (mm_leC q814 w857 (by decide)) tv886) w681 w682 w683 w684 w685 w686 w687 (mm_tl_1 rv886 (by decide)) (mm_bm hm13 w692 (mm_go_t w885 (by have := w829; have := w845; have := w862; omega)) w879) H locs hP hD hS ls (lv_sub hl [0] rfl)
  exact L13_688 _ n5 n6 n7 n8 n9 0 (-1) 0 0 0 0 0 0 f_1 n1 f_3 f_4 f_5 w10 w11 w12 (mm_wk mm_k0 (by decide)) (mm_wk mm_k0 (by decide)) (mm_wk mm_k0 (by decide)) (mm_wk mm_k0 (by decide)) (mm_wk mm_k0 (by decide)) (mm_wk mm_k0 (by decide)) (mm_wk mm_k0 (by decide)) h41 w2 h43 h44 h45 w13 w14 w15 (mm_lp_l (k := 0) w12 (by decide) (by decide)) w4 (mm_fr_r _ _) (mm_fr_r _ _) (mm_fr_r _ _) (mm_rls_z mm_k0 (by decide)) (mm_txs_z mm_k0 (by decide)) (mm_acs_z mm_k0 (by decide)) w3 (Nat.lt_succ_self _) H locs hP hD hS ls (lv_sub hl [0] rfl)

set_option maxHeartbeats 4000000 in
set_option maxRecDepth 100000 in
theorem M91_X12_fault (l : Launch) (G : va_G) (cy : Nat → ClassId) (sz : Nat) (a_0 : Nat) (i_0 : Int32) (i_1 : Int32) (a_1 : Nat) (a_2 : Nat) (a_3 : Nat) (a_4 : Nat) (a_5 : Nat) (i_2 : Int32) (i_3 : Int32) (i_4 : Int32) (i_5 : Int32) (i_6 : Int32) (j_0 : Int64) (i_7 : Int32) (i_8 : Int32) (i_9 : Int32) (i_10 : Int32) (a_6 : Nat) (a_7 : Nat) (a_8 : Nat) (a_9 : Nat) (a_10 : Nat) (a_11 : Nat) (a_12 : Nat) (a_13 : Nat) (a_14 : Nat) (a_15 : Nat) (a_16 : Nat) (a_17 : Nat) (a_18 : Nat) (i_11 : Int32) (i_12 : Int32) (i_13 : Int32) (i_14 : Int32) (i_15 : Int32) (i_16 : Int32) (a_19 : Nat) (i_17 : Int32) (a_20 : Nat)   : mm_CI l yX12_fault (mm_ws yX12_fault cX12_fault 2 (some .int)) ({ frames := 0, cells := 0, slots := 0, locals := 0 } : Room) G cy sz [(a_0, .inr (12, [.int i_1, .ref a_1, .ref a_2, .ref a_3, .ref a_4, .ref a_5, .int i_2, .int i_3, .int i_4, .int i_5, .int i_6, .long j_0, .int i_7, .int i_8, .int i_9, .int i_10, .ref a_6, .ref a_7, .ref a_8, .ref a_9, .ref a_10, .ref a_11, .ref a_12, .ref a_13, .ref a_14, .ref a_15, .ref a_16, .ref a_17, .ref a_18, .int i_11, .int i_12, .int i_13, .int i_14, .int i_15, .int i_16, .ref a_19, .int i_17, .ref a_20]))] [.ref a_0, .int i_0] (fun u : Unit => [(a_0, .inr (12, [.int 0, .ref a_1, .ref a_2, .ref a_3, .ref a_4, .ref a_5, .int i_2, .int i_3, .int i_4, .int i_5, .int i_6, .long j_0, .int i_7, .int i_8, .int i_9, .int i_10, .ref a_6, .ref a_7, .ref a_8, .ref a_9, .ref a_10, .ref a_11, .ref a_12, .ref a_13, .ref a_14, .ref a_15, .ref a_16, .ref a_17, .ref a_18, .int i_11, .int i_12, .int i_13, .int i_14, .int i_15, .int i_16, .ref a_19, .int i_17, .ref a_20]))]) (fun (r : Int32) (u : Unit) => True) 0 0 := by
  refine mm_begin (lv := [(0, .ref a_0), (1, .int i_0)]) (by decide) (Nat.le_of_ble_eq_true rfl) rfl ?_
  intro p e s m below meth c A ls R args Q H locs hRe hQ hAe hx hb hr hlocks hml hown hnm hts hsz hA hS hP hK hD hZ hl
  have hRf : R.frames = 0 := by rw [hRe]
  have hRl : R.locals = 0 := by rw [hRe]
  have hRc : R.cells = 0 := by rw [hRe]
  have hRs : R.slots = 0 := by rw [hRe]
  refine lv_aload_n hx hb dX12_fault_0 rfl (lv_at hl 0 rfl) ?_
  refine lv_iconst (v := 0) hx hb dX12_fault_1 (by decide) ?_
  refine va_put (D := G) (ci := 12) (v := .int 0) (ty := tyX12 0) (C := RX12) (T := TX12) (N := 38) hx hb hts (mm_i inlX12) tyX12 tyX12_ok nmX12 hown hK.1 hP hD hS 0 rfl rfl 0 (by decide) (mm_h hts mm_w177) (fun _ h9 => h9) rfl (tyX12_ok 0 (by decide)) rfl rfl (Nat.le_of_ble_eq_true rfl) dX12_fault_2 ?_
  clear hP hD hS
  clear H locs
  intro H locs (hP : va_P G vwCl [(a_0, .inr (12, [.int 0, .ref a_1, .ref a_2, .ref a_3, .ref a_4, .ref a_5, .int i_2, .int i_3, .int i_4, .int i_5, .int i_6, .long j_0, .int i_7, .int i_8, .int i_9, .int i_10, .ref a_6, .ref a_7, .ref a_8, .ref a_9, .ref a_10, .ref a_11, .ref a_12, .ref a_13, .ref a_14, .ref a_15, .ref a_16, .ref a_17, .ref a_18, .int i_11, .int i_12, .int i_13, .int i_14, .int i_15, .int i_16, .ref a_19, .int i_17, .ref a_20]))] H) (hD : va_D A [(a_0, .inr (12, [.int 0, .ref a_1, .ref a_2, .ref a_3, .ref a_4, .ref a_5, .int i_2, .int i_3, .int i_4, .int i_5, .int i_6, .long j_0, .int i_7, .int i_8, .int i_9, .int i_10, .ref a_6, .ref a_7, .ref a_8, .ref a_9, .ref a_10, .ref a_11, .ref a_12, .ref a_13, .ref a_14, .ref a_15, .ref a_16, .ref a_17, .ref a_18, .int i_11, .int i_12, .int i_13, .int i_14, .int i_15, .int i_16, .ref a_19, .int i_17, .ref a_20]))]) hS
  refine lv_iload_n hx hb dX12_fault_5 rfl (lv_at hl 1 rfl) ?_
  refine lv_if_ne (tgt := 16) hx hb dX12_fault_6 (by decide) (fun c1 => ?_) (fun c1 => ?_)
  · refine lv_iload_n hx hb dX12_fault_16 rfl (lv_at hl 1 rfl) ?_
    refine lv_iconst (v := 1) hx hb dX12_fault_17 (by decide) ?_
    refine lv_icmp_ne (tgt := 28) hx hb dX12_fault_18 (by decide) (fun c2 => ?_) (fun c2 => ?_)
    · refine lv_iconst (v := (-1)) hx hb dX12_fault_28 (by decide) ?_
      subst hAe
      rw [hQ]
      exact W.iret (v := (-1)) hx hb hr (fun t ht hW => ⟨⟨(-1), (), rfl, trivial, by rw [ht]; exact hP, hK.warm hW, hD⟩, hS.F ht⟩) hS.2.2 dX12_fault_29
    · have q3 := mm_eqI (lo := 1) (hi := 1) c2 (mm_top i_0) mm_k1 (by decide)
      refine lv_aload_n hx hb dX12_fault_21 rfl (lv_at hl 0 rfl) ?_
      refine va_get (D := G) (ci := 12) (v := .int i_10) (C := RX12) (T := TX12) (N := 38) hx hb hts (mm_i inlX12) hown hK.1 hP 0 rfl rfl 15 (by decide) (mm_h hts mm_w147) (fun _ h9 => h9) rfl dX12_fault_22 ?_
      refine lv_goto (tgt := 29) hx hb dX12_fault_25 (by decide) ?_
      subst hAe
      rw [hQ]
      exact W.iret (v := i_10) hx hb hr (fun t ht hW => ⟨⟨i_10, (), rfl, trivial, by rw [ht]; exact hP, hK.warm hW, hD⟩, hS.F ht⟩) hS.2.2 dX12_fault_29
  · have q4 := mm_eqI (lo := 0) (hi := 0) c1 (mm_top i_0) mm_k0 (by decide)
    refine lv_aload_n hx hb dX12_fault_9 rfl (lv_at hl 0 rfl) ?_
    refine va_get (D := G) (ci := 12) (v := .int i_9) (C := RX12) (T := TX12) (N := 38) hx hb hts (mm_i inlX12) hown hK.1 hP 0 rfl rfl 14 (by decide) (mm_h hts mm_w552) (fun _ h9 => h9) rfl dX12_fault_10 ?_
    refine lv_goto (tgt := 29) hx hb dX12_fault_13 (by decide) ?_
    subst hAe
    rw [hQ]
    exact W.iret (v := i_9) hx hb hr (fun t ht hW => ⟨⟨i_9, (), rfl, trivial, by rw [ht]; exact hP, hK.warm hW, hD⟩, hS.F ht⟩) hS.2.2 dX12_fault_29

set_option maxHeartbeats 4000000 in
set_option maxRecDepth 100000 in
theorem M92_X12_senses (l : Launch) (G : va_G) (cy : Nat → ClassId) (sz : Nat) (a_0 : Nat) (i_0 : Int32) (a_1 : Nat) (a_2 : Nat) (a_3 : Nat) (a_4 : Nat) (a_5 : Nat) (i_1 : Int32) (i_2 : Int32) (i_3 : Int32) (i_4 : Int32) (i_5 : Int32) (j_0 : Int64) (i_6 : Int32) (i_7 : Int32) (i_8 : Int32) (i_9 : Int32) (a_6 : Nat) (a_7 : Nat) (a_8 : Nat) (a_9 : Nat) (a_10 : Nat) (a_11 : Nat) (a_12 : Nat) (a_13 : Nat) (a_14 : Nat) (a_15 : Nat) (a_16 : Nat) (a_17 : Nat) (a_18 : Nat) (i_10 : Int32) (i_11 : Int32) (i_12 : Int32) (i_13 : Int32) (i_14 : Int32) (i_15 : Int32) (a_19 : Nat) (i_16 : Int32) (a_20 : Nat) (i_17 : Int32) (i_18 : Int32) (i_19 : Int32) (i_20 : Int32) (i_21 : Int32) (i_22 : Int32) (i_23 : Int32) (i_24 : Int32) (i_25 : Int32) (i_26 : Int32) (i_27 : Int32) (i_28 : Int32) (i_29 : Int32) (i_30 : Int32) (i_31 : Int32) (i_32 : Int32) (i_33 : Int32) (i_34 : Int32) (i_35 : Int32) (i_36 : Int32) (i_37 : Int32) (i_38 : Int32) (i_39 : Int32) (i_40 : Int32) (i_41 : Int32) (i_42 : Int32) (i_43 : Int32) (i_44 : Int32) (i_45 : Int32) (i_46 : Int32) (h0 : mm_rg i_17 0 10) (h1 : mm_rg i_18 0 99) (h2 : mm_rg i_19 0 9) (h3 : mm_rg i_20 0 3) (h4 : mm_rg i_21 0 6) (h5 : mm_rg i_22 0 30) (h6 : mm_rg i_23 0 10) (h7 : mm_rg i_24 0 99) (h8 : mm_rg i_25 0 9) (h9 : mm_rg i_26 0 3) (h10 : mm_rg i_27 0 6) (h11 : mm_rg i_28 0 30) (h12 : mm_rg i_29 0 10) (h13 : mm_rg i_30 0 99) (h14 : mm_rg i_31 0 9) (h15 : mm_rg i_32 0 3) (h16 : mm_rg i_33 0 6) (h17 : mm_rg i_34 0 30) (h18 : mm_rg i_35 0 10) (h19 : mm_rg i_36 0 99) (h20 : mm_rg i_37 0 9) (h21 : mm_rg i_38 0 3) (h22 : mm_rg i_39 0 6) (h23 : mm_rg i_40 0 30) (h24 : mm_rg i_41 0 10) (h25 : mm_rg i_42 0 99) (h26 : mm_rg i_43 0 9) (h27 : mm_rg i_44 0 3) (h28 : mm_rg i_45 0 6) (h29 : mm_rg i_46 0 30)  : mm_CI l yX12_senses (mm_ws yX12_senses cX12_senses 1 (some .int)) ({ frames := 0, cells := 0, slots := 0, locals := 0 } : Room) G cy sz [(a_0, .inr (12, [.int i_0, .ref a_1, .ref a_2, .ref a_3, .ref a_4, .ref a_5, .int i_1, .int i_2, .int i_3, .int i_4, .int i_5, .long j_0, .int i_6, .int i_7, .int i_8, .int i_9, .ref a_6, .ref a_7, .ref a_8, .ref a_9, .ref a_10, .ref a_11, .ref a_12, .ref a_13, .ref a_14, .ref a_15, .ref a_16, .ref a_17, .ref a_18, .int i_10, .int i_11, .int i_12, .int i_13, .int i_14, .int i_15, .ref a_19, .int i_16, .ref a_20])), (a_7, .inl (cy 1, 30, .inl (mm_g [i_17, i_18, i_19, i_20, i_21, i_22, i_23, i_24, i_25, i_26, i_27, i_28, i_29, i_30, i_31, i_32, i_33, i_34, i_35, i_36, i_37, i_38, i_39, i_40, i_41, i_42, i_43, i_44, i_45, i_46])))] [.ref a_0] (fun u : Unit => [(a_0, .inr (12, [.int i_0, .ref a_1, .ref a_2, .ref a_3, .ref a_4, .ref a_5, .int i_1, .int i_2, .int i_3, .int i_4, .int i_5, .long j_0, .int i_6, .int i_7, .int i_8, .int i_9, .ref a_6, .ref a_7, .ref a_8, .ref a_9, .ref a_10, .ref a_11, .ref a_12, .ref a_13, .ref a_14, .ref a_15, .ref a_16, .ref a_17, .ref a_18, .int i_10, .int i_11, .int i_12, .int i_13, .int i_14, .int i_15, .ref a_19, .int i_16, .ref a_20])), (a_7, .inl (cy 1, 30, .inl (mm_g [i_17, i_18, i_19, i_20, i_21, i_22, i_23, i_24, i_25, i_26, i_27, i_28, i_29, i_30, i_31, i_32, i_33, i_34, i_35, i_36, i_37, i_38, i_39, i_40, i_41, i_42, i_43, i_44, i_45, i_46])))]) (fun (r : Int32) (u : Unit) => i_19 = r) 0 0 := by
  refine mm_begin (lv := [(0, .ref a_0)]) (by decide) (Nat.le_of_ble_eq_true rfl) rfl ?_
  intro p e s m below meth c A ls R args Q H locs hRe hQ hAe hx hb hr hlocks hml hown hnm hts hsz hA hS hP hK hD hZ hl
  have hRf : R.frames = 0 := by rw [hRe]
  have hRl : R.locals = 0 := by rw [hRe]
  have hRc : R.cells = 0 := by rw [hRe]
  have hRs : R.slots = 0 := by rw [hRe]
  refine lv_aload_n hx hb dX12_senses_0 rfl (lv_at hl 0 rfl) ?_
  refine va_get (D := G) (ci := 12) (v := .ref a_7) (C := RX12) (T := TX12) (N := 38) hx hb hts (mm_i inlX12) hown hK.1 hP 0 rfl rfl 17 (by decide) (mm_h hts mm_w149) (fun _ h9 => h9) rfl dX12_senses_1 ?_
  refine lv_iconst (v := 2) hx hb dX12_senses_4 (by decide) ?_
  refine va_iald hx hb hK.1 hP 1 1 rfl rfl (mm_in mm_k2 (by decide)) dX12_senses_5 ?_
  rw [show (mm_g [i_17, i_18, i_19, i_20, i_21, i_22, i_23, i_24, i_25, i_26, i_27, i_28, i_29, i_30, i_31, i_32, i_33, i_34, i_35, i_36, i_37, i_38, i_39, i_40, i_41, i_42, i_43, i_44, i_45, i_46]) (2 : Int32).toNatClampNeg = i_19 from mm_ge 2 (by decide) rfl]
  subst hAe
  rw [hQ]
  exact W.iret (v := i_19) hx hb hr (fun t ht hW => ⟨⟨i_19, (), rfl, rfl, by rw [ht]; exact hP, hK.warm hW, hD⟩, hS.F ht⟩) hS.2.2 dX12_senses_6

set_option maxHeartbeats 4000000 in
set_option maxRecDepth 100000 in
theorem M93_X12_isHalf (l : Launch) (G : va_G) (cy : Nat → ClassId) (sz : Nat) (i_0 : Int32)   : mm_CI l yX12_isHalf (mm_ws yX12_isHalf cX12_isHalf 1 (some .boolean)) ({ frames := 1, cells := 0, slots := 0, locals := 25 } : Room) G cy sz [] [.int i_0] (fun u : Unit => []) (fun (r : Int32) (u : Unit) => ((0 = r) ∨ (1 = r ∧ mm_rg i_0 0 1))) 0 0 := by
  refine mm_begin (lv := [(0, .int i_0)]) (by decide) (Nat.le_of_ble_eq_true rfl) rfl ?_
  intro p e s m below meth c A ls R args Q H locs hRe hQ hAe hx hb hr hlocks hml hown hnm hts hsz hA hS hP hK hD hZ hl
  have hRf : R.frames = 1 := by rw [hRe]
  have hRl : R.locals = 25 := by rw [hRe]
  have hRc : R.cells = 0 := by rw [hRe]
  have hRs : R.slots = 0 := by rw [hRe]
  refine lv_iload_n hx hb dX12_isHalf_0 rfl (lv_at hl 0 rfl) ?_
  obtain ⟨v1, ev1⟩ : ∃ y : Int64, y = i_0.toInt64 := ⟨_, rfl⟩
  refine lv_i2l hx hb dX12_isHalf_1 ev1.symm ?_
  have rv1 : mm_rl v1 (-2147483648) 2147483647 := mm_i2l ev1 (mm_top i_0)
  refine lv_lconst (v := 0) hx hb dX12_isHalf_2 (by decide) ?_
  refine lv_lconst (v := 1) hx hb dX12_isHalf_3 (by decide) ?_
  refine mm_finir (va_runS (As := [.long v1, .long 0, .long 1]) (rest := []) ⟨hx, hb, hml, hown, hts⟩ (M7_X12_in l G cy H.size v1 1 ) (va_cwS 3 hts (mm_gS mm_w191 mm_w192 mm_w5 mm_w193) rfl rfl rfl hs_X12_in ⟨by rw [hRf]; exact Nat.le_of_ble_eq_true rfl, by rw [hRl]; exact Nat.le_of_ble_eq_true rfl⟩) (mm_preS hK hZ hS hA hP hD [] rfl rfl) rfl rfl hl.1 rfl (lv_room (Nat.le_of_ble_eq_true rfl)) dX12_isHalf_4 ⟨by rw [hRc]; exact Nat.le_of_ble_eq_true rfl, by rw [hRs]; exact Nat.le_of_ble_eq_true rfl⟩) hP hD hS hA [] rfl (fun _ => rfl) ?_
  clear hP hD hS
  clear H locs
  intro v2 _u H locs hw hP hD hS
  rcases hw with ⟨rfl, w3⟩ | ⟨rfl, w4, w5, w6, w7⟩
  · subst hAe
    rw [hQ]
    exact W.zret (v := 0) hx hb hr rfl (fun t ht hW => ⟨⟨0, (), rfl, (Or.inl rfl), by rw [ht]; exact hP, hK.warm hW, hD⟩, hS.F ht⟩) hS.2.2 dX12_isHalf_7
  · have q8 := mm_meetl (lo := 0) (hi := 2147483647) w4 rv1 (by decide)
    have q9 := mm_meet (lo := 0) (hi := 2147483647) (mm_l2x ev1 q8) (mm_top i_0) (by decide)
    have q10 := mm_leLl w6 q8 mm_kl1
    have q11 := mm_meet (lo := 0) (hi := 1) (mm_l2x ev1 q10) q9 (by decide)
    subst hAe
    rw [hQ]
    exact W.zret (v := 1) hx hb hr rfl (fun t ht hW => ⟨⟨1, (), rfl, (Or.inr ⟨rfl, q11⟩), by rw [ht]; exact hP, hK.warm hW, hD⟩, hS.F ht⟩) hS.2.2 dX12_isHalf_7

set_option maxHeartbeats 4000000 in
set_option maxRecDepth 100000 in
theorem M94_X12_sense (l : Launch) (G : va_G) (cy : Nat → ClassId) (sz : Nat) (a_0 : Nat) (i_0 : Int32) (i_1 : Int32) (i_2 : Int32) (a_1 : Nat) (a_2 : Nat) (a_3 : Nat) (a_4 : Nat) (a_5 : Nat) (i_3 : Int32) (i_4 : Int32) (i_5 : Int32) (i_6 : Int32) (i_7 : Int32) (j_0 : Int64) (i_8 : Int32) (i_9 : Int32) (i_10 : Int32) (i_11 : Int32) (a_6 : Nat) (a_7 : Nat) (a_8 : Nat) (a_9 : Nat) (a_10 : Nat) (a_11 : Nat) (a_12 : Nat) (a_13 : Nat) (a_14 : Nat) (a_15 : Nat) (a_16 : Nat) (a_17 : Nat) (a_18 : Nat) (i_12 : Int32) (i_13 : Int32) (i_14 : Int32) (i_15 : Int32) (i_16 : Int32) (i_17 : Int32) (a_19 : Nat) (i_18 : Int32) (a_20 : Nat) (i_19 : Int32) (i_20 : Int32) (i_21 : Int32) (i_22 : Int32) (i_23 : Int32) (i_24 : Int32) (i_25 : Int32) (i_26 : Int32) (i_27 : Int32) (i_28 : Int32) (i_29 : Int32) (i_30 : Int32) (i_31 : Int32) (i_32 : Int32) (i_33 : Int32) (i_34 : Int32) (i_35 : Int32) (i_36 : Int32) (i_37 : Int32) (i_38 : Int32) (i_39 : Int32) (i_40 : Int32) (i_41 : Int32) (i_42 : Int32) (i_43 : Int32) (i_44 : Int32) (i_45 : Int32) (i_46 : Int32) (i_47 : Int32) (i_48 : Int32) (f_0 : Nat → Int32) (h0 : mm_rg i_19 0 10) (h1 : mm_rg i_20 0 99) (h2 : mm_rg i_21 0 9) (h3 : mm_rg i_22 0 3) (h4 : mm_rg i_23 0 6) (h5 : mm_rg i_24 0 30) (h6 : mm_rg i_25 0 10) (h7 : mm_rg i_26 0 99) (h8 : mm_rg i_27 0 9) (h9 : mm_rg i_28 0 3) (h10 : mm_rg i_29 0 6) (h11 : mm_rg i_30 0 30) (h12 : mm_rg i_31 0 10) (h13 : mm_rg i_32 0 99) (h14 : mm_rg i_33 0 9) (h15 : mm_rg i_34 0 3) (h16 : mm_rg i_35 0 6) (h17 : mm_rg i_36 0 30) (h18 : mm_rg i_37 0 10) (h19 : mm_rg i_38 0 99) (h20 : mm_rg i_39 0 9) (h21 : mm_rg i_40 0 3) (h22 : mm_rg i_41 0 6) (h23 : mm_rg i_42 0 30) (h24 : mm_rg i_43 0 10) (h25 : mm_rg i_44 0 99) (h26 : mm_rg i_45 0 9) (h27 : mm_rg i_46 0 3) (h28 : mm_rg i_47 0 6) (h29 : mm_rg i_48 0 30) (h30 : mm_ar f_0 0 99)  : mm_CI l yX12_sense (mm_ws yX12_sense cX12_sense 3 (some .int)) ({ frames := 2, cells := 0, slots := 0, locals := 45 } : Room) G cy sz [(a_0, .inr (12, [.int i_2, .ref a_1, .ref a_2, .ref a_3, .ref a_4, .ref a_5, .int i_3, .int i_4, .int i_5, .int i_6, .int i_7, .long j_0, .int i_8, .int i_9, .int i_10, .int i_11, .ref a_6, .ref a_7, .ref a_8, .ref a_9, .ref a_10, .ref a_11, .ref a_12, .ref a_13, .ref a_14, .ref a_15, .ref a_16, .ref a_17, .ref a_18, .int i_12, .int i_13, .int i_14, .int i_15, .int i_16, .int i_17, .ref a_19, .int i_18, .ref a_20])), (a_7, .inl (cy 1, 30, .inl (mm_g [i_19, i_20, i_21, i_22, i_23, i_24, i_25, i_26, i_27, i_28, i_29, i_30, i_31, i_32, i_33, i_34, i_35, i_36, i_37, i_38, i_39, i_40, i_41, i_42, i_43, i_44, i_45, i_46, i_47, i_48]))), (a_8, .inl (cy 1, 90, .inl f_0))] [.ref a_0, .int i_0, .int i_1] (fun u : Unit => [(a_0, .inr (12, [.int 0, .ref a_1, .ref a_2, .ref a_3, .ref a_4, .ref a_5, .int i_3, .int i_4, .int i_5, .int i_6, .int i_7, .long j_0, .int i_8, .int i_9, .int i_10, .int i_11, .ref a_6, .ref a_7, .ref a_8, .ref a_9, .ref a_10, .ref a_11, .ref a_12, .ref a_13, .ref a_14, .ref a_15, .ref a_16, .ref a_17, .ref a_18, .int i_12, .int i_13, .int i_14, .int i_15, .int i_16, .int i_17, .ref a_19, .int i_18, .ref a_20])), (a_7, .inl (cy 1, 30, .inl (mm_g [i_19, i_20, i_21, i_22, i_23, i_24, i_25, i_26, i_27, i_28, i_29, i_30, i_31, i_32, i_33, i_34, i_35, i_36, i_37, i_38, i_39, i_40, i_41, i_42, i_43, i_44, i_45, i_46, i_47, i_48]))), (a_8, .inl (cy 1, 90, .inl f_0))]) (fun (r : Int32) (u : Unit) => mm_rg r (-2) 99) 0 0 := by
  refine mm_begin (lv := [(0, .ref a_0), (1, .int i_0), (2, .int i_1)]) (by decide) (Nat.le_of_ble_eq_true rfl) rfl ?_
  intro p e s m below meth c A ls R args Q H locs hRe hQ hAe hx hb hr hlocks hml hown hnm hts hsz hA hS hP hK hD hZ hl
  have hRf : R.frames = 2 := by rw [hRe]
  have hRl : R.locals = 45 := by rw [hRe]
  have hRc : R.cells = 0 := by rw [hRe]
  have hRs : R.slots = 0 := by rw [hRe]
  refine lv_aload_n hx hb dX12_sense_0 rfl (lv_at hl 0 rfl) ?_
  refine lv_iconst (v := 0) hx hb dX12_sense_1 (by decide) ?_
  refine va_put (D := G) (ci := 12) (v := .int 0) (ty := tyX12 0) (C := RX12) (T := TX12) (N := 38) hx hb hts (mm_i inlX12) tyX12 tyX12_ok nmX12 hown hK.1 hP hD hS 0 rfl rfl 0 (by decide) (mm_h hts mm_w177) (fun _ h9 => h9) rfl (tyX12_ok 0 (by decide)) rfl rfl (Nat.le_of_ble_eq_true rfl) dX12_sense_2 ?_
  clear hP hD hS
  clear H locs
  intro H locs (hP : va_P G vwCl [(a_0, .inr (12, [.int 0, .ref a_1, .ref a_2, .ref a_3, .ref a_4, .ref a_5, .int i_3, .int i_4, .int i_5, .int i_6, .int i_7, .long j_0, .int i_8, .int i_9, .int i_10, .int i_11, .ref a_6, .ref a_7, .ref a_8, .ref a_9, .ref a_10, .ref a_11, .ref a_12, .ref a_13, .ref a_14, .ref a_15, .ref a_16, .ref a_17, .ref a_18, .int i_12, .int i_13, .int i_14, .int i_15, .int i_16, .int i_17, .ref a_19, .int i_18, .ref a_20])), (a_7, .inl (cy 1, 30, .inl (mm_g [i_19, i_20, i_21, i_22, i_23, i_24, i_25, i_26, i_27, i_28, i_29, i_30, i_31, i_32, i_33, i_34, i_35, i_36, i_37, i_38, i_39, i_40, i_41, i_42, i_43, i_44, i_45, i_46, i_47, i_48]))), (a_8, .inl (cy 1, 90, .inl f_0))] H) (hD : va_D A [(a_0, .inr (12, [.int 0, .ref a_1, .ref a_2, .ref a_3, .ref a_4, .ref a_5, .int i_3, .int i_4, .int i_5, .int i_6, .int i_7, .long j_0, .int i_8, .int i_9, .int i_10, .int i_11, .ref a_6, .ref a_7, .ref a_8, .ref a_9, .ref a_10, .ref a_11, .ref a_12, .ref a_13, .ref a_14, .ref a_15, .ref a_16, .ref a_17, .ref a_18, .int i_12, .int i_13, .int i_14, .int i_15, .int i_16, .int i_17, .ref a_19, .int i_18, .ref a_20])), (a_7, .inl (cy 1, 30, .inl (mm_g [i_19, i_20, i_21, i_22, i_23, i_24, i_25, i_26, i_27, i_28, i_29, i_30, i_31, i_32, i_33, i_34, i_35, i_36, i_37, i_38, i_39, i_40, i_41, i_42, i_43, i_44, i_45, i_46, i_47, i_48]))), (a_8, .inl (cy 1, 90, .inl f_0))]) hS
  refine lv_iload_n hx hb dX12_sense_5 rfl (lv_at hl 1 rfl) ?_
  obtain ⟨v1, ev1⟩ : ∃ y : Int64, y = i_0.toInt64 := ⟨_, rfl⟩
  refine lv_i2l hx hb dX12_sense_6 ev1.symm ?_
  have rv1 : mm_rl v1 (-2147483648) 2147483647 := mm_i2l ev1 (mm_top i_0)
  refine lv_lconst (v := 0) hx hb dX12_sense_7 (by decide) ?_
  refine lv_aload_n hx hb dX12_sense_8 rfl (lv_at hl 0 rfl) ?_
  refine mm_finir (va_runV (As := []) (rest := [.long 0, .long v1]) ⟨hx, hb, hml, hown, hts⟩ (M92_X12_senses l G cy H.size a_0 0 a_1 a_2 a_3 a_4 a_5 i_3 i_4 i_5 i_6 i_7 j_0 i_8 i_9 i_10 i_11 a_6 a_7 a_8 a_9 a_10 a_11 a_12 a_13 a_14 a_15 a_16 a_17 a_18 i_12 i_13 i_14 i_15 i_16 i_17 a_19 i_18 a_20 i_19 i_20 i_21 i_22 i_23 i_24 i_25 i_26 i_27 i_28 i_29 i_30 i_31 i_32 i_33 i_34 i_35 i_36 i_37 i_38 i_39 i_40 i_41 i_42 i_43 i_44 i_45 i_46 i_47 i_48 h0 h1 h2 h3 h4 h5 h6 h7 h8 h9 h10 h11 h12 h13 h14 h15 h16 h17 h18 h19 h20 h21 h22 h23 h24 h25 h26 h27 h28 h29) (cwV 0 hts (mm_gV mm_w588 mm_w589 mm_w590 mm_w5 mm_w591) rfl rfl rfl hd_X12_senses ⟨by rw [hRf]; exact Nat.le_of_ble_eq_true rfl, by rw [hRl]; exact Nat.le_of_ble_eq_true rfl⟩) (mm_preV hK hZ hS hA hP hD [0, 1] rfl rfl 0 rfl rfl rfl) rfl rfl hl.1 rfl (lv_room (Nat.le_of_ble_eq_true rfl)) dX12_sense_9 ⟨by rw [hRc]; exact Nat.le_of_ble_eq_true rfl, by rw [hRs]; exact Nat.le_of_ble_eq_true rfl⟩) hP hD hS hA [0, 1] rfl (fun _ => rfl) ?_
  clear hP hD hS
  clear H locs
  intro v2 _u H locs hw hP hD hS
  subst hw
  obtain ⟨v3, ev3⟩ : ∃ y : Int64, y = i_21.toInt64 := ⟨_, rfl⟩
  refine lv_i2l hx hb dX12_sense_12 ev3.symm ?_
  have rv3 : mm_rl v3 0 9 := mm_i2l ev3 h2
  refine lv_lconst (v := 1) hx hb dX12_sense_13 (by decide) ?_
  refine lv_lsub hx hb dX12_sense_14 ?_
  refine lv_topl (fun v4 ev4 => ?_)
  have rv4 : mm_rl v4 (-1) 8 := mm_subl ev4 rv3 mm_kl1 (by decide) (by decide)
  have tv4 := mm_sublEc ev4 rv3 mm_kl1 (by decide) (k := 1) (by decide)
  refine mm_finir (va_runS (As := [.long v1, .long 0, .long v4]) (rest := []) ⟨hx, hb, hml, hown, hts⟩ (M7_X12_in l G cy H.size v1 v4 ) (va_cwS 3 hts (mm_gS mm_w191 mm_w192 mm_w5 mm_w193) rfl rfl rfl hs_X12_in ⟨by rw [hRf]; exact Nat.le_of_ble_eq_true rfl, by rw [hRl]; exact Nat.le_of_ble_eq_true rfl⟩) (mm_preS hK hZ hS hA hP hD [] rfl rfl) rfl rfl hl.1 rfl (lv_room (Nat.le_of_ble_eq_true rfl)) dX12_sense_15 ⟨by rw [hRc]; exact Nat.le_of_ble_eq_true rfl, by rw [hRs]; exact Nat.le_of_ble_eq_true rfl⟩) hP hD hS hA [] rfl (fun _ => rfl) ?_
  clear hP hD hS
  clear H locs
  intro v5 _u H locs hw hP hD hS
  rcases hw with ⟨rfl, w6⟩ | ⟨rfl, w7, w8, w9, w10⟩
  · refine lv_if_eq (tgt := 41) hx hb dX12_sense_18 (by decide) (fun c11 => ?_) (fun c11 => ?_)
    · refine lv_bipush (v := (-2)) hx hb dX12_sense_41 (by decide) ?_
      subst hAe
      rw [hQ]
      exact W.iret (v := (-2)) hx hb hr (fun t ht hW => ⟨⟨(-2), (), rfl, (mm_wk mm_km2 (by decide)), by rw [ht]; exact hP, hK.warm hW, hD⟩, hS.F ht⟩) hS.2.2 dX12_sense_43
    · exact absurd rfl (mm_ne c11)
  · have q12 := mm_meetl (lo := 0) (hi := 2147483647) w7 rv1 (by decide)
    have q13 := mm_meet (lo := 0) (hi := 2147483647) (mm_l2x ev1 q12) (mm_top i_0) (by decide)
    have q14 := mm_meetl (lo := 0) (hi := 8) w8 rv4 (by decide)
    have q15 := mm_leLl w9 q12 q14
    have q16 := mm_meet (lo := 0) (hi := 8) (mm_l2x ev1 q15) q13 (by decide)
    have w17 : (i_0 : Int32).toInt < (i_21 : Int32).toInt := by have := (mm_i2lE ev1); have := (mm_i2lE ev3); have := tv4; have := w9; omega
    have q18 := mm_ltR (lo := 1) w17 q16 h2 (by decide)
    refine lv_if_eq (tgt := 41) hx hb dX12_sense_18 (by decide) (fun c19 => ?_) (fun c19 => ?_)
    · exact mm_eqN c19.symm mm_k0 mm_k1 (by decide)
    · refine lv_iload_n hx hb dX12_sense_21 rfl (lv_at hl 2 rfl) ?_
      refine mm_finir (va_runS (As := [.int i_1]) (rest := []) ⟨hx, hb, hml, hown, hts⟩ (M93_X12_isHalf l G cy H.size i_1 ) (va_cwS 1 hts (mm_gS mm_w592 mm_w593 mm_w5 mm_w594) rfl rfl rfl hs_X12_isHalf ⟨by rw [hRf]; exact Nat.le_of_ble_eq_true rfl, by rw [hRl]; exact Nat.le_of_ble_eq_true rfl⟩) (mm_preS hK hZ hS hA hP hD [] rfl rfl) rfl rfl hl.1 rfl (lv_room (Nat.le_of_ble_eq_true rfl)) dX12_sense_22 ⟨by rw [hRc]; exact Nat.le_of_ble_eq_true rfl, by rw [hRs]; exact Nat.le_of_ble_eq_true rfl⟩) hP hD hS hA [] rfl (fun _ => rfl) ?_
      clear hP hD hS
      clear H locs
      intro v20 _u H locs hw hP hD hS
      rcases hw with rfl | ⟨rfl, w21⟩
      · refine lv_if_eq (tgt := 41) hx hb dX12_sense_25 (by decide) (fun c22 => ?_) (fun c22 => ?_)
        · refine lv_bipush (v := (-2)) hx hb dX12_sense_41 (by decide) ?_
          subst hAe
          rw [hQ]
          exact W.iret (v := (-2)) hx hb hr (fun t ht hW => ⟨⟨(-2), (), rfl, (mm_wk mm_km2 (by decide)), by rw [ht]; exact hP, hK.warm hW, hD⟩, hS.F ht⟩) hS.2.2 dX12_sense_43
        · exact absurd rfl (mm_ne c22)
      · refine lv_if_eq (tgt := 41) hx hb dX12_sense_25 (by decide) (fun c23 => ?_) (fun c23 => ?_)
        · exact mm_eqN c23.symm mm_k0 mm_k1 (by decide)
        · refine lv_aload_n hx hb dX12_sense_28 rfl (lv_at hl 0 rfl) ?_
          refine va_get (D := G) (ci := 12) (v := .ref a_8) (C := RX12) (T := TX12) (N := 38) hx hb hts (mm_i inlX12) hown hK.1 hP 0 rfl rfl 18 (by decide) (mm_h hts mm_w150) (fun _ h9 => h9) rfl dX12_sense_29 ?_
          refine lv_iconst (v := 2) hx hb dX12_sense_32 (by decide) ?_
          refine lv_iload_n hx hb dX12_sense_33 rfl (lv_at hl 1 rfl) ?_
          refine lv_imul hx hb dX12_sense_34 ?_
          refine lv_topi (fun v24 ev24 => ?_)
          have rv24 : mm_rg v24 0 16 := mm_mul ev24 mm_k2 q16 (by decide) (by decide)
          have tv24 := mm_mulEc ev24 mm_k2 q16 (by decide) (k := 2) (by decide)
          refine lv_iload_n hx hb dX12_sense_35 rfl (lv_at hl 2 rfl) ?_
          refine lv_iadd hx hb dX12_sense_36 ?_
          refine lv_topi (fun v25 ev25 => ?_)
          have rv25 : mm_rg v25 0 17 := mm_add ev25 rv24 w21 (by decide) (by decide)
          have tv25 := mm_addE ev25 rv24 w21 (by decide)
          refine va_iald hx hb hK.1 hP 2 1 rfl rfl (mm_in rv25 (by decide)) dX12_sense_37 ?_
          refine lv_topi (fun v26 ev26 => ?_)
          have rv26 : mm_rg v26 0 99 := mm_eqv ev26 (h30 _)
          refine lv_goto (tgt := 43) hx hb dX12_sense_38 (by decide) ?_
          subst hAe
          rw [hQ]
          exact W.iret (v := v26) hx hb hr (fun t ht hW => ⟨⟨v26, (), rfl, (mm_wk rv26 (by decide)), by rw [ht]; exact hP, hK.warm hW, hD⟩, hS.F ht⟩) hS.2.2 dX12_sense_43

set_option maxHeartbeats 4000000 in
set_option maxRecDepth 100000 in
theorem M95_X12_texts (l : Launch) (G : va_G) (cy : Nat → ClassId) (sz : Nat) (a_0 : Nat) (i_0 : Int32) (a_1 : Nat) (a_2 : Nat) (a_3 : Nat) (a_4 : Nat) (a_5 : Nat) (i_1 : Int32) (i_2 : Int32) (i_3 : Int32) (i_4 : Int32) (i_5 : Int32) (j_0 : Int64) (i_6 : Int32) (i_7 : Int32) (i_8 : Int32) (i_9 : Int32) (a_6 : Nat) (a_7 : Nat) (a_8 : Nat) (a_9 : Nat) (a_10 : Nat) (a_11 : Nat) (a_12 : Nat) (a_13 : Nat) (a_14 : Nat) (a_15 : Nat) (a_16 : Nat) (a_17 : Nat) (a_18 : Nat) (i_10 : Int32) (i_11 : Int32) (i_12 : Int32) (i_13 : Int32) (i_14 : Int32) (i_15 : Int32) (a_19 : Nat) (i_16 : Int32) (a_20 : Nat) (i_17 : Int32) (i_18 : Int32) (i_19 : Int32) (i_20 : Int32) (i_21 : Int32) (i_22 : Int32) (i_23 : Int32) (i_24 : Int32) (i_25 : Int32) (i_26 : Int32) (i_27 : Int32) (i_28 : Int32) (i_29 : Int32) (i_30 : Int32) (i_31 : Int32) (i_32 : Int32) (i_33 : Int32) (i_34 : Int32) (i_35 : Int32) (i_36 : Int32) (i_37 : Int32) (i_38 : Int32) (i_39 : Int32) (i_40 : Int32) (i_41 : Int32) (i_42 : Int32) (i_43 : Int32) (i_44 : Int32) (i_45 : Int32) (i_46 : Int32) (h0 : mm_rg i_17 0 10) (h1 : mm_rg i_18 0 99) (h2 : mm_rg i_19 0 9) (h3 : mm_rg i_20 0 3) (h4 : mm_rg i_21 0 6) (h5 : mm_rg i_22 0 30) (h6 : mm_rg i_23 0 10) (h7 : mm_rg i_24 0 99) (h8 : mm_rg i_25 0 9) (h9 : mm_rg i_26 0 3) (h10 : mm_rg i_27 0 6) (h11 : mm_rg i_28 0 30) (h12 : mm_rg i_29 0 10) (h13 : mm_rg i_30 0 99) (h14 : mm_rg i_31 0 9) (h15 : mm_rg i_32 0 3) (h16 : mm_rg i_33 0 6) (h17 : mm_rg i_34 0 30) (h18 : mm_rg i_35 0 10) (h19 : mm_rg i_36 0 99) (h20 : mm_rg i_37 0 9) (h21 : mm_rg i_38 0 3) (h22 : mm_rg i_39 0 6) (h23 : mm_rg i_40 0 30) (h24 : mm_rg i_41 0 10) (h25 : mm_rg i_42 0 99) (h26 : mm_rg i_43 0 9) (h27 : mm_rg i_44 0 3) (h28 : mm_rg i_45 0 6) (h29 : mm_rg i_46 0 30)  : mm_CI l yX12_texts (mm_ws yX12_texts cX12_texts 1 (some .int)) ({ frames := 0, cells := 0, slots := 0, locals := 0 } : Room) G cy sz [(a_0, .inr (12, [.int i_0, .ref a_1, .ref a_2, .ref a_3, .ref a_4, .ref a_5, .int i_1, .int i_2, .int i_3, .int i_4, .int i_5, .long j_0, .int i_6, .int i_7, .int i_8, .int i_9, .ref a_6, .ref a_7, .ref a_8, .ref a_9, .ref a_10, .ref a_11, .ref a_12, .ref a_13, .ref a_14, .ref a_15, .ref a_16, .ref a_17, .ref a_18, .int i_10, .int i_11, .int i_12, .int i_13, .int i_14, .int i_15, .ref a_19, .int i_16, .ref a_20])), (a_7, .inl (cy 1, 30, .inl (mm_g [i_17, i_18, i_19, i_20, i_21, i_22, i_23, i_24, i_25, i_26, i_27, i_28, i_29, i_30, i_31, i_32, i_33, i_34, i_35, i_36, i_37, i_38, i_39, i_40, i_41, i_42, i_43, i_44, i_45, i_46])))] [.ref a_0] (fun u : Unit => [(a_0, .inr (12, [.int i_0, .ref a_1, .ref a_2, .ref a_3, .ref a_4, .ref a_5, .int i_1, .int i_2, .int i_3, .int i_4, .int i_5, .long j_0, .int i_6, .int i_7, .int i_8, .int i_9, .ref a_6, .ref a_7, .ref a_8, .ref a_9, .ref a_10, .ref a_11, .ref a_12, .ref a_13, .ref a_14, .ref a_15, .ref a_16, .ref a_17, .ref a_18, .int i_10, .int i_11, .int i_12, .int i_13, .int i_14, .int i_15, .ref a_19, .int i_16, .ref a_20])), (a_7, .inl (cy 1, 30, .inl (mm_g [i_17, i_18, i_19, i_20, i_21, i_22, i_23, i_24, i_25, i_26, i_27, i_28, i_29, i_30, i_31, i_32, i_33, i_34, i_35, i_36, i_37, i_38, i_39, i_40, i_41, i_42, i_43, i_44, i_45, i_46])))]) (fun (r : Int32) (u : Unit) => i_21 = r) 0 0 := by
  refine mm_begin (lv := [(0, .ref a_0)]) (by decide) (Nat.le_of_ble_eq_true rfl) rfl ?_
  intro p e s m below meth c A ls R args Q H locs hRe hQ hAe hx hb hr hlocks hml hown hnm hts hsz hA hS hP hK hD hZ hl
  have hRf : R.frames = 0 := by rw [hRe]
  have hRl : R.locals = 0 := by rw [hRe]
  have hRc : R.cells = 0 := by rw [hRe]
  have hRs : R.slots = 0 := by rw [hRe]
  refine lv_aload_n hx hb dX12_texts_0 rfl (lv_at hl 0 rfl) ?_
  refine va_get (D := G) (ci := 12) (v := .ref a_7) (C := RX12) (T := TX12) (N := 38) hx hb hts (mm_i inlX12) hown hK.1 hP 0 rfl rfl 17 (by decide) (mm_h hts mm_w149) (fun _ h9 => h9) rfl dX12_texts_1 ?_
  refine lv_iconst (v := 4) hx hb dX12_texts_4 (by decide) ?_
  refine va_iald hx hb hK.1 hP 1 1 rfl rfl (mm_in mm_k4 (by decide)) dX12_texts_5 ?_
  rw [show (mm_g [i_17, i_18, i_19, i_20, i_21, i_22, i_23, i_24, i_25, i_26, i_27, i_28, i_29, i_30, i_31, i_32, i_33, i_34, i_35, i_36, i_37, i_38, i_39, i_40, i_41, i_42, i_43, i_44, i_45, i_46]) (4 : Int32).toNatClampNeg = i_21 from mm_ge 4 (by decide) rfl]
  subst hAe
  rw [hQ]
  exact W.iret (v := i_21) hx hb hr (fun t ht hW => ⟨⟨i_21, (), rfl, rfl, by rw [ht]; exact hP, hK.warm hW, hD⟩, hS.F ht⟩) hS.2.2 dX12_texts_6

set_option maxHeartbeats 4000000 in
set_option maxRecDepth 100000 in
theorem M96_X12_isText (l : Launch) (G : va_G) (cy : Nat → ClassId) (sz : Nat) (a_0 : Nat) (j_0 : Int64) (i_0 : Int32) (a_1 : Nat) (a_2 : Nat) (a_3 : Nat) (a_4 : Nat) (a_5 : Nat) (i_1 : Int32) (i_2 : Int32) (i_3 : Int32) (i_4 : Int32) (i_5 : Int32) (j_1 : Int64) (i_6 : Int32) (i_7 : Int32) (i_8 : Int32) (i_9 : Int32) (a_6 : Nat) (a_7 : Nat) (a_8 : Nat) (a_9 : Nat) (a_10 : Nat) (a_11 : Nat) (a_12 : Nat) (a_13 : Nat) (a_14 : Nat) (a_15 : Nat) (a_16 : Nat) (a_17 : Nat) (a_18 : Nat) (i_10 : Int32) (i_11 : Int32) (i_12 : Int32) (i_13 : Int32) (i_14 : Int32) (i_15 : Int32) (a_19 : Nat) (i_16 : Int32) (a_20 : Nat) (i_17 : Int32) (i_18 : Int32) (i_19 : Int32) (i_20 : Int32) (i_21 : Int32) (i_22 : Int32) (i_23 : Int32) (i_24 : Int32) (i_25 : Int32) (i_26 : Int32) (i_27 : Int32) (i_28 : Int32) (i_29 : Int32) (i_30 : Int32) (i_31 : Int32) (i_32 : Int32) (i_33 : Int32) (i_34 : Int32) (i_35 : Int32) (i_36 : Int32) (i_37 : Int32) (i_38 : Int32) (i_39 : Int32) (i_40 : Int32) (i_41 : Int32) (i_42 : Int32) (i_43 : Int32) (i_44 : Int32) (i_45 : Int32) (i_46 : Int32) (h0 : mm_rg i_17 0 10) (h1 : mm_rg i_18 0 99) (h2 : mm_rg i_19 0 9) (h3 : mm_rg i_20 0 3) (h4 : mm_rg i_21 0 6) (h5 : mm_rg i_22 0 30) (h6 : mm_rg i_23 0 10) (h7 : mm_rg i_24 0 99) (h8 : mm_rg i_25 0 9) (h9 : mm_rg i_26 0 3) (h10 : mm_rg i_27 0 6) (h11 : mm_rg i_28 0 30) (h12 : mm_rg i_29 0 10) (h13 : mm_rg i_30 0 99) (h14 : mm_rg i_31 0 9) (h15 : mm_rg i_32 0 3) (h16 : mm_rg i_33 0 6) (h17 : mm_rg i_34 0 30) (h18 : mm_rg i_35 0 10) (h19 : mm_rg i_36 0 99) (h20 : mm_rg i_37 0 9) (h21 : mm_rg i_38 0 3) (h22 : mm_rg i_39 0 6) (h23 : mm_rg i_40 0 30) (h24 : mm_rg i_41 0 10) (h25 : mm_rg i_42 0 99) (h26 : mm_rg i_43 0 9) (h27 : mm_rg i_44 0 3) (h28 : mm_rg i_45 0 6) (h29 : mm_rg i_46 0 30)  : mm_CI l yX12_isText (mm_ws yX12_isText cX12_isText 3 (some .boolean)) ({ frames := 1, cells := 0, slots := 0, locals := 25 } : Room) G cy sz [(a_0, .inr (12, [.int i_0, .ref a_1, .ref a_2, .ref a_3, .ref a_4, .ref a_5, .int i_1, .int i_2, .int i_3, .int i_4, .int i_5, .long j_1, .int i_6, .int i_7, .int i_8, .int i_9, .ref a_6, .ref a_7, .ref a_8, .ref a_9, .ref a_10, .ref a_11, .ref a_12, .ref a_13, .ref a_14, .ref a_15, .ref a_16, .ref a_17, .ref a_18, .int i_10, .int i_11, .int i_12, .int i_13, .int i_14, .int i_15, .ref a_19, .int i_16, .ref a_20])), (a_7, .inl (cy 1, 30, .inl (mm_g [i_17, i_18, i_19, i_20, i_21, i_22, i_23, i_24, i_25, i_26, i_27, i_28, i_29, i_30, i_31, i_32, i_33, i_34, i_35, i_36, i_37, i_38, i_39, i_40, i_41, i_42, i_43, i_44, i_45, i_46])))] [.ref a_0, .long j_0] (fun u : Unit => [(a_0, .inr (12, [.int i_0, .ref a_1, .ref a_2, .ref a_3, .ref a_4, .ref a_5, .int i_1, .int i_2, .int i_3, .int i_4, .int i_5, .long j_1, .int i_6, .int i_7, .int i_8, .int i_9, .ref a_6, .ref a_7, .ref a_8, .ref a_9, .ref a_10, .ref a_11, .ref a_12, .ref a_13, .ref a_14, .ref a_15, .ref a_16, .ref a_17, .ref a_18, .int i_10, .int i_11, .int i_12, .int i_13, .int i_14, .int i_15, .ref a_19, .int i_16, .ref a_20])), (a_7, .inl (cy 1, 30, .inl (mm_g [i_17, i_18, i_19, i_20, i_21, i_22, i_23, i_24, i_25, i_26, i_27, i_28, i_29, i_30, i_31, i_32, i_33, i_34, i_35, i_36, i_37, i_38, i_39, i_40, i_41, i_42, i_43, i_44, i_45, i_46])))]) (fun (r : Int32) (u : Unit) => ((0 = r) ∨ (1 = r ∧ mm_rl j_0 0 5 ∧ mm_tx j_0 i_21))) 0 0 := by
  refine mm_begin (lv := [(0, .ref a_0), (1, .long j_0)]) (by decide) (Nat.le_of_ble_eq_true rfl) rfl ?_
  intro p e s m below meth c A ls R args Q H locs hRe hQ hAe hx hb hr hlocks hml hown hnm hts hsz hA hS hP hK hD hZ hl
  have hRf : R.frames = 1 := by rw [hRe]
  have hRl : R.locals = 25 := by rw [hRe]
  have hRc : R.cells = 0 := by rw [hRe]
  have hRs : R.slots = 0 := by rw [hRe]
  refine lv_lload_n hx hb dX12_isText_0 rfl (lv_at hl 1 rfl) ?_
  refine lv_lconst (v := 0) hx hb dX12_isText_1 (by decide) ?_
  refine lv_aload_n hx hb dX12_isText_2 rfl (lv_at hl 0 rfl) ?_
  refine mm_finir (va_runV (As := []) (rest := [.long 0, .long j_0]) ⟨hx, hb, hml, hown, hts⟩ (M95_X12_texts l G cy H.size a_0 i_0 a_1 a_2 a_3 a_4 a_5 i_1 i_2 i_3 i_4 i_5 j_1 i_6 i_7 i_8 i_9 a_6 a_7 a_8 a_9 a_10 a_11 a_12 a_13 a_14 a_15 a_16 a_17 a_18 i_10 i_11 i_12 i_13 i_14 i_15 a_19 i_16 a_20 i_17 i_18 i_19 i_20 i_21 i_22 i_23 i_24 i_25 i_26 i_27 i_28 i_29 i_30 i_31 i_32 i_33 i_34 i_35 i_36 i_37 i_38 i_39 i_40 i_41 i_42 i_43 i_44 i_45 i_46 h0 h1 h2 h3 h4 h5 h6 h7 h8 h9 h10 h11 h12 h13 h14 h15 h16 h17 h18 h19 h20 h21 h22 h23 h24 h25 h26 h27 h28 h29) (cwV 0 hts (mm_gV mm_w617 mm_w618 mm_w619 mm_w5 mm_w620) rfl rfl rfl hd_X12_texts ⟨by rw [hRf]; exact Nat.le_of_ble_eq_true rfl, by rw [hRl]; exact Nat.le_of_ble_eq_true rfl⟩) (mm_preV hK hZ hS hA hP hD [0, 1] rfl rfl 0 rfl rfl rfl) rfl rfl hl.1 rfl (lv_room (Nat.le_of_ble_eq_true rfl)) dX12_isText_3 ⟨by rw [hRc]; exact Nat.le_of_ble_eq_true rfl, by rw [hRs]; exact Nat.le_of_ble_eq_true rfl⟩) hP hD hS hA [0, 1] rfl (fun _ => rfl) ?_
  clear hP hD hS
  clear H locs
  intro v1 _u H locs hw hP hD hS
  subst hw
  obtain ⟨v2, ev2⟩ : ∃ y : Int64, y = i_21.toInt64 := ⟨_, rfl⟩
  refine lv_i2l hx hb dX12_isText_6 ev2.symm ?_
  have rv2 : mm_rl v2 0 6 := mm_i2l ev2 h4
  refine lv_lconst (v := 1) hx hb dX12_isText_7 (by decide) ?_
  refine lv_lsub hx hb dX12_isText_8 ?_
  refine lv_topl (fun v3 ev3 => ?_)
  have rv3 : mm_rl v3 (-1) 5 := mm_subl ev3 rv2 mm_kl1 (by decide) (by decide)
  have tv3 := mm_sublEc ev3 rv2 mm_kl1 (by decide) (k := 1) (by decide)
  refine mm_finir (va_runS (As := [.long j_0, .long 0, .long v3]) (rest := []) ⟨hx, hb, hml, hown, hts⟩ (M7_X12_in l G cy H.size j_0 v3 ) (va_cwS 3 hts (mm_gS mm_w191 mm_w192 mm_w5 mm_w193) rfl rfl rfl hs_X12_in ⟨by rw [hRf]; exact Nat.le_of_ble_eq_true rfl, by rw [hRl]; exact Nat.le_of_ble_eq_true rfl⟩) (mm_preS hK hZ hS hA hP hD [] rfl rfl) rfl rfl hl.1 rfl (lv_room (Nat.le_of_ble_eq_true rfl)) dX12_isText_9 ⟨by rw [hRc]; exact Nat.le_of_ble_eq_true rfl, by rw [hRs]; exact Nat.le_of_ble_eq_true rfl⟩) hP hD hS hA [] rfl (fun _ => rfl) ?_
  clear hP hD hS
  clear H locs
  intro v4 _u H locs hw hP hD hS
  rcases hw with ⟨rfl, w5⟩ | ⟨rfl, w6, w7, w8, w9⟩
  · subst hAe
    rw [hQ]
    exact W.zret (v := 0) hx hb hr rfl (fun t ht hW => ⟨⟨0, (), rfl, (Or.inl rfl), by rw [ht]; exact hP, hK.warm hW, hD⟩, hS.F ht⟩) hS.2.2 dX12_isText_12
  · have q10 := mm_meetl (lo := 0) (hi := 5) w7 rv3 (by decide)
    have q11 := mm_leLl w8 w6 q10
    have w12 : mm_tx j_0 i_21 := (mm_tx_of w9 (by have := w8; have := (mm_i2lE ev2); have := tv3; omega))
    subst hAe
    rw [hQ]
    exact W.zret (v := 1) hx hb hr rfl (fun t ht hW => ⟨⟨1, (), rfl, (Or.inr ⟨rfl, q11, w12⟩), by rw [ht]; exact hP, hK.warm hW, hD⟩, hS.F ht⟩) hS.2.2 dX12_isText_12

set_option maxHeartbeats 4000000 in
set_option maxRecDepth 100000 in
theorem M97_X12_word (l : Launch) (G : va_G) (cy : Nat → ClassId) (sz : Nat) (a_0 : Nat) (i_0 : Int32) (i_1 : Int32) (i_2 : Int32) (a_1 : Nat) (a_2 : Nat) (a_3 : Nat) (a_4 : Nat) (a_5 : Nat) (i_3 : Int32) (i_4 : Int32) (i_5 : Int32) (i_6 : Int32) (i_7 : Int32) (j_0 : Int64) (i_8 : Int32) (i_9 : Int32) (i_10 : Int32) (i_11 : Int32) (a_6 : Nat) (a_7 : Nat) (a_8 : Nat) (a_9 : Nat) (a_10 : Nat) (a_11 : Nat) (a_12 : Nat) (a_13 : Nat) (a_14 : Nat) (a_15 : Nat) (a_16 : Nat) (a_17 : Nat) (a_18 : Nat) (i_12 : Int32) (i_13 : Int32) (i_14 : Int32) (i_15 : Int32) (i_16 : Int32) (i_17 : Int32) (a_19 : Nat) (i_18 : Int32) (a_20 : Nat) (i_19 : Int32) (i_20 : Int32) (i_21 : Int32) (i_22 : Int32) (i_23 : Int32) (i_24 : Int32) (i_25 : Int32) (i_26 : Int32) (i_27 : Int32) (i_28 : Int32) (i_29 : Int32) (i_30 : Int32) (i_31 : Int32) (i_32 : Int32) (i_33 : Int32) (i_34 : Int32) (i_35 : Int32) (i_36 : Int32) (i_37 : Int32) (i_38 : Int32) (i_39 : Int32) (i_40 : Int32) (i_41 : Int32) (i_42 : Int32) (i_43 : Int32) (i_44 : Int32) (i_45 : Int32) (i_46 : Int32) (i_47 : Int32) (i_48 : Int32) (f_0 : Nat → Int32) (f_1 : Nat → Int32) (h0 : mm_rg i_19 0 10) (h1 : mm_rg i_20 0 99) (h2 : mm_rg i_21 0 9) (h3 : mm_rg i_22 0 3) (h4 : mm_rg i_23 0 6) (h5 : mm_rg i_24 0 30) (h6 : mm_rg i_25 0 10) (h7 : mm_rg i_26 0 99) (h8 : mm_rg i_27 0 9) (h9 : mm_rg i_28 0 3) (h10 : mm_rg i_29 0 6) (h11 : mm_rg i_30 0 30) (h12 : mm_rg i_31 0 10) (h13 : mm_rg i_32 0 99) (h14 : mm_rg i_33 0 9) (h15 : mm_rg i_34 0 3) (h16 : mm_rg i_35 0 6) (h17 : mm_rg i_36 0 30) (h18 : mm_rg i_37 0 10) (h19 : mm_rg i_38 0 99) (h20 : mm_rg i_39 0 9) (h21 : mm_rg i_40 0 3) (h22 : mm_rg i_41 0 6) (h23 : mm_rg i_42 0 30) (h24 : mm_rg i_43 0 10) (h25 : mm_rg i_44 0 99) (h26 : mm_rg i_45 0 9) (h27 : mm_rg i_46 0 3) (h28 : mm_rg i_47 0 6) (h29 : mm_rg i_48 0 30) (h30 : mm_ar f_0 0 8) (h31 : mm_ar f_1 0 9) (h32 : mm_txs f_0 f_1 0 i_21 i_23) (h33 : mm_txs f_0 f_1 1 i_27 i_29) (h34 : mm_txs f_0 f_1 2 i_33 i_35) (h35 : mm_txs f_0 f_1 3 i_39 i_41)  : mm_CI l yX12_word (mm_ws yX12_word cX12_word 3 (some .int)) ({ frames := 2, cells := 0, slots := 0, locals := 47 } : Room) G cy sz [(a_0, .inr (12, [.int i_2, .ref a_1, .ref a_2, .ref a_3, .ref a_4, .ref a_5, .int i_3, .int i_4, .int i_5, .int i_6, .int i_7, .long j_0, .int i_8, .int i_9, .int i_10, .int i_11, .ref a_6, .ref a_7, .ref a_8, .ref a_9, .ref a_10, .ref a_11, .ref a_12, .ref a_13, .ref a_14, .ref a_15, .ref a_16, .ref a_17, .ref a_18, .int i_12, .int i_13, .int i_14, .int i_15, .int i_16, .int i_17, .ref a_19, .int i_18, .ref a_20])), (a_7, .inl (cy 1, 30, .inl (mm_g [i_19, i_20, i_21, i_22, i_23, i_24, i_25, i_26, i_27, i_28, i_29, i_30, i_31, i_32, i_33, i_34, i_35, i_36, i_37, i_38, i_39, i_40, i_41, i_42, i_43, i_44, i_45, i_46, i_47, i_48]))), (a_11, .inl (cy 1, 30, .inl f_0)), (a_12, .inl (cy 1, 240, .inl f_1))] [.ref a_0, .int i_0, .int i_1] (fun u : Unit => [(a_0, .inr (12, [.int 0, .ref a_1, .ref a_2, .ref a_3, .ref a_4, .ref a_5, .int i_3, .int i_4, .int i_5, .int i_6, .int i_7, .long j_0, .int i_8, .int i_9, .int i_10, .int i_11, .ref a_6, .ref a_7, .ref a_8, .ref a_9, .ref a_10, .ref a_11, .ref a_12, .ref a_13, .ref a_14, .ref a_15, .ref a_16, .ref a_17, .ref a_18, .int i_12, .int i_13, .int i_14, .int i_15, .int i_16, .int i_17, .ref a_19, .int i_18, .ref a_20])), (a_7, .inl (cy 1, 30, .inl (mm_g [i_19, i_20, i_21, i_22, i_23, i_24, i_25, i_26, i_27, i_28, i_29, i_30, i_31, i_32, i_33, i_34, i_35, i_36, i_37, i_38, i_39, i_40, i_41, i_42, i_43, i_44, i_45, i_46, i_47, i_48]))), (a_11, .inl (cy 1, 30, .inl f_0)), (a_12, .inl (cy 1, 240, .inl f_1))]) (fun (r : Int32) (u : Unit) => mm_rg r (-2) 9) 0 0 := by
  refine mm_begin (lv := [(0, .ref a_0), (1, .int i_0), (2, .int i_1)]) (by decide) (Nat.le_of_ble_eq_true rfl) rfl ?_
  intro p e s m below meth c A ls R args Q H locs hRe hQ hAe hx hb hr hlocks hml hown hnm hts hsz hA hS hP hK hD hZ hl
  have hRf : R.frames = 2 := by rw [hRe]
  have hRl : R.locals = 47 := by rw [hRe]
  have hRc : R.cells = 0 := by rw [hRe]
  have hRs : R.slots = 0 := by rw [hRe]
  refine lv_aload_n hx hb dX12_word_0 rfl (lv_at hl 0 rfl) ?_
  refine lv_iconst (v := 0) hx hb dX12_word_1 (by decide) ?_
  refine va_put (D := G) (ci := 12) (v := .int 0) (ty := tyX12 0) (C := RX12) (T := TX12) (N := 38) hx hb hts (mm_i inlX12) tyX12 tyX12_ok nmX12 hown hK.1 hP hD hS 0 rfl rfl 0 (by decide) (mm_h hts mm_w177) (fun _ h9 => h9) rfl (tyX12_ok 0 (by decide)) rfl rfl (Nat.le_of_ble_eq_true rfl) dX12_word_2 ?_
  clear hP hD hS
  clear H locs
  intro H locs (hP : va_P G vwCl [(a_0, .inr (12, [.int 0, .ref a_1, .ref a_2, .ref a_3, .ref a_4, .ref a_5, .int i_3, .int i_4, .int i_5, .int i_6, .int i_7, .long j_0, .int i_8, .int i_9, .int i_10, .int i_11, .ref a_6, .ref a_7, .ref a_8, .ref a_9, .ref a_10, .ref a_11, .ref a_12, .ref a_13, .ref a_14, .ref a_15, .ref a_16, .ref a_17, .ref a_18, .int i_12, .int i_13, .int i_14, .int i_15, .int i_16, .int i_17, .ref a_19, .int i_18, .ref a_20])), (a_7, .inl (cy 1, 30, .inl (mm_g [i_19, i_20, i_21, i_22, i_23, i_24, i_25, i_26, i_27, i_28, i_29, i_30, i_31, i_32, i_33, i_34, i_35, i_36, i_37, i_38, i_39, i_40, i_41, i_42, i_43, i_44, i_45, i_46, i_47, i_48]))), (a_11, .inl (cy 1, 30, .inl f_0)), (a_12, .inl (cy 1, 240, .inl f_1))] H) (hD : va_D A [(a_0, .inr (12, [.int 0, .ref a_1, .ref a_2, .ref a_3, .ref a_4, .ref a_5, .int i_3, .int i_4, .int i_5, .int i_6, .int i_7, .long j_0, .int i_8, .int i_9, .int i_10, .int i_11, .ref a_6, .ref a_7, .ref a_8, .ref a_9, .ref a_10, .ref a_11, .ref a_12, .ref a_13, .ref a_14, .ref a_15, .ref a_16, .ref a_17, .ref a_18, .int i_12, .int i_13, .int i_14, .int i_15, .int i_16, .int i_17, .ref a_19, .int i_18, .ref a_20])), (a_7, .inl (cy 1, 30, .inl (mm_g [i_19, i_20, i_21, i_22, i_23, i_24, i_25, i_26, i_27, i_28, i_29, i_30, i_31, i_32, i_33, i_34, i_35, i_36, i_37, i_38, i_39, i_40, i_41, i_42, i_43, i_44, i_45, i_46, i_47, i_48]))), (a_11, .inl (cy 1, 30, .inl f_0)), (a_12, .inl (cy 1, 240, .inl f_1))]) hS
  refine lv_aload_n hx hb dX12_word_5 rfl (lv_at hl 0 rfl) ?_
  refine lv_iload_n hx hb dX12_word_6 rfl (lv_at hl 1 rfl) ?_
  obtain ⟨v1, ev1⟩ : ∃ y : Int64, y = i_0.toInt64 := ⟨_, rfl⟩
  refine lv_i2l hx hb dX12_word_7 ev1.symm ?_
  have rv1 : mm_rl v1 (-2147483648) 2147483647 := mm_i2l ev1 (mm_top i_0)
  refine mm_finir (va_runV (As := [.long v1]) (rest := []) ⟨hx, hb, hml, hown, hts⟩ (M96_X12_isText l G cy H.size a_0 v1 0 a_1 a_2 a_3 a_4 a_5 i_3 i_4 i_5 i_6 i_7 j_0 i_8 i_9 i_10 i_11 a_6 a_7 a_8 a_9 a_10 a_11 a_12 a_13 a_14 a_15 a_16 a_17 a_18 i_12 i_13 i_14 i_15 i_16 i_17 a_19 i_18 a_20 i_19 i_20 i_21 i_22 i_23 i_24 i_25 i_26 i_27 i_28 i_29 i_30 i_31 i_32 i_33 i_34 i_35 i_36 i_37 i_38 i_39 i_40 i_41 i_42 i_43 i_44 i_45 i_46 i_47 i_48 h0 h1 h2 h3 h4 h5 h6 h7 h8 h9 h10 h11 h12 h13 h14 h15 h16 h17 h18 h19 h20 h21 h22 h23 h24 h25 h26 h27 h28 h29) (cwV 1 hts (mm_gV mm_w613 mm_w614 mm_w615 mm_w5 mm_w616) rfl rfl rfl hd_X12_isText ⟨by rw [hRf]; exact Nat.le_of_ble_eq_true rfl, by rw [hRl]; exact Nat.le_of_ble_eq_true rfl⟩) (mm_preV hK hZ hS hA hP hD [0, 1] rfl rfl 0 rfl rfl rfl) rfl rfl hl.1 rfl (lv_room (Nat.le_of_ble_eq_true rfl)) dX12_word_8 ⟨by rw [hRc]; exact Nat.le_of_ble_eq_true rfl, by rw [hRs]; exact Nat.le_of_ble_eq_true rfl⟩) hP hD hS hA [0, 1] rfl (fun _ => rfl) ?_
  clear hP hD hS
  clear H locs
  intro v2 _u H locs hw hP hD hS
  rcases hw with rfl | ⟨rfl, w3, w4⟩
  · refine lv_if_ne (tgt := 17) hx hb dX12_word_11 (by decide) (fun c5 => ?_) (fun c5 => ?_)
    · exact absurd rfl (mm_ne c5)
    · refine lv_bipush (v := (-2)) hx hb dX12_word_14 (by decide) ?_
      subst hAe
      rw [hQ]
      exact W.iret (v := (-2)) hx hb hr (fun t ht hW => ⟨⟨(-2), (), rfl, (mm_wk mm_km2 (by decide)), by rw [ht]; exact hP, hK.warm hW, hD⟩, hS.F ht⟩) hS.2.2 dX12_word_16
  · have q6 := mm_meet (lo := 0) (hi := 5) (mm_l2x ev1 w3) (mm_top i_0) (by decide)
    have w7 := mm_tx_lt w4 (mm_i2lE ev1)
    have q8 := mm_ltR (lo := 1) w7 q6 h4 (by decide)
    refine lv_if_ne (tgt := 17) hx hb dX12_word_11 (by decide) (fun c9 => ?_) (fun c9 => ?_)
    · refine lv_iload_n hx hb dX12_word_17 rfl (lv_at hl 2 rfl) ?_
      obtain ⟨v10, ev10⟩ : ∃ y : Int64, y = i_1.toInt64 := ⟨_, rfl⟩
      refine lv_i2l hx hb dX12_word_18 ev10.symm ?_
      have rv10 : mm_rl v10 (-2147483648) 2147483647 := mm_i2l ev10 (mm_top i_1)
      refine lv_lconst (v := 0) hx hb dX12_word_19 (by decide) ?_
      refine lv_aload_n hx hb dX12_word_20 rfl (lv_at hl 0 rfl) ?_
      refine va_get (D := G) (ci := 12) (v := .ref a_11) (C := RX12) (T := TX12) (N := 38) hx hb hts (mm_i inlX12) hown hK.1 hP 0 rfl rfl 21 (by decide) (mm_h hts mm_w153) (fun _ h9 => h9) rfl dX12_word_21 ?_
      refine lv_iload_n hx hb dX12_word_24 rfl (lv_at hl 1 rfl) ?_
      refine va_iald hx hb hK.1 hP 2 1 rfl rfl (mm_in q6 (by decide)) dX12_word_25 ?_
      refine lv_topi (fun v11 ev11 => ?_)
      have rv11 : mm_rg v11 0 8 := mm_eqv ev11 (h30 _)
      obtain ⟨v12, ev12⟩ : ∃ y : Int64, y = v11.toInt64 := ⟨_, rfl⟩
      refine lv_i2l hx hb dX12_word_26 ev12.symm ?_
      have rv12 : mm_rl v12 0 8 := mm_i2l ev12 rv11
      refine lv_lconst (v := 1) hx hb dX12_word_27 (by decide) ?_
      refine lv_lsub hx hb dX12_word_28 ?_
      refine lv_topl (fun v13 ev13 => ?_)
      have rv13 : mm_rl v13 (-1) 7 := mm_subl ev13 rv12 mm_kl1 (by decide) (by decide)
      have tv13 := mm_sublEc ev13 rv12 mm_kl1 (by decide) (k := 1) (by decide)
      refine mm_finir (va_runS (As := [.long v10, .long 0, .long v13]) (rest := []) ⟨hx, hb, hml, hown, hts⟩ (M7_X12_in l G cy H.size v10 v13 ) (va_cwS 3 hts (mm_gS mm_w191 mm_w192 mm_w5 mm_w193) rfl rfl rfl hs_X12_in ⟨by rw [hRf]; exact Nat.le_of_ble_eq_true rfl, by rw [hRl]; exact Nat.le_of_ble_eq_true rfl⟩) (mm_preS hK hZ hS hA hP hD [] rfl rfl) rfl rfl hl.1 rfl (lv_room (Nat.le_of_ble_eq_true rfl)) dX12_word_29 ⟨by rw [hRc]; exact Nat.le_of_ble_eq_true rfl, by rw [hRs]; exact Nat.le_of_ble_eq_true rfl⟩) hP hD hS hA [] rfl (fun _ => rfl) ?_
      clear hP hD hS
      clear H locs
      intro v14 _u H locs hw hP hD hS
      rcases hw with ⟨rfl, w15⟩ | ⟨rfl, w16, w17, w18, w19⟩
      · refine lv_if_eq (tgt := 49) hx hb dX12_word_32 (by decide) (fun c20 => ?_) (fun c20 => ?_)
        · refine lv_iconst (v := (-1)) hx hb dX12_word_49 (by decide) ?_
          subst hAe
          rw [hQ]
          exact W.iret (v := (-1)) hx hb hr (fun t ht hW => ⟨⟨(-1), (), rfl, (mm_wk mm_km1 (by decide)), by rw [ht]; exact hP, hK.warm hW, hD⟩, hS.F ht⟩) hS.2.2 dX12_word_50
        · exact absurd rfl (mm_ne c20)
      · have q21 := mm_meetl (lo := 0) (hi := 2147483647) w16 rv10 (by decide)
        have q22 := mm_meet (lo := 0) (hi := 2147483647) (mm_l2x ev10 q21) (mm_top i_1) (by decide)
        have q23 := mm_meetl (lo := 0) (hi := 7) w17 rv13 (by decide)
        have q24 := mm_leLl w18 q21 q23
        have q25 := mm_meet (lo := 0) (hi := 7) (mm_l2x ev10 q24) q22 (by decide)
        have w26 : (i_1 : Int32).toInt < (v11 : Int32).toInt := by have := (mm_i2lE ev10); have := (mm_i2lE ev12); have := tv13; have := w18; omega
        have q27 := mm_ltR (lo := 1) w26 q25 rv11 (by decide)
        refine lv_if_eq (tgt := 49) hx hb dX12_word_32 (by decide) (fun c28 => ?_) (fun c28 => ?_)
        · exact mm_eqN c28.symm mm_k0 mm_k1 (by decide)
        · refine lv_aload_n hx hb dX12_word_35 rfl (lv_at hl 0 rfl) ?_
          refine va_get (D := G) (ci := 12) (v := .ref a_12) (C := RX12) (T := TX12) (N := 38) hx hb hts (mm_i inlX12) hown hK.1 hP 0 rfl rfl 22 (by decide) (mm_h hts mm_w154) (fun _ h9 => h9) rfl dX12_word_36 ?_
          refine lv_bipush (v := 8) hx hb dX12_word_39 (by decide) ?_
          refine lv_iload_n hx hb dX12_word_41 rfl (lv_at hl 1 rfl) ?_
          refine lv_imul hx hb dX12_word_42 ?_
          refine lv_topi (fun v29 ev29 => ?_)
          have rv29 : mm_rg v29 0 40 := mm_mul ev29 mm_k8 q6 (by decide) (by decide)
          have tv29 := mm_mulEc ev29 mm_k8 q6 (by decide) (k := 8) (by decide)
          refine lv_iload_n hx hb dX12_word_43 rfl (lv_at hl 2 rfl) ?_
          refine lv_iadd hx hb dX12_word_44 ?_
          refine lv_topi (fun v30 ev30 => ?_)
          have rv30 : mm_rg v30 0 47 := mm_add ev30 rv29 q25 (by decide) (by decide)
          have tv30 := mm_addE ev30 rv29 q25 (by decide)
          refine va_iald hx hb hK.1 hP 3 1 rfl rfl (mm_in rv30 (by decide)) dX12_word_45 ?_
          refine lv_topi (fun v31 ev31 => ?_)
          have rv31 : mm_rg v31 0 9 := mm_eqv ev31 (h31 _)
          refine lv_goto (tgt := 50) hx hb dX12_word_46 (by decide) ?_
          subst hAe
          rw [hQ]
          exact W.iret (v := v31) hx hb hr (fun t ht hW => ⟨⟨v31, (), rfl, (mm_wk rv31 (by decide)), by rw [ht]; exact hP, hK.warm hW, hD⟩, hS.F ht⟩) hS.2.2 dX12_word_50
    · exact mm_eqN c9.symm mm_k0 mm_k1 (by decide)

set_option maxHeartbeats 4000000 in
set_option maxRecDepth 100000 in
theorem M98_X12_isLand (l : Launch) (G : va_G) (cy : Nat → ClassId) (sz : Nat) (a_0 : Nat) (i_0 : Int32) (i_1 : Int32) (a_1 : Nat) (a_2 : Nat) (a_3 : Nat) (a_4 : Nat) (a_5 : Nat) (i_2 : Int32) (i_3 : Int32) (i_4 : Int32) (i_5 : Int32) (i_6 : Int32) (j_0 : Int64) (i_7 : Int32) (i_8 : Int32) (i_9 : Int32) (i_10 : Int32) (a_6 : Nat) (a_7 : Nat) (a_8 : Nat) (a_9 : Nat) (a_10 : Nat) (a_11 : Nat) (a_12 : Nat) (a_13 : Nat) (a_14 : Nat) (a_15 : Nat) (a_16 : Nat) (a_17 : Nat) (a_18 : Nat) (i_11 : Int32) (i_12 : Int32) (i_13 : Int32) (i_14 : Int32) (i_15 : Int32) (i_16 : Int32) (a_19 : Nat) (i_17 : Int32) (a_20 : Nat) (i_18 : Int32) (i_19 : Int32) (i_20 : Int32) (i_21 : Int32) (i_22 : Int32) (i_23 : Int32) (i_24 : Int32) (i_25 : Int32) (i_26 : Int32) (i_27 : Int32) (i_28 : Int32) (i_29 : Int32) (i_30 : Int32) (i_31 : Int32) (i_32 : Int32) (i_33 : Int32) (i_34 : Int32) (i_35 : Int32) (i_36 : Int32) (i_37 : Int32) (i_38 : Int32) (i_39 : Int32) (i_40 : Int32) (i_41 : Int32) (i_42 : Int32) (i_43 : Int32) (i_44 : Int32) (i_45 : Int32) (i_46 : Int32) (i_47 : Int32) (h0 : mm_rg i_18 0 10) (h1 : mm_rg i_19 0 99) (h2 : mm_rg i_20 0 9) (h3 : mm_rg i_21 0 3) (h4 : mm_rg i_22 0 6) (h5 : mm_rg i_23 0 30) (h6 : mm_rg i_24 0 10) (h7 : mm_rg i_25 0 99) (h8 : mm_rg i_26 0 9) (h9 : mm_rg i_27 0 3) (h10 : mm_rg i_28 0 6) (h11 : mm_rg i_29 0 30) (h12 : mm_rg i_30 0 10) (h13 : mm_rg i_31 0 99) (h14 : mm_rg i_32 0 9) (h15 : mm_rg i_33 0 3) (h16 : mm_rg i_34 0 6) (h17 : mm_rg i_35 0 30) (h18 : mm_rg i_36 0 10) (h19 : mm_rg i_37 0 99) (h20 : mm_rg i_38 0 9) (h21 : mm_rg i_39 0 3) (h22 : mm_rg i_40 0 6) (h23 : mm_rg i_41 0 30) (h24 : mm_rg i_42 0 10) (h25 : mm_rg i_43 0 99) (h26 : mm_rg i_44 0 9) (h27 : mm_rg i_45 0 3) (h28 : mm_rg i_46 0 6) (h29 : mm_rg i_47 0 30)  : mm_CI l yX12_isLand (mm_ws yX12_isLand cX12_isLand 2 (some .boolean)) ({ frames := 1, cells := 0, slots := 0, locals := 25 } : Room) G cy sz [(a_0, .inr (12, [.int i_1, .ref a_1, .ref a_2, .ref a_3, .ref a_4, .ref a_5, .int i_2, .int i_3, .int i_4, .int i_5, .int i_6, .long j_0, .int i_7, .int i_8, .int i_9, .int i_10, .ref a_6, .ref a_7, .ref a_8, .ref a_9, .ref a_10, .ref a_11, .ref a_12, .ref a_13, .ref a_14, .ref a_15, .ref a_16, .ref a_17, .ref a_18, .int i_11, .int i_12, .int i_13, .int i_14, .int i_15, .int i_16, .ref a_19, .int i_17, .ref a_20])), (a_7, .inl (cy 1, 30, .inl (mm_g [i_18, i_19, i_20, i_21, i_22, i_23, i_24, i_25, i_26, i_27, i_28, i_29, i_30, i_31, i_32, i_33, i_34, i_35, i_36, i_37, i_38, i_39, i_40, i_41, i_42, i_43, i_44, i_45, i_46, i_47])))] [.ref a_0, .int i_0] (fun u : Unit => [(a_0, .inr (12, [.int i_1, .ref a_1, .ref a_2, .ref a_3, .ref a_4, .ref a_5, .int i_2, .int i_3, .int i_4, .int i_5, .int i_6, .long j_0, .int i_7, .int i_8, .int i_9, .int i_10, .ref a_6, .ref a_7, .ref a_8, .ref a_9, .ref a_10, .ref a_11, .ref a_12, .ref a_13, .ref a_14, .ref a_15, .ref a_16, .ref a_17, .ref a_18, .int i_11, .int i_12, .int i_13, .int i_14, .int i_15, .int i_16, .ref a_19, .int i_17, .ref a_20])), (a_7, .inl (cy 1, 30, .inl (mm_g [i_18, i_19, i_20, i_21, i_22, i_23, i_24, i_25, i_26, i_27, i_28, i_29, i_30, i_31, i_32, i_33, i_34, i_35, i_36, i_37, i_38, i_39, i_40, i_41, i_42, i_43, i_44, i_45, i_46, i_47])))]) (fun (r : Int32) (u : Unit) => ((0 = r) ∨ (1 = r ∧ mm_rg i_0 0 2 ∧ (i_0 : Int32).toInt < (i_21 : Int32).toInt))) 0 0 := by
  refine mm_begin (lv := [(0, .ref a_0), (1, .int i_0)]) (by decide) (Nat.le_of_ble_eq_true rfl) rfl ?_
  intro p e s m below meth c A ls R args Q H locs hRe hQ hAe hx hb hr hlocks hml hown hnm hts hsz hA hS hP hK hD hZ hl
  have hRf : R.frames = 1 := by rw [hRe]
  have hRl : R.locals = 25 := by rw [hRe]
  have hRc : R.cells = 0 := by rw [hRe]
  have hRs : R.slots = 0 := by rw [hRe]
  refine lv_iload_n hx hb dX12_isLand_0 rfl (lv_at hl 1 rfl) ?_
  obtain ⟨v1, ev1⟩ : ∃ y : Int64, y = i_0.toInt64 := ⟨_, rfl⟩
  refine lv_i2l hx hb dX12_isLand_1 ev1.symm ?_
  have rv1 : mm_rl v1 (-2147483648) 2147483647 := mm_i2l ev1 (mm_top i_0)
  refine lv_lconst (v := 0) hx hb dX12_isLand_2 (by decide) ?_
  refine lv_aload_n hx hb dX12_isLand_3 rfl (lv_at hl 0 rfl) ?_
  refine va_get (D := G) (ci := 12) (v := .ref a_7) (C := RX12) (T := TX12) (N := 38) hx hb hts (mm_i inlX12) hown hK.1 hP 0 rfl rfl 17 (by decide) (mm_h hts mm_w149) (fun _ h9 => h9) rfl dX12_isLand_4 ?_
  refine lv_iconst (v := 3) hx hb dX12_isLand_7 (by decide) ?_
  refine va_iald hx hb hK.1 hP 1 1 rfl rfl (mm_in mm_k3 (by decide)) dX12_isLand_8 ?_
  rw [show (mm_g [i_18, i_19, i_20, i_21, i_22, i_23, i_24, i_25, i_26, i_27, i_28, i_29, i_30, i_31, i_32, i_33, i_34, i_35, i_36, i_37, i_38, i_39, i_40, i_41, i_42, i_43, i_44, i_45, i_46, i_47]) (3 : Int32).toNatClampNeg = i_21 from mm_ge 3 (by decide) rfl]
  obtain ⟨v2, ev2⟩ : ∃ y : Int64, y = i_21.toInt64 := ⟨_, rfl⟩
  refine lv_i2l hx hb dX12_isLand_9 ev2.symm ?_
  have rv2 : mm_rl v2 0 3 := mm_i2l ev2 h3
  refine lv_lconst (v := 1) hx hb dX12_isLand_10 (by decide) ?_
  refine lv_lsub hx hb dX12_isLand_11 ?_
  refine lv_topl (fun v3 ev3 => ?_)
  have rv3 : mm_rl v3 (-1) 2 := mm_subl ev3 rv2 mm_kl1 (by decide) (by decide)
  have tv3 := mm_sublEc ev3 rv2 mm_kl1 (by decide) (k := 1) (by decide)
  refine mm_finir (va_runS (As := [.long v1, .long 0, .long v3]) (rest := []) ⟨hx, hb, hml, hown, hts⟩ (M7_X12_in l G cy H.size v1 v3 ) (va_cwS 3 hts (mm_gS mm_w191 mm_w192 mm_w5 mm_w193) rfl rfl rfl hs_X12_in ⟨by rw [hRf]; exact Nat.le_of_ble_eq_true rfl, by rw [hRl]; exact Nat.le_of_ble_eq_true rfl⟩) (mm_preS hK hZ hS hA hP hD [] rfl rfl) rfl rfl hl.1 rfl (lv_room (Nat.le_of_ble_eq_true rfl)) dX12_isLand_12 ⟨by rw [hRc]; exact Nat.le_of_ble_eq_true rfl, by rw [hRs]; exact Nat.le_of_ble_eq_true rfl⟩) hP hD hS hA [] rfl (fun _ => rfl) ?_
  clear hP hD hS
  clear H locs
  intro v4 _u H locs hw hP hD hS
  rcases hw with ⟨rfl, w5⟩ | ⟨rfl, w6, w7, w8, w9⟩
  · subst hAe
    rw [hQ]
    exact W.zret (v := 0) hx hb hr rfl (fun t ht hW => ⟨⟨0, (), rfl, (Or.inl rfl), by rw [ht]; exact hP, hK.warm hW, hD⟩, hS.F ht⟩) hS.2.2 dX12_isLand_15
  · have q10 := mm_meetl (lo := 0) (hi := 2147483647) w6 rv1 (by decide)
    have q11 := mm_meet (lo := 0) (hi := 2147483647) (mm_l2x ev1 q10) (mm_top i_0) (by decide)
    have q12 := mm_meetl (lo := 0) (hi := 2) w7 rv3 (by decide)
    have q13 := mm_leLl w8 q10 q12
    have q14 := mm_meet (lo := 0) (hi := 2) (mm_l2x ev1 q13) q11 (by decide)
    have w15 : (i_0 : Int32).toInt < (i_21 : Int32).toInt := by have := (mm_i2lE ev1); have := (mm_i2lE ev2); have := tv3; have := w8; omega
    have q16 := mm_ltR (lo := 1) w15 q14 h3 (by decide)
    subst hAe
    rw [hQ]
    exact W.zret (v := 1) hx hb hr rfl (fun t ht hW => ⟨⟨1, (), rfl, (Or.inr ⟨rfl, q14, w15⟩), by rw [ht]; exact hP, hK.warm hW, hD⟩, hS.F ht⟩) hS.2.2 dX12_isLand_15

set_option maxHeartbeats 4000000 in
set_option maxRecDepth 100000 in
theorem M99_X12_isBook (l : Launch) (G : va_G) (cy : Nat → ClassId) (sz : Nat) (a_0 : Nat) (i_0 : Int32) (a_1 : Nat) (a_2 : Nat) (a_3 : Nat) (a_4 : Nat) (a_5 : Nat) (i_1 : Int32) (i_2 : Int32) (i_3 : Int32) (i_4 : Int32) (i_5 : Int32) (j_0 : Int64) (i_6 : Int32) (i_7 : Int32) (i_8 : Int32) (i_9 : Int32) (a_6 : Nat) (a_7 : Nat) (a_8 : Nat) (a_9 : Nat) (a_10 : Nat) (a_11 : Nat) (a_12 : Nat) (a_13 : Nat) (a_14 : Nat) (a_15 : Nat) (a_16 : Nat) (a_17 : Nat) (a_18 : Nat) (i_10 : Int32) (i_11 : Int32) (i_12 : Int32) (i_13 : Int32) (i_14 : Int32) (i_15 : Int32) (a_19 : Nat) (i_16 : Int32) (a_20 : Nat) (i_17 : Int32) (i_18 : Int32) (i_19 : Int32) (i_20 : Int32) (i_21 : Int32) (h0 : mm_rg i_17 1 601) (h1 : mm_rg i_18 0 601) (h2 : mm_rg i_19 0 601) (h3 : mm_rg i_20 0 601) (h4 : mm_rg i_21 0 601)  : mm_CI l yX12_isBook (mm_ws yX12_isBook cX12_isBook 1 (some .boolean)) ({ frames := 0, cells := 0, slots := 0, locals := 0 } : Room) G cy sz [(a_0, .inr (12, [.int i_0, .ref a_1, .ref a_2, .ref a_3, .ref a_4, .ref a_5, .int i_1, .int i_2, .int i_3, .int i_4, .int i_5, .long j_0, .int i_6, .int i_7, .int i_8, .int i_9, .ref a_6, .ref a_7, .ref a_8, .ref a_9, .ref a_10, .ref a_11, .ref a_12, .ref a_13, .ref a_14, .ref a_15, .ref a_16, .ref a_17, .ref a_18, .int i_10, .int i_11, .int i_12, .int i_13, .int i_14, .int i_15, .ref a_19, .int i_16, .ref a_20])), (a_6, .inl (cy 1, 5, .inl (mm_g [i_17, i_18, i_19, i_20, i_21])))] [.ref a_0] (fun u : Unit => [(a_0, .inr (12, [.int i_0, .ref a_1, .ref a_2, .ref a_3, .ref a_4, .ref a_5, .int i_1, .int i_2, .int i_3, .int i_4, .int i_5, .long j_0, .int i_6, .int i_7, .int i_8, .int i_9, .ref a_6, .ref a_7, .ref a_8, .ref a_9, .ref a_10, .ref a_11, .ref a_12, .ref a_13, .ref a_14, .ref a_15, .ref a_16, .ref a_17, .ref a_18, .int i_10, .int i_11, .int i_12, .int i_13, .int i_14, .int i_15, .ref a_19, .int i_16, .ref a_20])), (a_6, .inl (cy 1, 5, .inl (mm_g [i_17, i_18, i_19, i_20, i_21])))]) (fun (r : Int32) (u : Unit) => 1 = r) 0 0 := by
  refine mm_begin (lv := [(0, .ref a_0)]) (by decide) (Nat.le_of_ble_eq_true rfl) rfl ?_
  intro p e s m below meth c A ls R args Q H locs hRe hQ hAe hx hb hr hlocks hml hown hnm hts hsz hA hS hP hK hD hZ hl
  have hRf : R.frames = 0 := by rw [hRe]
  have hRl : R.locals = 0 := by rw [hRe]
  have hRc : R.cells = 0 := by rw [hRe]
  have hRs : R.slots = 0 := by rw [hRe]
  refine lv_aload_n hx hb dX12_isBook_0 rfl (lv_at hl 0 rfl) ?_
  refine va_get (D := G) (ci := 12) (v := .ref a_6) (C := RX12) (T := TX12) (N := 38) hx hb hts (mm_i inlX12) hown hK.1 hP 0 rfl rfl 16 (by decide) (mm_h hts mm_w148) (fun _ h9 => h9) rfl dX12_isBook_1 ?_
  refine lv_iconst (v := 0) hx hb dX12_isBook_4 (by decide) ?_
  refine va_iald hx hb hK.1 hP 1 1 rfl rfl (mm_in mm_k0 (by decide)) dX12_isBook_5 ?_
  rw [show (mm_g [i_17, i_18, i_19, i_20, i_21]) (0 : Int32).toNatClampNeg = i_17 from mm_ge 0 (by decide) rfl]
  refine lv_if_le (tgt := 13) hx hb dX12_isBook_6 (by decide) (fun c1 => ?_) (fun c1 => ?_)
  · have q2 := mm_leL (mm_le c1) h0 mm_k0
    exact mm_no q2 (by decide)
  · refine lv_iconst (v := 1) hx hb dX12_isBook_9 (by decide) ?_
    refine lv_goto (tgt := 14) hx hb dX12_isBook_10 (by decide) ?_
    subst hAe
    rw [hQ]
    exact W.zret (v := 1) hx hb hr rfl (fun t ht hW => ⟨⟨1, (), rfl, rfl, by rw [ht]; exact hP, hK.warm hW, hD⟩, hS.F ht⟩) hS.2.2 dX12_isBook_14

set_option maxHeartbeats 4000000 in
set_option maxRecDepth 100000 in
theorem M100_X12_words (l : Launch) (G : va_G) (cy : Nat → ClassId) (sz : Nat) (a_0 : Nat) (i_0 : Int32) (a_1 : Nat) (a_2 : Nat) (a_3 : Nat) (a_4 : Nat) (a_5 : Nat) (i_1 : Int32) (i_2 : Int32) (i_3 : Int32) (i_4 : Int32) (i_5 : Int32) (j_0 : Int64) (i_6 : Int32) (i_7 : Int32) (i_8 : Int32) (i_9 : Int32) (a_6 : Nat) (a_7 : Nat) (a_8 : Nat) (a_9 : Nat) (a_10 : Nat) (a_11 : Nat) (a_12 : Nat) (a_13 : Nat) (a_14 : Nat) (a_15 : Nat) (a_16 : Nat) (a_17 : Nat) (a_18 : Nat) (i_10 : Int32) (i_11 : Int32) (i_12 : Int32) (i_13 : Int32) (i_14 : Int32) (i_15 : Int32) (a_19 : Nat) (i_16 : Int32) (a_20 : Nat) (i_17 : Int32) (i_18 : Int32) (i_19 : Int32) (i_20 : Int32) (i_21 : Int32) (i_22 : Int32) (i_23 : Int32) (i_24 : Int32) (i_25 : Int32) (i_26 : Int32) (i_27 : Int32) (i_28 : Int32) (i_29 : Int32) (i_30 : Int32) (i_31 : Int32) (i_32 : Int32) (i_33 : Int32) (i_34 : Int32) (i_35 : Int32) (i_36 : Int32) (i_37 : Int32) (i_38 : Int32) (i_39 : Int32) (i_40 : Int32) (i_41 : Int32) (i_42 : Int32) (i_43 : Int32) (i_44 : Int32) (i_45 : Int32) (i_46 : Int32) (i_47 : Int32) (i_48 : Int32) (i_49 : Int32) (i_50 : Int32) (i_51 : Int32) (h0 : mm_rg i_17 1 601) (h1 : mm_rg i_18 0 601) (h2 : mm_rg i_19 0 601) (h3 : mm_rg i_20 0 601) (h4 : mm_rg i_21 0 601) (h5 : mm_rg i_22 0 10) (h6 : mm_rg i_23 0 99) (h7 : mm_rg i_24 0 9) (h8 : mm_rg i_25 0 3) (h9 : mm_rg i_26 0 6) (h10 : mm_rg i_27 0 30) (h11 : mm_rg i_28 0 10) (h12 : mm_rg i_29 0 99) (h13 : mm_rg i_30 0 9) (h14 : mm_rg i_31 0 3) (h15 : mm_rg i_32 0 6) (h16 : mm_rg i_33 0 30) (h17 : mm_rg i_34 0 10) (h18 : mm_rg i_35 0 99) (h19 : mm_rg i_36 0 9) (h20 : mm_rg i_37 0 3) (h21 : mm_rg i_38 0 6) (h22 : mm_rg i_39 0 30) (h23 : mm_rg i_40 0 10) (h24 : mm_rg i_41 0 99) (h25 : mm_rg i_42 0 9) (h26 : mm_rg i_43 0 3) (h27 : mm_rg i_44 0 6) (h28 : mm_rg i_45 0 30) (h29 : mm_rg i_46 0 10) (h30 : mm_rg i_47 0 99) (h31 : mm_rg i_48 0 9) (h32 : mm_rg i_49 0 3) (h33 : mm_rg i_50 0 6) (h34 : mm_rg i_51 0 30) (h35 : mm_tl i_17 i_25 i_26) (h36 : mm_tl i_18 i_31 i_32) (h37 : mm_tl i_19 i_37 i_38) (h38 : mm_tl i_20 i_43 i_44)  : mm_CI l yX12_words (mm_ws yX12_words cX12_words 1 (some .int)) ({ frames := 1, cells := 0, slots := 0, locals := 20 } : Room) G cy sz [(a_0, .inr (12, [.int i_0, .ref a_1, .ref a_2, .ref a_3, .ref a_4, .ref a_5, .int i_1, .int i_2, .int i_3, .int i_4, .int i_5, .long j_0, .int i_6, .int i_7, .int i_8, .int i_9, .ref a_6, .ref a_7, .ref a_8, .ref a_9, .ref a_10, .ref a_11, .ref a_12, .ref a_13, .ref a_14, .ref a_15, .ref a_16, .ref a_17, .ref a_18, .int i_10, .int i_11, .int i_12, .int i_13, .int i_14, .int i_15, .ref a_19, .int i_16, .ref a_20])), (a_6, .inl (cy 1, 5, .inl (mm_g [i_17, i_18, i_19, i_20, i_21]))), (a_7, .inl (cy 1, 30, .inl (mm_g [i_22, i_23, i_24, i_25, i_26, i_27, i_28, i_29, i_30, i_31, i_32, i_33, i_34, i_35, i_36, i_37, i_38, i_39, i_40, i_41, i_42, i_43, i_44, i_45, i_46, i_47, i_48, i_49, i_50, i_51])))] [.ref a_0] (fun u : Unit => [(a_0, .inr (12, [.int i_0, .ref a_1, .ref a_2, .ref a_3, .ref a_4, .ref a_5, .int i_1, .int i_2, .int i_3, .int i_4, .int i_5, .long j_0, .int i_6, .int i_7, .int i_8, .int i_9, .ref a_6, .ref a_7, .ref a_8, .ref a_9, .ref a_10, .ref a_11, .ref a_12, .ref a_13, .ref a_14, .ref a_15, .ref a_16, .ref a_17, .ref a_18, .int i_10, .int i_11, .int i_12, .int i_13, .int i_14, .int i_15, .ref a_19, .int i_16, .ref a_20])), (a_6, .inl (cy 1, 5, .inl (mm_g [i_17, i_18, i_19, i_20, i_21]))), (a_7, .inl (cy 1, 30, .inl (mm_g [i_22, i_23, i_24, i_25, i_26, i_27, i_28, i_29, i_30, i_31, i_32, i_33, i_34, i_35, i_36, i_37, i_38, i_39, i_40, i_41, i_42, i_43, i_44, i_45, i_46, i_47, i_48, i_49, i_50, i_51])))]) (fun (r : Int32) (u : Unit) => mm_rg r 1 10 ∧ mm_pls1 i_24 r) 0 0 := by
  refine mm_begin (lv := [(0, .ref a_0)]) (by decide) (Nat.le_of_ble_eq_true rfl) rfl ?_
  intro p e s m below meth c A ls R args Q H locs hRe hQ hAe hx hb hr hlocks hml hown hnm hts hsz hA hS hP hK hD hZ hl
  have hRf : R.frames = 1 := by rw [hRe]
  have hRl : R.locals = 20 := by rw [hRe]
  have hRc : R.cells = 0 := by rw [hRe]
  have hRs : R.slots = 0 := by rw [hRe]
  refine lv_aload_n hx hb dX12_words_0 rfl (lv_at hl 0 rfl) ?_
  refine mm_finir (va_runV (As := []) (rest := []) ⟨hx, hb, hml, hown, hts⟩ (M99_X12_isBook l G cy H.size a_0 i_0 a_1 a_2 a_3 a_4 a_5 i_1 i_2 i_3 i_4 i_5 j_0 i_6 i_7 i_8 i_9 a_6 a_7 a_8 a_9 a_10 a_11 a_12 a_13 a_14 a_15 a_16 a_17 a_18 i_10 i_11 i_12 i_13 i_14 i_15 a_19 i_16 a_20 i_17 i_18 i_19 i_20 i_21 h0 h1 h2 h3 h4) (cwV 0 hts (mm_gV mm_w653 mm_w654 mm_w655 mm_w5 mm_w656) rfl rfl rfl hd_X12_isBook ⟨by rw [hRf]; exact Nat.le_of_ble_eq_true rfl, by rw [hRl]; exact Nat.le_of_ble_eq_true rfl⟩) (mm_preV hK hZ hS hA hP hD [0, 1] rfl rfl 0 rfl rfl rfl) rfl rfl hl.1 rfl (lv_room (Nat.le_of_ble_eq_true rfl)) dX12_words_1 ⟨by rw [hRc]; exact Nat.le_of_ble_eq_true rfl, by rw [hRs]; exact Nat.le_of_ble_eq_true rfl⟩) hP hD hS hA [0, 1] rfl (fun _ => rfl) ?_
  clear hP hD hS
  clear H locs
  intro v1 _u H locs hw hP hD hS
  subst hw
  refine lv_if_eq (tgt := 16) hx hb dX12_words_4 (by decide) (fun c2 => ?_) (fun c2 => ?_)
  · exact mm_eqN c2.symm mm_k0 mm_k1 (by decide)
  · refine lv_aload_n hx hb dX12_words_7 rfl (lv_at hl 0 rfl) ?_
    refine mm_finir (va_runV (As := []) (rest := []) ⟨hx, hb, hml, hown, hts⟩ (M92_X12_senses l G cy H.size a_0 i_0 a_1 a_2 a_3 a_4 a_5 i_1 i_2 i_3 i_4 i_5 j_0 i_6 i_7 i_8 i_9 a_6 a_7 a_8 a_9 a_10 a_11 a_12 a_13 a_14 a_15 a_16 a_17 a_18 i_10 i_11 i_12 i_13 i_14 i_15 a_19 i_16 a_20 i_22 i_23 i_24 i_25 i_26 i_27 i_28 i_29 i_30 i_31 i_32 i_33 i_34 i_35 i_36 i_37 i_38 i_39 i_40 i_41 i_42 i_43 i_44 i_45 i_46 i_47 i_48 i_49 i_50 i_51 h5 h6 h7 h8 h9 h10 h11 h12 h13 h14 h15 h16 h17 h18 h19 h20 h21 h22 h23 h24 h25 h26 h27 h28 h29 h30 h31 h32 h33 h34) (cwV 0 hts (mm_gV mm_w588 mm_w589 mm_w590 mm_w5 mm_w591) rfl rfl rfl hd_X12_senses ⟨by rw [hRf]; exact Nat.le_of_ble_eq_true rfl, by rw [hRl]; exact Nat.le_of_ble_eq_true rfl⟩) (mm_preV hK hZ hS hA hP hD [0, 2] rfl rfl 0 rfl rfl rfl) rfl rfl hl.1 rfl (lv_room (Nat.le_of_ble_eq_true rfl)) dX12_words_8 ⟨by rw [hRc]; exact Nat.le_of_ble_eq_true rfl, by rw [hRs]; exact Nat.le_of_ble_eq_true rfl⟩) hP hD hS hA [0, 2] rfl (fun _ => rfl) ?_
    clear hP hD hS
    clear H locs
    intro v3 _u H locs hw hP hD hS
    subst hw
    refine lv_iconst (v := 1) hx hb dX12_words_11 (by decide) ?_
    refine lv_iadd hx hb dX12_words_12 ?_
    refine lv_topi (fun v4 ev4 => ?_)
    have rv4 : mm_rg v4 1 10 := mm_add ev4 h7 mm_k1 (by decide) (by decide)
    have tv4 := mm_addEc ev4 h7 mm_k1 (by decide) (k := 1) (by decide)
    refine lv_goto (tgt := 17) hx hb dX12_words_13 (by decide) ?_
    subst hAe
    rw [hQ]
    exact W.iret (v := v4) hx hb hr (fun t ht hW => ⟨⟨v4, (), rfl, ⟨rv4, tv4⟩, by rw [ht]; exact hP, hK.warm hW, hD⟩, hS.F ht⟩) hS.2.2 dX12_words_17

set_option maxHeartbeats 4000000 in
set_option maxRecDepth 100000 in
theorem M101_X12_isWord (l : Launch) (G : va_G) (cy : Nat → ClassId) (sz : Nat) (a_0 : Nat) (i_0 : Int32) (i_1 : Int32) (a_1 : Nat) (a_2 : Nat) (a_3 : Nat) (a_4 : Nat) (a_5 : Nat) (i_2 : Int32) (i_3 : Int32) (i_4 : Int32) (i_5 : Int32) (i_6 : Int32) (j_0 : Int64) (i_7 : Int32) (i_8 : Int32) (i_9 : Int32) (i_10 : Int32) (a_6 : Nat) (a_7 : Nat) (a_8 : Nat) (a_9 : Nat) (a_10 : Nat) (a_11 : Nat) (a_12 : Nat) (a_13 : Nat) (a_14 : Nat) (a_15 : Nat) (a_16 : Nat) (a_17 : Nat) (a_18 : Nat) (i_11 : Int32) (i_12 : Int32) (i_13 : Int32) (i_14 : Int32) (i_15 : Int32) (i_16 : Int32) (a_19 : Nat) (i_17 : Int32) (a_20 : Nat) (i_18 : Int32) (i_19 : Int32) (i_20 : Int32) (i_21 : Int32) (i_22 : Int32) (i_23 : Int32) (i_24 : Int32) (i_25 : Int32) (i_26 : Int32) (i_27 : Int32) (i_28 : Int32) (i_29 : Int32) (i_30 : Int32) (i_31 : Int32) (i_32 : Int32) (i_33 : Int32) (i_34 : Int32) (i_35 : Int32) (i_36 : Int32) (i_37 : Int32) (i_38 : Int32) (i_39 : Int32) (i_40 : Int32) (i_41 : Int32) (i_42 : Int32) (i_43 : Int32) (i_44 : Int32) (i_45 : Int32) (i_46 : Int32) (i_47 : Int32) (i_48 : Int32) (i_49 : Int32) (i_50 : Int32) (i_51 : Int32) (i_52 : Int32) (h0 : mm_rg i_18 1 601) (h1 : mm_rg i_19 0 601) (h2 : mm_rg i_20 0 601) (h3 : mm_rg i_21 0 601) (h4 : mm_rg i_22 0 601) (h5 : mm_rg i_23 0 10) (h6 : mm_rg i_24 0 99) (h7 : mm_rg i_25 0 9) (h8 : mm_rg i_26 0 3) (h9 : mm_rg i_27 0 6) (h10 : mm_rg i_28 0 30) (h11 : mm_rg i_29 0 10) (h12 : mm_rg i_30 0 99) (h13 : mm_rg i_31 0 9) (h14 : mm_rg i_32 0 3) (h15 : mm_rg i_33 0 6) (h16 : mm_rg i_34 0 30) (h17 : mm_rg i_35 0 10) (h18 : mm_rg i_36 0 99) (h19 : mm_rg i_37 0 9) (h20 : mm_rg i_38 0 3) (h21 : mm_rg i_39 0 6) (h22 : mm_rg i_40 0 30) (h23 : mm_rg i_41 0 10) (h24 : mm_rg i_42 0 99) (h25 : mm_rg i_43 0 9) (h26 : mm_rg i_44 0 3) (h27 : mm_rg i_45 0 6) (h28 : mm_rg i_46 0 30) (h29 : mm_rg i_47 0 10) (h30 : mm_rg i_48 0 99) (h31 : mm_rg i_49 0 9) (h32 : mm_rg i_50 0 3) (h33 : mm_rg i_51 0 6) (h34 : mm_rg i_52 0 30) (h35 : mm_tl i_18 i_26 i_27) (h36 : mm_tl i_19 i_32 i_33) (h37 : mm_tl i_20 i_38 i_39) (h38 : mm_tl i_21 i_44 i_45)  : mm_CI l yX12_isWord (mm_ws yX12_isWord cX12_isWord 2 (some .boolean)) ({ frames := 2, cells := 0, slots := 0, locals := 40 } : Room) G cy sz [(a_0, .inr (12, [.int i_1, .ref a_1, .ref a_2, .ref a_3, .ref a_4, .ref a_5, .int i_2, .int i_3, .int i_4, .int i_5, .int i_6, .long j_0, .int i_7, .int i_8, .int i_9, .int i_10, .ref a_6, .ref a_7, .ref a_8, .ref a_9, .ref a_10, .ref a_11, .ref a_12, .ref a_13, .ref a_14, .ref a_15, .ref a_16, .ref a_17, .ref a_18, .int i_11, .int i_12, .int i_13, .int i_14, .int i_15, .int i_16, .ref a_19, .int i_17, .ref a_20])), (a_6, .inl (cy 1, 5, .inl (mm_g [i_18, i_19, i_20, i_21, i_22]))), (a_7, .inl (cy 1, 30, .inl (mm_g [i_23, i_24, i_25, i_26, i_27, i_28, i_29, i_30, i_31, i_32, i_33, i_34, i_35, i_36, i_37, i_38, i_39, i_40, i_41, i_42, i_43, i_44, i_45, i_46, i_47, i_48, i_49, i_50, i_51, i_52])))] [.ref a_0, .int i_0] (fun u : Unit => [(a_0, .inr (12, [.int i_1, .ref a_1, .ref a_2, .ref a_3, .ref a_4, .ref a_5, .int i_2, .int i_3, .int i_4, .int i_5, .int i_6, .long j_0, .int i_7, .int i_8, .int i_9, .int i_10, .ref a_6, .ref a_7, .ref a_8, .ref a_9, .ref a_10, .ref a_11, .ref a_12, .ref a_13, .ref a_14, .ref a_15, .ref a_16, .ref a_17, .ref a_18, .int i_11, .int i_12, .int i_13, .int i_14, .int i_15, .int i_16, .ref a_19, .int i_17, .ref a_20])), (a_6, .inl (cy 1, 5, .inl (mm_g [i_18, i_19, i_20, i_21, i_22]))), (a_7, .inl (cy 1, 30, .inl (mm_g [i_23, i_24, i_25, i_26, i_27, i_28, i_29, i_30, i_31, i_32, i_33, i_34, i_35, i_36, i_37, i_38, i_39, i_40, i_41, i_42, i_43, i_44, i_45, i_46, i_47, i_48, i_49, i_50, i_51, i_52])))]) (fun (r : Int32) (u : Unit) => ((0 = r) ∨ (1 = r ∧ mm_rg i_0 0 9 ∧ (i_0 : Int32).toInt ≤ (i_25 : Int32).toInt))) 0 0 := by
  refine mm_begin (lv := [(0, .ref a_0), (1, .int i_0)]) (by decide) (Nat.le_of_ble_eq_true rfl) rfl ?_
  intro p e s m below meth c A ls R args Q H locs hRe hQ hAe hx hb hr hlocks hml hown hnm hts hsz hA hS hP hK hD hZ hl
  have hRf : R.frames = 2 := by rw [hRe]
  have hRl : R.locals = 40 := by rw [hRe]
  have hRc : R.cells = 0 := by rw [hRe]
  have hRs : R.slots = 0 := by rw [hRe]
  refine lv_iload_n hx hb dX12_isWord_0 rfl (lv_at hl 1 rfl) ?_
  obtain ⟨v1, ev1⟩ : ∃ y : Int64, y = i_0.toInt64 := ⟨_, rfl⟩
  refine lv_i2l hx hb dX12_isWord_1 ev1.symm ?_
  have rv1 : mm_rl v1 (-2147483648) 2147483647 := mm_i2l ev1 (mm_top i_0)
  refine lv_lconst (v := 0) hx hb dX12_isWord_2 (by decide) ?_
  refine lv_aload_n hx hb dX12_isWord_3 rfl (lv_at hl 0 rfl) ?_
  refine mm_finir (va_runV (As := []) (rest := [.long 0, .long v1]) ⟨hx, hb, hml, hown, hts⟩ (M100_X12_words l G cy H.size a_0 i_1 a_1 a_2 a_3 a_4 a_5 i_2 i_3 i_4 i_5 i_6 j_0 i_7 i_8 i_9 i_10 a_6 a_7 a_8 a_9 a_10 a_11 a_12 a_13 a_14 a_15 a_16 a_17 a_18 i_11 i_12 i_13 i_14 i_15 i_16 a_19 i_17 a_20 i_18 i_19 i_20 i_21 i_22 i_23 i_24 i_25 i_26 i_27 i_28 i_29 i_30 i_31 i_32 i_33 i_34 i_35 i_36 i_37 i_38 i_39 i_40 i_41 i_42 i_43 i_44 i_45 i_46 i_47 i_48 i_49 i_50 i_51 i_52 h0 h1 h2 h3 h4 h5 h6 h7 h8 h9 h10 h11 h12 h13 h14 h15 h16 h17 h18 h19 h20 h21 h22 h23 h24 h25 h26 h27 h28 h29 h30 h31 h32 h33 h34 h35 h36 h37 h38) (cwV 0 hts (mm_gV mm_w649 mm_w650 mm_w651 mm_w5 mm_w652) rfl rfl rfl hd_X12_words ⟨by rw [hRf]; exact Nat.le_of_ble_eq_true rfl, by rw [hRl]; exact Nat.le_of_ble_eq_true rfl⟩) (mm_preV hK hZ hS hA hP hD [0, 1, 2] rfl rfl 0 rfl rfl rfl) rfl rfl hl.1 rfl (lv_room (Nat.le_of_ble_eq_true rfl)) dX12_isWord_4 ⟨by rw [hRc]; exact Nat.le_of_ble_eq_true rfl, by rw [hRs]; exact Nat.le_of_ble_eq_true rfl⟩) hP hD hS hA [0, 1, 2] rfl (fun _ => rfl) ?_
  clear hP hD hS
  clear H locs
  intro v2 _u H locs hw hP hD hS
  obtain ⟨w3, w4⟩ := hw
  have t5 : (v2 : Int32).toInt = (i_25 : Int32).toInt + 1 := w4
  obtain ⟨v6, ev6⟩ : ∃ y : Int64, y = v2.toInt64 := ⟨_, rfl⟩
  refine lv_i2l hx hb dX12_isWord_7 ev6.symm ?_
  have rv6 : mm_rl v6 1 10 := mm_i2l ev6 w3
  refine lv_lconst (v := 1) hx hb dX12_isWord_8 (by decide) ?_
  refine lv_lsub hx hb dX12_isWord_9 ?_
  refine lv_topl (fun v7 ev7 => ?_)
  have rv7 : mm_rl v7 0 9 := mm_subl ev7 rv6 mm_kl1 (by decide) (by decide)
  have tv7 := mm_sublEc ev7 rv6 mm_kl1 (by decide) (k := 1) (by decide)
  refine mm_finir (va_runS (As := [.long v1, .long 0, .long v7]) (rest := []) ⟨hx, hb, hml, hown, hts⟩ (M7_X12_in l G cy H.size v1 v7 ) (va_cwS 3 hts (mm_gS mm_w191 mm_w192 mm_w5 mm_w193) rfl rfl rfl hs_X12_in ⟨by rw [hRf]; exact Nat.le_of_ble_eq_true rfl, by rw [hRl]; exact Nat.le_of_ble_eq_true rfl⟩) (mm_preS hK hZ hS hA hP hD [] rfl rfl) rfl rfl hl.1 rfl (lv_room (Nat.le_of_ble_eq_true rfl)) dX12_isWord_10 ⟨by rw [hRc]; exact Nat.le_of_ble_eq_true rfl, by rw [hRs]; exact Nat.le_of_ble_eq_true rfl⟩) hP hD hS hA [] rfl (fun _ => rfl) ?_
  clear hP hD hS
  clear H locs
  intro v8 _u H locs hw hP hD hS
  rcases hw with ⟨rfl, w9⟩ | ⟨rfl, w10, w11, w12, w13⟩
  · subst hAe
    rw [hQ]
    exact W.zret (v := 0) hx hb hr rfl (fun t ht hW => ⟨⟨0, (), rfl, (Or.inl rfl), by rw [ht]; exact hP, hK.warm hW, hD⟩, hS.F ht⟩) hS.2.2 dX12_isWord_13
  · have q14 := mm_meetl (lo := 0) (hi := 2147483647) w10 rv1 (by decide)
    have q15 := mm_meet (lo := 0) (hi := 2147483647) (mm_l2x ev1 q14) (mm_top i_0) (by decide)
    have q16 := mm_leLl w12 q14 rv7
    have q17 := mm_meet (lo := 0) (hi := 9) (mm_l2x ev1 q16) q15 (by decide)
    have w18 : (i_0 : Int32).toInt < (v2 : Int32).toInt := by have := (mm_i2lE ev1); have := (mm_i2lE ev6); have := tv7; have := w12; omega
    have w19 : (i_0 : Int32).toInt ≤ (i_25 : Int32).toInt := (by have := t5; have := w18; omega)
    subst hAe
    rw [hQ]
    exact W.zret (v := 1) hx hb hr rfl (fun t ht hW => ⟨⟨1, (), rfl, (Or.inr ⟨rfl, q17, w19⟩), by rw [ht]; exact hP, hK.warm hW, hD⟩, hS.F ht⟩) hS.2.2 dX12_isWord_13

set_option maxHeartbeats 4000000 in
set_option maxRecDepth 100000 in
theorem M102_X12_rule (l : Launch) (G : va_G) (cy : Nat → ClassId) (sz : Nat) (a_0 : Nat) (i_0 : Int32) (i_1 : Int32) (i_2 : Int32) (i_3 : Int32) (a_1 : Nat) (a_2 : Nat) (a_3 : Nat) (a_4 : Nat) (a_5 : Nat) (i_4 : Int32) (i_5 : Int32) (i_6 : Int32) (i_7 : Int32) (i_8 : Int32) (j_0 : Int64) (i_9 : Int32) (i_10 : Int32) (i_11 : Int32) (i_12 : Int32) (a_6 : Nat) (a_7 : Nat) (a_8 : Nat) (a_9 : Nat) (a_10 : Nat) (a_11 : Nat) (a_12 : Nat) (a_13 : Nat) (a_14 : Nat) (a_15 : Nat) (a_16 : Nat) (a_17 : Nat) (a_18 : Nat) (i_13 : Int32) (i_14 : Int32) (i_15 : Int32) (i_16 : Int32) (i_17 : Int32) (i_18 : Int32) (a_19 : Nat) (i_19 : Int32) (a_20 : Nat) (i_20 : Int32) (i_21 : Int32) (i_22 : Int32) (i_23 : Int32) (i_24 : Int32) (i_25 : Int32) (i_26 : Int32) (i_27 : Int32) (i_28 : Int32) (i_29 : Int32) (i_30 : Int32) (i_31 : Int32) (i_32 : Int32) (i_33 : Int32) (i_34 : Int32) (i_35 : Int32) (i_36 : Int32) (i_37 : Int32) (i_38 : Int32) (i_39 : Int32) (i_40 : Int32) (i_41 : Int32) (i_42 : Int32) (i_43 : Int32) (i_44 : Int32) (i_45 : Int32) (i_46 : Int32) (i_47 : Int32) (i_48 : Int32) (i_49 : Int32) (i_50 : Int32) (i_51 : Int32) (i_52 : Int32) (i_53 : Int32) (i_54 : Int32) (f_0 : Nat → Int32) (f_1 : Nat → Int32) (h0 : mm_rg i_20 0 601) (h1 : mm_rg i_21 0 601) (h2 : mm_rg i_22 0 601) (h3 : mm_rg i_23 0 601) (h4 : mm_rg i_24 0 601) (h5 : mm_rg i_25 0 10) (h6 : mm_rg i_26 0 99) (h7 : mm_rg i_27 0 9) (h8 : mm_rg i_28 0 3) (h9 : mm_rg i_29 0 6) (h10 : mm_rg i_30 0 30) (h11 : mm_rg i_31 0 10) (h12 : mm_rg i_32 0 99) (h13 : mm_rg i_33 0 9) (h14 : mm_rg i_34 0 3) (h15 : mm_rg i_35 0 6) (h16 : mm_rg i_36 0 30) (h17 : mm_rg i_37 0 10) (h18 : mm_rg i_38 0 99) (h19 : mm_rg i_39 0 9) (h20 : mm_rg i_40 0 3) (h21 : mm_rg i_41 0 6) (h22 : mm_rg i_42 0 30) (h23 : mm_rg i_43 0 10) (h24 : mm_rg i_44 0 99) (h25 : mm_rg i_45 0 9) (h26 : mm_rg i_46 0 3) (h27 : mm_rg i_47 0 6) (h28 : mm_rg i_48 0 30) (h29 : mm_rg i_49 0 10) (h30 : mm_rg i_50 0 99) (h31 : mm_rg i_51 0 9) (h32 : mm_rg i_52 0 3) (h33 : mm_rg i_53 0 6) (h34 : mm_rg i_54 0 30) (h35 : mm_ar f_0 0 7) (h36 : mm_ar f_1 0 9) (h37 : mm_rls f_0 f_1 0 i_27 i_28) (h38 : mm_tl i_20 i_28 i_29) (h39 : mm_rls f_0 f_1 1 i_33 i_34) (h40 : mm_tl i_21 i_34 i_35) (h41 : mm_rls f_0 f_1 2 i_39 i_40) (h42 : mm_tl i_22 i_40 i_41) (h43 : mm_rls f_0 f_1 3 i_45 i_46) (h44 : mm_tl i_23 i_46 i_47)  : mm_CI l yX12_rule (mm_ws yX12_rule cX12_rule 4 (some .int)) ({ frames := 3, cells := 0, slots := 0, locals := 61 } : Room) G cy sz [(a_0, .inr (12, [.int i_3, .ref a_1, .ref a_2, .ref a_3, .ref a_4, .ref a_5, .int i_4, .int i_5, .int i_6, .int i_7, .int i_8, .long j_0, .int i_9, .int i_10, .int i_11, .int i_12, .ref a_6, .ref a_7, .ref a_8, .ref a_9, .ref a_10, .ref a_11, .ref a_12, .ref a_13, .ref a_14, .ref a_15, .ref a_16, .ref a_17, .ref a_18, .int i_13, .int i_14, .int i_15, .int i_16, .int i_17, .int i_18, .ref a_19, .int i_19, .ref a_20])), (a_6, .inl (cy 1, 5, .inl (mm_g [i_20, i_21, i_22, i_23, i_24]))), (a_7, .inl (cy 1, 30, .inl (mm_g [i_25, i_26, i_27, i_28, i_29, i_30, i_31, i_32, i_33, i_34, i_35, i_36, i_37, i_38, i_39, i_40, i_41, i_42, i_43, i_44, i_45, i_46, i_47, i_48, i_49, i_50, i_51, i_52, i_53, i_54]))), (a_9, .inl (cy 1, 15, .inl f_0)), (a_10, .inl (cy 1, 1050, .inl f_1))] [.ref a_0, .int i_0, .int i_1, .int i_2] (fun u : Unit => [(a_0, .inr (12, [.int 0, .ref a_1, .ref a_2, .ref a_3, .ref a_4, .ref a_5, .int i_4, .int i_5, .int i_6, .int i_7, .int i_8, .long j_0, .int i_9, .int i_10, .int i_11, .int i_12, .ref a_6, .ref a_7, .ref a_8, .ref a_9, .ref a_10, .ref a_11, .ref a_12, .ref a_13, .ref a_14, .ref a_15, .ref a_16, .ref a_17, .ref a_18, .int i_13, .int i_14, .int i_15, .int i_16, .int i_17, .int i_18, .ref a_19, .int i_19, .ref a_20])), (a_6, .inl (cy 1, 5, .inl (mm_g [i_20, i_21, i_22, i_23, i_24]))), (a_7, .inl (cy 1, 30, .inl (mm_g [i_25, i_26, i_27, i_28, i_29, i_30, i_31, i_32, i_33, i_34, i_35, i_36, i_37, i_38, i_39, i_40, i_41, i_42, i_43, i_44, i_45, i_46, i_47, i_48, i_49, i_50, i_51, i_52, i_53, i_54]))), (a_9, .inl (cy 1, 15, .inl f_0)), (a_10, .inl (cy 1, 1050, .inl f_1))]) (fun (r : Int32) (u : Unit) => mm_rg r (-2) 9) 0 0 := by
  refine mm_begin (lv := [(0, .ref a_0), (1, .int i_0), (2, .int i_1), (3, .int i_2)]) (by decide) (Nat.le_of_ble_eq_true rfl) rfl ?_
  intro p e s m below meth c A ls R args Q H locs hRe hQ hAe hx hb hr hlocks hml hown hnm hts hsz hA hS hP hK hD hZ hl
  have hRf : R.frames = 3 := by rw [hRe]
  have hRl : R.locals = 61 := by rw [hRe]
  have hRc : R.cells = 0 := by rw [hRe]
  have hRs : R.slots = 0 := by rw [hRe]
  refine lv_aload_n hx hb dX12_rule_0 rfl (lv_at hl 0 rfl) ?_
  refine lv_iconst (v := 0) hx hb dX12_rule_1 (by decide) ?_
  refine va_put (D := G) (ci := 12) (v := .int 0) (ty := tyX12 0) (C := RX12) (T := TX12) (N := 38) hx hb hts (mm_i inlX12) tyX12 tyX12_ok nmX12 hown hK.1 hP hD hS 0 rfl rfl 0 (by decide) (mm_h hts mm_w177) (fun _ h9 => h9) rfl (tyX12_ok 0 (by decide)) rfl rfl (Nat.le_of_ble_eq_true rfl) dX12_rule_2 ?_
  clear hP hD hS
  clear H locs
  intro H locs (hP : va_P G vwCl [(a_0, .inr (12, [.int 0, .ref a_1, .ref a_2, .ref a_3, .ref a_4, .ref a_5, .int i_4, .int i_5, .int i_6, .int i_7, .int i_8, .long j_0, .int i_9, .int i_10, .int i_11, .int i_12, .ref a_6, .ref a_7, .ref a_8, .ref a_9, .ref a_10, .ref a_11, .ref a_12, .ref a_13, .ref a_14, .ref a_15, .ref a_16, .ref a_17, .ref a_18, .int i_13, .int i_14, .int i_15, .int i_16, .int i_17, .int i_18, .ref a_19, .int i_19, .ref a_20])), (a_6, .inl (cy 1, 5, .inl (mm_g [i_20, i_21, i_22, i_23, i_24]))), (a_7, .inl (cy 1, 30, .inl (mm_g [i_25, i_26, i_27, i_28, i_29, i_30, i_31, i_32, i_33, i_34, i_35, i_36, i_37, i_38, i_39, i_40, i_41, i_42, i_43, i_44, i_45, i_46, i_47, i_48, i_49, i_50, i_51, i_52, i_53, i_54]))), (a_9, .inl (cy 1, 15, .inl f_0)), (a_10, .inl (cy 1, 1050, .inl f_1))] H) (hD : va_D A [(a_0, .inr (12, [.int 0, .ref a_1, .ref a_2, .ref a_3, .ref a_4, .ref a_5, .int i_4, .int i_5, .int i_6, .int i_7, .int i_8, .long j_0, .int i_9, .int i_10, .int i_11, .int i_12, .ref a_6, .ref a_7, .ref a_8, .ref a_9, .ref a_10, .ref a_11, .ref a_12, .ref a_13, .ref a_14, .ref a_15, .ref a_16, .ref a_17, .ref a_18, .int i_13, .int i_14, .int i_15, .int i_16, .int i_17, .int i_18, .ref a_19, .int i_19, .ref a_20])), (a_6, .inl (cy 1, 5, .inl (mm_g [i_20, i_21, i_22, i_23, i_24]))), (a_7, .inl (cy 1, 30, .inl (mm_g [i_25, i_26, i_27, i_28, i_29, i_30, i_31, i_32, i_33, i_34, i_35, i_36, i_37, i_38, i_39, i_40, i_41, i_42, i_43, i_44, i_45, i_46, i_47, i_48, i_49, i_50, i_51, i_52, i_53, i_54]))), (a_9, .inl (cy 1, 15, .inl f_0)), (a_10, .inl (cy 1, 1050, .inl f_1))]) hS
  refine lv_aload_n hx hb dX12_rule_5 rfl (lv_at hl 0 rfl) ?_
  refine lv_iload_n hx hb dX12_rule_6 rfl (lv_at hl 1 rfl) ?_
  refine mm_finir (va_runV (As := [.int i_0]) (rest := []) ⟨hx, hb, hml, hown, hts⟩ (M98_X12_isLand l G cy H.size a_0 i_0 0 a_1 a_2 a_3 a_4 a_5 i_4 i_5 i_6 i_7 i_8 j_0 i_9 i_10 i_11 i_12 a_6 a_7 a_8 a_9 a_10 a_11 a_12 a_13 a_14 a_15 a_16 a_17 a_18 i_13 i_14 i_15 i_16 i_17 i_18 a_19 i_19 a_20 i_25 i_26 i_27 i_28 i_29 i_30 i_31 i_32 i_33 i_34 i_35 i_36 i_37 i_38 i_39 i_40 i_41 i_42 i_43 i_44 i_45 i_46 i_47 i_48 i_49 i_50 i_51 i_52 i_53 i_54 h5 h6 h7 h8 h9 h10 h11 h12 h13 h14 h15 h16 h17 h18 h19 h20 h21 h22 h23 h24 h25 h26 h27 h28 h29 h30 h31 h32 h33 h34) (cwV 1 hts (mm_gV mm_w641 mm_w642 mm_w643 mm_w5 mm_w644) rfl rfl rfl hd_X12_isLand ⟨by rw [hRf]; exact Nat.le_of_ble_eq_true rfl, by rw [hRl]; exact Nat.le_of_ble_eq_true rfl⟩) (mm_preV hK hZ hS hA hP hD [0, 2] rfl rfl 0 rfl rfl rfl) rfl rfl hl.1 rfl (lv_room (Nat.le_of_ble_eq_true rfl)) dX12_rule_7 ⟨by rw [hRc]; exact Nat.le_of_ble_eq_true rfl, by rw [hRs]; exact Nat.le_of_ble_eq_true rfl⟩) hP hD hS hA [0, 2] rfl (fun _ => rfl) ?_
  clear hP hD hS
  clear H locs
  intro v1 _u H locs hw hP hD hS
  rcases hw with rfl | ⟨rfl, w2, w3⟩
  · refine lv_if_eq (tgt := 58) hx hb dX12_rule_10 (by decide) (fun c4 => ?_) (fun c4 => ?_)
    · refine lv_bipush (v := (-2)) hx hb dX12_rule_58 (by decide) ?_
      subst hAe
      rw [hQ]
      exact W.iret (v := (-2)) hx hb hr (fun t ht hW => ⟨⟨(-2), (), rfl, (mm_wk mm_km2 (by decide)), by rw [ht]; exact hP, hK.warm hW, hD⟩, hS.F ht⟩) hS.2.2 dX12_rule_60
    · exact absurd rfl (mm_ne c4)
  · have q5 := mm_ltR (lo := 1) w3 w2 h8 (by decide)
    have q6 : mm_rg i_20 1 601 := mm_tl_3 h38 q5 h0 (by decide)
    refine lv_if_eq (tgt := 58) hx hb dX12_rule_10 (by decide) (fun c7 => ?_) (fun c7 => ?_)
    · exact mm_eqN c7.symm mm_k0 mm_k1 (by decide)
    · refine lv_iload_n hx hb dX12_rule_13 rfl (lv_at hl 2 rfl) ?_
      obtain ⟨v8, ev8⟩ : ∃ y : Int64, y = i_1.toInt64 := ⟨_, rfl⟩
      refine lv_i2l hx hb dX12_rule_14 ev8.symm ?_
      have rv8 : mm_rl v8 (-2147483648) 2147483647 := mm_i2l ev8 (mm_top i_1)
      refine lv_lconst (v := 0) hx hb dX12_rule_15 (by decide) ?_
      refine lv_aload_n hx hb dX12_rule_16 rfl (lv_at hl 0 rfl) ?_
      refine va_get (D := G) (ci := 12) (v := .ref a_9) (C := RX12) (T := TX12) (N := 38) hx hb hts (mm_i inlX12) hown hK.1 hP 0 rfl rfl 19 (by decide) (mm_h hts mm_w151) (fun _ h9 => h9) rfl dX12_rule_17 ?_
      refine lv_iload_n hx hb dX12_rule_20 rfl (lv_at hl 1 rfl) ?_
      refine va_iald hx hb hK.1 hP 3 1 rfl rfl (mm_in w2 (by decide)) dX12_rule_21 ?_
      refine lv_topi (fun v9 ev9 => ?_)
      have rv9 : mm_rg v9 0 7 := mm_eqv ev9 (h35 _)
      obtain ⟨v10, ev10⟩ : ∃ y : Int64, y = v9.toInt64 := ⟨_, rfl⟩
      refine lv_i2l hx hb dX12_rule_22 ev10.symm ?_
      have rv10 : mm_rl v10 0 7 := mm_i2l ev10 rv9
      refine lv_lconst (v := 1) hx hb dX12_rule_23 (by decide) ?_
      refine lv_lsub hx hb dX12_rule_24 ?_
      refine lv_topl (fun v11 ev11 => ?_)
      have rv11 : mm_rl v11 (-1) 6 := mm_subl ev11 rv10 mm_kl1 (by decide) (by decide)
      have tv11 := mm_sublEc ev11 rv10 mm_kl1 (by decide) (k := 1) (by decide)
      refine mm_finir (va_runS (As := [.long v8, .long 0, .long v11]) (rest := []) ⟨hx, hb, hml, hown, hts⟩ (M7_X12_in l G cy H.size v8 v11 ) (va_cwS 3 hts (mm_gS mm_w191 mm_w192 mm_w5 mm_w193) rfl rfl rfl hs_X12_in ⟨by rw [hRf]; exact Nat.le_of_ble_eq_true rfl, by rw [hRl]; exact Nat.le_of_ble_eq_true rfl⟩) (mm_preS hK hZ hS hA hP hD [] rfl rfl) rfl rfl hl.1 rfl (lv_room (Nat.le_of_ble_eq_true rfl)) dX12_rule_25 ⟨by rw [hRc]; exact Nat.le_of_ble_eq_true rfl, by rw [hRs]; exact Nat.le_of_ble_eq_true rfl⟩) hP hD hS hA [] rfl (fun _ => rfl) ?_
      clear hP hD hS
      clear H locs
      intro v12 _u H locs hw hP hD hS
      rcases hw with ⟨rfl, w13⟩ | ⟨rfl, w14, w15, w16, w17⟩
      · refine lv_if_eq (tgt := 58) hx hb dX12_rule_28 (by decide) (fun c18 => ?_) (fun c18 => ?_)
        · refine lv_bipush (v := (-2)) hx hb dX12_rule_58 (by decide) ?_
          subst hAe
          rw [hQ]
          exact W.iret (v := (-2)) hx hb hr (fun t ht hW => ⟨⟨(-2), (), rfl, (mm_wk mm_km2 (by decide)), by rw [ht]; exact hP, hK.warm hW, hD⟩, hS.F ht⟩) hS.2.2 dX12_rule_60
        · exact absurd rfl (mm_ne c18)
      · have q19 := mm_meetl (lo := 0) (hi := 2147483647) w14 rv8 (by decide)
        have q20 := mm_meet (lo := 0) (hi := 2147483647) (mm_l2x ev8 q19) (mm_top i_1) (by decide)
        have q21 := mm_meetl (lo := 0) (hi := 6) w15 rv11 (by decide)
        have q22 := mm_leLl w16 q19 q21
        have q23 := mm_meet (lo := 0) (hi := 6) (mm_l2x ev8 q22) q20 (by decide)
        have w24 : (i_1 : Int32).toInt < (v9 : Int32).toInt := by have := (mm_i2lE ev8); have := (mm_i2lE ev10); have := tv11; have := w16; omega
        have q25 := mm_ltR (lo := 1) w24 q23 rv9 (by decide)
        refine lv_if_eq (tgt := 58) hx hb dX12_rule_28 (by decide) (fun c26 => ?_) (fun c26 => ?_)
        · exact mm_eqN c26.symm mm_k0 mm_k1 (by decide)
        · refine lv_aload_n hx hb dX12_rule_31 rfl (lv_at hl 0 rfl) ?_
          refine lv_iload_n hx hb dX12_rule_32 rfl (lv_at hl 3 rfl) ?_
          refine mm_finir (va_runV (As := [.int i_2]) (rest := []) ⟨hx, hb, hml, hown, hts⟩ (M101_X12_isWord l G cy H.size a_0 i_2 0 a_1 a_2 a_3 a_4 a_5 i_4 i_5 i_6 i_7 i_8 j_0 i_9 i_10 i_11 i_12 a_6 a_7 a_8 a_9 a_10 a_11 a_12 a_13 a_14 a_15 a_16 a_17 a_18 i_13 i_14 i_15 i_16 i_17 i_18 a_19 i_19 a_20 i_20 i_21 i_22 i_23 i_24 i_25 i_26 i_27 i_28 i_29 i_30 i_31 i_32 i_33 i_34 i_35 i_36 i_37 i_38 i_39 i_40 i_41 i_42 i_43 i_44 i_45 i_46 i_47 i_48 i_49 i_50 i_51 i_52 i_53 i_54 q6 h1 h2 h3 h4 h5 h6 h7 (mm_wk q5 (by decide)) h9 h10 h11 h12 h13 h14 h15 h16 h17 h18 h19 h20 h21 h22 h23 h24 h25 h26 h27 h28 h29 h30 h31 h32 h33 h34 h38 h40 h42 h44) (cwV 1 hts (mm_gV mm_w645 mm_w646 mm_w647 mm_w5 mm_w648) rfl rfl rfl hd_X12_isWord ⟨by rw [hRf]; exact Nat.le_of_ble_eq_true rfl, by rw [hRl]; exact Nat.le_of_ble_eq_true rfl⟩) (mm_preV hK hZ hS hA hP hD [0, 1, 2] rfl rfl 0 rfl rfl rfl) rfl rfl hl.1 rfl (lv_room (Nat.le_of_ble_eq_true rfl)) dX12_rule_33 ⟨by rw [hRc]; exact Nat.le_of_ble_eq_true rfl, by rw [hRs]; exact Nat.le_of_ble_eq_true rfl⟩) hP hD hS hA [0, 1, 2] rfl (fun _ => rfl) ?_
          clear hP hD hS
          clear H locs
          intro v27 _u H locs hw hP hD hS
          rcases hw with rfl | ⟨rfl, w28, w29⟩
          · refine lv_if_eq (tgt := 58) hx hb dX12_rule_36 (by decide) (fun c30 => ?_) (fun c30 => ?_)
            · refine lv_bipush (v := (-2)) hx hb dX12_rule_58 (by decide) ?_
              subst hAe
              rw [hQ]
              exact W.iret (v := (-2)) hx hb hr (fun t ht hW => ⟨⟨(-2), (), rfl, (mm_wk mm_km2 (by decide)), by rw [ht]; exact hP, hK.warm hW, hD⟩, hS.F ht⟩) hS.2.2 dX12_rule_60
            · exact absurd rfl (mm_ne c30)
          · refine lv_if_eq (tgt := 58) hx hb dX12_rule_36 (by decide) (fun c31 => ?_) (fun c31 => ?_)
            · exact mm_eqN c31.symm mm_k0 mm_k1 (by decide)
            · refine lv_aload_n hx hb dX12_rule_39 rfl (lv_at hl 0 rfl) ?_
              refine va_get (D := G) (ci := 12) (v := .ref a_10) (C := RX12) (T := TX12) (N := 38) hx hb hts (mm_i inlX12) hown hK.1 hP 0 rfl rfl 20 (by decide) (mm_h hts mm_w152) (fun _ h9 => h9) rfl dX12_rule_40 ?_
              refine lv_bipush (v := 10) hx hb dX12_rule_43 (by decide) ?_
              refine lv_bipush (v := 7) hx hb dX12_rule_45 (by decide) ?_
              refine lv_iload_n hx hb dX12_rule_47 rfl (lv_at hl 1 rfl) ?_
              refine lv_imul hx hb dX12_rule_48 ?_
              refine lv_topi (fun v32 ev32 => ?_)
              have rv32 : mm_rg v32 0 14 := mm_mul ev32 mm_k7 w2 (by decide) (by decide)
              have tv32 := mm_mulEc ev32 mm_k7 w2 (by decide) (k := 7) (by decide)
              refine lv_iload_n hx hb dX12_rule_49 rfl (lv_at hl 2 rfl) ?_
              refine lv_iadd hx hb dX12_rule_50 ?_
              refine lv_topi (fun v33 ev33 => ?_)
              have rv33 : mm_rg v33 0 20 := mm_add ev33 rv32 q23 (by decide) (by decide)
              have tv33 := mm_addE ev33 rv32 q23 (by decide)
              refine lv_imul hx hb dX12_rule_51 ?_
              refine lv_topi (fun v34 ev34 => ?_)
              have rv34 : mm_rg v34 0 200 := mm_mul ev34 mm_k10 rv33 (by decide) (by decide)
              have tv34 := mm_mulEc ev34 mm_k10 rv33 (by decide) (k := 10) (by decide)
              refine lv_iload_n hx hb dX12_rule_52 rfl (lv_at hl 3 rfl) ?_
              refine lv_iadd hx hb dX12_rule_53 ?_
              refine lv_topi (fun v35 ev35 => ?_)
              have rv35 : mm_rg v35 0 209 := mm_add ev35 rv34 w28 (by decide) (by decide)
              have tv35 := mm_addE ev35 rv34 w28 (by decide)
              refine va_iald hx hb hK.1 hP 4 1 rfl rfl (mm_in rv35 (by decide)) dX12_rule_54 ?_
              refine lv_topi (fun v36 ev36 => ?_)
              have rv36 : mm_rg v36 0 9 := mm_eqv ev36 (h36 _)
              refine lv_goto (tgt := 60) hx hb dX12_rule_55 (by decide) ?_
              subst hAe
              rw [hQ]
              exact W.iret (v := v36) hx hb hr (fun t ht hW => ⟨⟨v36, (), rfl, (mm_wk rv36 (by decide)), by rw [ht]; exact hP, hK.warm hW, hD⟩, hS.F ht⟩) hS.2.2 dX12_rule_60

set_option maxHeartbeats 4000000 in
set_option maxRecDepth 100000 in
theorem M103_X12_isDay (l : Launch) (G : va_G) (cy : Nat → ClassId) (sz : Nat) (i_0 : Int32)   : mm_CI l yX12_isDay (mm_ws yX12_isDay cX12_isDay 1 (some .boolean)) ({ frames := 1, cells := 0, slots := 0, locals := 25 } : Room) G cy sz [] [.int i_0] (fun u : Unit => []) (fun (r : Int32) (u : Unit) => ((0 = r) ∨ (1 = r ∧ mm_rg i_0 0 1000000000))) 0 0 := by
  refine mm_begin (lv := [(0, .int i_0)]) (by decide) (Nat.le_of_ble_eq_true rfl) rfl ?_
  intro p e s m below meth c A ls R args Q H locs hRe hQ hAe hx hb hr hlocks hml hown hnm hts hsz hA hS hP hK hD hZ hl
  have hRf : R.frames = 1 := by rw [hRe]
  have hRl : R.locals = 25 := by rw [hRe]
  have hRc : R.cells = 0 := by rw [hRe]
  have hRs : R.slots = 0 := by rw [hRe]
  refine lv_iload_n hx hb dX12_isDay_0 rfl (lv_at hl 0 rfl) ?_
  obtain ⟨v1, ev1⟩ : ∃ y : Int64, y = i_0.toInt64 := ⟨_, rfl⟩
  refine lv_i2l hx hb dX12_isDay_1 ev1.symm ?_
  have rv1 : mm_rl v1 (-2147483648) 2147483647 := mm_i2l ev1 (mm_top i_0)
  refine lv_lconst (v := 0) hx hb dX12_isDay_2 (by decide) ?_
  refine lv_ldc2 (v := 1000000000) hx hb hown (mm_h hts mm_w685) dX12_isDay_3 ?_
  refine mm_finir (va_runS (As := [.long v1, .long 0, .long 1000000000]) (rest := []) ⟨hx, hb, hml, hown, hts⟩ (M7_X12_in l G cy H.size v1 1000000000 ) (va_cwS 3 hts (mm_gS mm_w191 mm_w192 mm_w5 mm_w193) rfl rfl rfl hs_X12_in ⟨by rw [hRf]; exact Nat.le_of_ble_eq_true rfl, by rw [hRl]; exact Nat.le_of_ble_eq_true rfl⟩) (mm_preS hK hZ hS hA hP hD [] rfl rfl) rfl rfl hl.1 rfl (lv_room (Nat.le_of_ble_eq_true rfl)) dX12_isDay_6 ⟨by rw [hRc]; exact Nat.le_of_ble_eq_true rfl, by rw [hRs]; exact Nat.le_of_ble_eq_true rfl⟩) hP hD hS hA [] rfl (fun _ => rfl) ?_
  clear hP hD hS
  clear H locs
  intro v2 _u H locs hw hP hD hS
  rcases hw with ⟨rfl, w3⟩ | ⟨rfl, w4, w5, w6, w7⟩
  · subst hAe
    rw [hQ]
    exact W.zret (v := 0) hx hb hr rfl (fun t ht hW => ⟨⟨0, (), rfl, (Or.inl rfl), by rw [ht]; exact hP, hK.warm hW, hD⟩, hS.F ht⟩) hS.2.2 dX12_isDay_9
  · have q8 := mm_meetl (lo := 0) (hi := 2147483647) w4 rv1 (by decide)
    have q9 := mm_meet (lo := 0) (hi := 2147483647) (mm_l2x ev1 q8) (mm_top i_0) (by decide)
    have q10 := mm_leLl w6 q8 mm_kl1000000000
    have q11 := mm_meet (lo := 0) (hi := 1000000000) (mm_l2x ev1 q10) q9 (by decide)
    subst hAe
    rw [hQ]
    exact W.zret (v := 1) hx hb hr rfl (fun t ht hW => ⟨⟨1, (), rfl, (Or.inr ⟨rfl, q11⟩), by rw [ht]; exact hP, hK.warm hW, hD⟩, hS.F ht⟩) hS.2.2 dX12_isDay_9

set_option maxHeartbeats 4000000 in
set_option maxRecDepth 100000 in
theorem M104_X12_isThen (l : Launch) (G : va_G) (cy : Nat → ClassId) (sz : Nat) (a_0 : Nat) (i_0 : Int32) (i_1 : Int32) (i_2 : Int32) (a_1 : Nat) (a_2 : Nat) (a_3 : Nat) (a_4 : Nat) (a_5 : Nat) (i_3 : Int32) (i_4 : Int32) (i_5 : Int32) (i_6 : Int32) (i_7 : Int32) (j_0 : Int64) (i_8 : Int32) (i_9 : Int32) (i_10 : Int32) (i_11 : Int32) (a_6 : Nat) (a_7 : Nat) (a_8 : Nat) (a_9 : Nat) (a_10 : Nat) (a_11 : Nat) (a_12 : Nat) (a_13 : Nat) (a_14 : Nat) (a_15 : Nat) (a_16 : Nat) (a_17 : Nat) (a_18 : Nat) (i_12 : Int32) (i_13 : Int32) (i_14 : Int32) (i_15 : Int32) (i_16 : Int32) (i_17 : Int32) (a_19 : Nat) (i_18 : Int32) (a_20 : Nat) (i_19 : Int32) (i_20 : Int32) (i_21 : Int32) (i_22 : Int32) (i_23 : Int32) (i_24 : Int32) (i_25 : Int32) (i_26 : Int32) (i_27 : Int32) (i_28 : Int32) (i_29 : Int32) (i_30 : Int32) (i_31 : Int32) (i_32 : Int32) (i_33 : Int32) (i_34 : Int32) (i_35 : Int32) (i_36 : Int32) (i_37 : Int32) (i_38 : Int32) (i_39 : Int32) (i_40 : Int32) (i_41 : Int32) (i_42 : Int32) (i_43 : Int32) (i_44 : Int32) (i_45 : Int32) (i_46 : Int32) (i_47 : Int32) (i_48 : Int32) (h0 : mm_rg i_19 0 10) (h1 : mm_rg i_20 0 99) (h2 : mm_rg i_21 0 9) (h3 : mm_rg i_22 0 3) (h4 : mm_rg i_23 0 6) (h5 : mm_rg i_24 0 30) (h6 : mm_rg i_25 0 10) (h7 : mm_rg i_26 0 99) (h8 : mm_rg i_27 0 9) (h9 : mm_rg i_28 0 3) (h10 : mm_rg i_29 0 6) (h11 : mm_rg i_30 0 30) (h12 : mm_rg i_31 0 10) (h13 : mm_rg i_32 0 99) (h14 : mm_rg i_33 0 9) (h15 : mm_rg i_34 0 3) (h16 : mm_rg i_35 0 6) (h17 : mm_rg i_36 0 30) (h18 : mm_rg i_37 0 10) (h19 : mm_rg i_38 0 99) (h20 : mm_rg i_39 0 9) (h21 : mm_rg i_40 0 3) (h22 : mm_rg i_41 0 6) (h23 : mm_rg i_42 0 30) (h24 : mm_rg i_43 0 10) (h25 : mm_rg i_44 0 99) (h26 : mm_rg i_45 0 9) (h27 : mm_rg i_46 0 3) (h28 : mm_rg i_47 0 6) (h29 : mm_rg i_48 0 30)  : mm_CI l yX12_isThen (mm_ws yX12_isThen cX12_isThen 3 (some .boolean)) ({ frames := 2, cells := 0, slots := 0, locals := 46 } : Room) G cy sz [(a_0, .inr (12, [.int i_2, .ref a_1, .ref a_2, .ref a_3, .ref a_4, .ref a_5, .int i_3, .int i_4, .int i_5, .int i_6, .int i_7, .long j_0, .int i_8, .int i_9, .int i_10, .int i_11, .ref a_6, .ref a_7, .ref a_8, .ref a_9, .ref a_10, .ref a_11, .ref a_12, .ref a_13, .ref a_14, .ref a_15, .ref a_16, .ref a_17, .ref a_18, .int i_12, .int i_13, .int i_14, .int i_15, .int i_16, .int i_17, .ref a_19, .int i_18, .ref a_20])), (a_7, .inl (cy 1, 30, .inl (mm_g [i_19, i_20, i_21, i_22, i_23, i_24, i_25, i_26, i_27, i_28, i_29, i_30, i_31, i_32, i_33, i_34, i_35, i_36, i_37, i_38, i_39, i_40, i_41, i_42, i_43, i_44, i_45, i_46, i_47, i_48])))] [.ref a_0, .int i_0, .int i_1] (fun u : Unit => [(a_0, .inr (12, [.int i_2, .ref a_1, .ref a_2, .ref a_3, .ref a_4, .ref a_5, .int i_3, .int i_4, .int i_5, .int i_6, .int i_7, .long j_0, .int i_8, .int i_9, .int i_10, .int i_11, .ref a_6, .ref a_7, .ref a_8, .ref a_9, .ref a_10, .ref a_11, .ref a_12, .ref a_13, .ref a_14, .ref a_15, .ref a_16, .ref a_17, .ref a_18, .int i_12, .int i_13, .int i_14, .int i_15, .int i_16, .int i_17, .ref a_19, .int i_18, .ref a_20])), (a_7, .inl (cy 1, 30, .inl (mm_g [i_19, i_20, i_21, i_22, i_23, i_24, i_25, i_26, i_27, i_28, i_29, i_30, i_31, i_32, i_33, i_34, i_35, i_36, i_37, i_38, i_39, i_40, i_41, i_42, i_43, i_44, i_45, i_46, i_47, i_48])))]) (fun (r : Int32) (u : Unit) => ((0 = r) ∨ (1 = r ∧ mm_rg i_0 0 2 ∧ mm_rg i_1 0 1000000000 ∧ (i_0 : Int32).toInt < (i_22 : Int32).toInt))) 0 0 := by
  refine mm_begin (lv := [(0, .ref a_0), (1, .int i_0), (2, .int i_1)]) (by decide) (Nat.le_of_ble_eq_true rfl) rfl ?_
  intro p e s m below meth c A ls R args Q H locs hRe hQ hAe hx hb hr hlocks hml hown hnm hts hsz hA hS hP hK hD hZ hl
  have hRf : R.frames = 2 := by rw [hRe]
  have hRl : R.locals = 46 := by rw [hRe]
  have hRc : R.cells = 0 := by rw [hRe]
  have hRs : R.slots = 0 := by rw [hRe]
  refine lv_aload_n hx hb dX12_isThen_0 rfl (lv_at hl 0 rfl) ?_
  refine lv_iload_n hx hb dX12_isThen_1 rfl (lv_at hl 1 rfl) ?_
  refine mm_finir (va_runV (As := [.int i_0]) (rest := []) ⟨hx, hb, hml, hown, hts⟩ (M98_X12_isLand l G cy H.size a_0 i_0 i_2 a_1 a_2 a_3 a_4 a_5 i_3 i_4 i_5 i_6 i_7 j_0 i_8 i_9 i_10 i_11 a_6 a_7 a_8 a_9 a_10 a_11 a_12 a_13 a_14 a_15 a_16 a_17 a_18 i_12 i_13 i_14 i_15 i_16 i_17 a_19 i_18 a_20 i_19 i_20 i_21 i_22 i_23 i_24 i_25 i_26 i_27 i_28 i_29 i_30 i_31 i_32 i_33 i_34 i_35 i_36 i_37 i_38 i_39 i_40 i_41 i_42 i_43 i_44 i_45 i_46 i_47 i_48 h0 h1 h2 h3 h4 h5 h6 h7 h8 h9 h10 h11 h12 h13 h14 h15 h16 h17 h18 h19 h20 h21 h22 h23 h24 h25 h26 h27 h28 h29) (cwV 1 hts (mm_gV mm_w641 mm_w642 mm_w643 mm_w5 mm_w644) rfl rfl rfl hd_X12_isLand ⟨by rw [hRf]; exact Nat.le_of_ble_eq_true rfl, by rw [hRl]; exact Nat.le_of_ble_eq_true rfl⟩) (mm_preV hK hZ hS hA hP hD [0, 1] rfl rfl 0 rfl rfl rfl) rfl rfl hl.1 rfl (lv_room (Nat.le_of_ble_eq_true rfl)) dX12_isThen_2 ⟨by rw [hRc]; exact Nat.le_of_ble_eq_true rfl, by rw [hRs]; exact Nat.le_of_ble_eq_true rfl⟩) hP hD hS hA [0, 1] rfl (fun _ => rfl) ?_
  clear hP hD hS
  clear H locs
  intro v1 _u H locs hw hP hD hS
  rcases hw with rfl | ⟨rfl, w2, w3⟩
  · refine lv_if_eq (tgt := 19) hx hb dX12_isThen_5 (by decide) (fun c4 => ?_) (fun c4 => ?_)
    · refine lv_iconst (v := 0) hx hb dX12_isThen_19 (by decide) ?_
      subst hAe
      rw [hQ]
      exact W.zret (v := 0) hx hb hr rfl (fun t ht hW => ⟨⟨0, (), rfl, (Or.inl rfl), by rw [ht]; exact hP, hK.warm hW, hD⟩, hS.F ht⟩) hS.2.2 dX12_isThen_20
    · exact absurd rfl (mm_ne c4)
  · have q5 := mm_ltR (lo := 1) w3 w2 h3 (by decide)
    refine lv_if_eq (tgt := 19) hx hb dX12_isThen_5 (by decide) (fun c6 => ?_) (fun c6 => ?_)
    · exact mm_eqN c6.symm mm_k0 mm_k1 (by decide)
    · refine lv_iload_n hx hb dX12_isThen_8 rfl (lv_at hl 2 rfl) ?_
      refine mm_finir (va_runS (As := [.int i_1]) (rest := []) ⟨hx, hb, hml, hown, hts⟩ (M103_X12_isDay l G cy H.size i_1 ) (va_cwS 1 hts (mm_gS mm_w682 mm_w683 mm_w5 mm_w684) rfl rfl rfl hs_X12_isDay ⟨by rw [hRf]; exact Nat.le_of_ble_eq_true rfl, by rw [hRl]; exact Nat.le_of_ble_eq_true rfl⟩) (mm_preS hK hZ hS hA hP hD [] rfl rfl) rfl rfl hl.1 rfl (lv_room (Nat.le_of_ble_eq_true rfl)) dX12_isThen_9 ⟨by rw [hRc]; exact Nat.le_of_ble_eq_true rfl, by rw [hRs]; exact Nat.le_of_ble_eq_true rfl⟩) hP hD hS hA [] rfl (fun _ => rfl) ?_
      clear hP hD hS
      clear H locs
      intro v7 _u H locs hw hP hD hS
      rcases hw with rfl | ⟨rfl, w8⟩
      · refine lv_if_eq (tgt := 19) hx hb dX12_isThen_12 (by decide) (fun c9 => ?_) (fun c9 => ?_)
        · refine lv_iconst (v := 0) hx hb dX12_isThen_19 (by decide) ?_
          subst hAe
          rw [hQ]
          exact W.zret (v := 0) hx hb hr rfl (fun t ht hW => ⟨⟨0, (), rfl, (Or.inl rfl), by rw [ht]; exact hP, hK.warm hW, hD⟩, hS.F ht⟩) hS.2.2 dX12_isThen_20
        · exact absurd rfl (mm_ne c9)
      · refine lv_if_eq (tgt := 19) hx hb dX12_isThen_12 (by decide) (fun c10 => ?_) (fun c10 => ?_)
        · exact mm_eqN c10.symm mm_k0 mm_k1 (by decide)
        · refine lv_iconst (v := 1) hx hb dX12_isThen_15 (by decide) ?_
          refine lv_goto (tgt := 20) hx hb dX12_isThen_16 (by decide) ?_
          subst hAe
          rw [hQ]
          exact W.zret (v := 1) hx hb hr rfl (fun t ht hW => ⟨⟨1, (), rfl, (Or.inr ⟨rfl, w2, w8, w3⟩), by rw [ht]; exact hP, hK.warm hW, hD⟩, hS.F ht⟩) hS.2.2 dX12_isThen_20

set_option maxHeartbeats 4000000 in
set_option maxRecDepth 100000 in
theorem M105_X12_turnOf (l : Launch) (G : va_G) (cy : Nat → ClassId) (sz : Nat) (a_0 : Nat) (i_0 : Int32) (i_1 : Int32) (i_2 : Int32) (a_1 : Nat) (a_2 : Nat) (a_3 : Nat) (a_4 : Nat) (a_5 : Nat) (i_3 : Int32) (i_4 : Int32) (i_5 : Int32) (i_6 : Int32) (i_7 : Int32) (j_0 : Int64) (i_8 : Int32) (i_9 : Int32) (i_10 : Int32) (i_11 : Int32) (a_6 : Nat) (a_7 : Nat) (a_8 : Nat) (a_9 : Nat) (a_10 : Nat) (a_11 : Nat) (a_12 : Nat) (a_13 : Nat) (a_14 : Nat) (a_15 : Nat) (a_16 : Nat) (a_17 : Nat) (a_18 : Nat) (i_12 : Int32) (i_13 : Int32) (i_14 : Int32) (i_15 : Int32) (i_16 : Int32) (i_17 : Int32) (a_19 : Nat) (i_18 : Int32) (a_20 : Nat) (f_0 : Nat → Int32) (f_1 : Nat → Int32) (h0 : mm_rg i_0 0 2) (h1 : mm_rg i_1 0 9) (h2 : mm_ar f_0 0 7) (h3 : mm_ar f_1 0 9)  : mm_CI l yX12_turnOf (mm_ws yX12_turnOf cX12_turnOf 5 (some .int)) ({ frames := 0, cells := 0, slots := 0, locals := 0 } : Room) G cy sz [(a_0, .inr (12, [.int i_2, .ref a_1, .ref a_2, .ref a_3, .ref a_4, .ref a_5, .int i_3, .int i_4, .int i_5, .int i_6, .int i_7, .long j_0, .int i_8, .int i_9, .int i_10, .int i_11, .ref a_6, .ref a_7, .ref a_8, .ref a_9, .ref a_10, .ref a_11, .ref a_12, .ref a_13, .ref a_14, .ref a_15, .ref a_16, .ref a_17, .ref a_18, .int i_12, .int i_13, .int i_14, .int i_15, .int i_16, .int i_17, .ref a_19, .int i_18, .ref a_20])), (a_9, .inl (cy 1, 15, .inl f_0)), (a_10, .inl (cy 1, 1050, .inl f_1))] [.ref a_0, .int i_0, .int i_1] (fun u : Unit => [(a_0, .inr (12, [.int i_2, .ref a_1, .ref a_2, .ref a_3, .ref a_4, .ref a_5, .int i_3, .int i_4, .int i_5, .int i_6, .int i_7, .long j_0, .int i_8, .int i_9, .int i_10, .int i_11, .ref a_6, .ref a_7, .ref a_8, .ref a_9, .ref a_10, .ref a_11, .ref a_12, .ref a_13, .ref a_14, .ref a_15, .ref a_16, .ref a_17, .ref a_18, .int i_12, .int i_13, .int i_14, .int i_15, .int i_16, .int i_17, .ref a_19, .int i_18, .ref a_20])), (a_9, .inl (cy 1, 15, .inl f_0)), (a_10, .inl (cy 1, 1050, .inl f_1))]) (fun (r : Int32) (u : Unit) => mm_rg r 0 9 ∧ mm_tr f_0 f_1 i_0 i_1 r) 0 0 := by
  refine mm_begin (lv := [(0, .ref a_0), (1, .int i_0), (2, .int i_1)]) (by decide) (Nat.le_of_ble_eq_true rfl) rfl ?_
  intro p e s m below meth c A ls R args Q H locs hRe hQ hAe hx hb hr hlocks hml hown hnm hts hsz hA hS hP hK hD hZ hl
  have hRf : R.frames = 0 := by rw [hRe]
  have hRl : R.locals = 0 := by rw [hRe]
  have hRc : R.cells = 0 := by rw [hRe]
  have hRs : R.slots = 0 := by rw [hRe]
  refine lv_iload_n hx hb dX12_turnOf_0 rfl (lv_at hl 2 rfl) ?_
  refine lv_istore_n (lv' := [(3, .int i_1), (0, .ref a_0), (1, .int i_0), (2, .int i_1)]) hx hb dX12_turnOf_1 rfl hl (by decide) rfl ?_
  clear hl
  clear ls
  intro ls hl
  refine lv_aload_n hx hb dX12_turnOf_2 rfl (lv_at hl 1 rfl) ?_
  refine va_get (D := G) (ci := 12) (v := .ref a_9) (C := RX12) (T := TX12) (N := 38) hx hb hts (mm_i inlX12) hown hK.1 hP 0 rfl rfl 19 (by decide) (mm_h hts mm_w151) (fun _ h9 => h9) rfl dX12_turnOf_3 ?_
  refine lv_iload_n hx hb dX12_turnOf_6 rfl (lv_at hl 2 rfl) ?_
  refine va_iald hx hb hK.1 hP 1 1 rfl rfl (mm_in h0 (by decide)) dX12_turnOf_7 ?_
  refine lv_topi (fun v1 ev1 => ?_)
  have rv1 : mm_rg v1 0 7 := mm_eqv ev1 (h2 _)
  refine lv_iconst (v := 1) hx hb dX12_turnOf_8 (by decide) ?_
  refine lv_isub hx hb dX12_turnOf_9 ?_
  refine lv_topi (fun v2 ev2 => ?_)
  have rv2 : mm_rg v2 (-1) 6 := mm_sub ev2 rv1 mm_k1 (by decide) (by decide)
  have tv2 := mm_subEc ev2 rv1 mm_k1 (by decide) (k := (-1)) (by decide)
  refine lv_istore (lv' := [(4, .int v2), (3, .int i_1), (0, .ref a_0), (1, .int i_0), (2, .int i_1)]) hx hb dX12_turnOf_10 hl (by decide) rfl ?_
  clear hl
  clear ls
  intro ls hl
  have L12_25 : ∀ (n : Nat) (x12_4_23 : Int32) (x12_3_24 : Int32), mm_rg x12_4_23 (-1) 6 → mm_rg x12_3_24 0 9 → mm_tri f_0 f_1 i_0 i_1 x12_4_23 x12_3_24 → (x12_4_23.toInt - (-1)).toNat < n → ∀ (H : Heap) (locs : List Loc), va_P G vwCl [(a_0, .inr (12, [.int i_2, .ref a_1, .ref a_2, .ref a_3, .ref a_4, .ref a_5, .int i_3, .int i_4, .int i_5, .int i_6, .int i_7, .long j_0, .int i_8, .int i_9, .int i_10, .int i_11, .ref a_6, .ref a_7, .ref a_8, .ref a_9, .ref a_10, .ref a_11, .ref a_12, .ref a_13, .ref a_14, .ref a_15, .ref a_16, .ref a_17, .ref a_18, .int i_12, .int i_13, .int i_14, .int i_15, .int i_16, .int i_17, .ref a_19, .int i_18, .ref a_20])), (a_9, .inl (cy 1, 15, .inl f_0)), (a_10, .inl (cy 1, 1050, .inl f_1))] H → va_D A [(a_0, .inr (12, [.int i_2, .ref a_1, .ref a_2, .ref a_3, .ref a_4, .ref a_5, .int i_3, .int i_4, .int i_5, .int i_6, .int i_7, .long j_0, .int i_8, .int i_9, .int i_10, .int i_11, .ref a_6, .ref a_7, .ref a_8, .ref a_9, .ref a_10, .ref a_11, .ref a_12, .ref a_13, .ref a_14, .ref a_15, .ref a_16, .ref a_17, .ref a_18, .int i_12, .int i_13, .int i_14, .int i_15, .int i_16, .int i_17, .ref a_19, .int i_18, .ref a_20])), (a_9, .inl (cy 1, 15, .inl f_0)), (a_10, .inl (cy 1, 1050, .inl f_1))] → va_S A s.heap H locs → ∀ (ls : Array Slot), lv_has ls 5 [(4, .int x12_4_23), (3, .int x12_3_24), (0, .ref a_0), (1, .int i_0), (2, .int i_1)] → W p l e R s m args below meth c H locs 0 0 Q (F0 m 12 ls []) := by
    intro n
    induction n with
    | zero => intro x12_4_23 x12_3_24 rx12_4_23 rx12_3_24 w25 hm; exact absurd hm (Nat.not_lt_zero _)
    | succ n ih12 =>
      intro x12_4_23 x12_3_24 rx12_4_23 rx12_3_24 w25 hm12 H locs hP hD hS ls hl
      refine lv_iload hx hb dX12_turnOf_12 (lv_at hl 0 rfl) ?_
      refine lv_if_lt (tgt := 41) hx hb dX12_turnOf_14 (by decide) (fun c27 => ?_) (fun c27 => ?_)
      · have q28 := mm_ltL (h := (-1)) (mm_lt c27) rx12_4_23 mm_k0 (by decide)
        refine lv_iload_n hx hb dX12_turnOf_41 rfl (lv_at hl 1 rfl) ?_
        have w29 : mm_tr f_0 f_1 i_0 i_1 x12_3_24 := (mm_tr_of w25 q28 (by decide))
        subst hAe
        rw [hQ]
        exact W.iret (v := x12_3_24) hx hb hr (fun t ht hW => ⟨⟨x12_3_24, (), rfl, ⟨rx12_3_24, w29⟩, by rw [ht]; exact hP, hK.warm hW, hD⟩, hS.F ht⟩) hS.2.2 dX12_turnOf_42
      · have q30 := mm_leR (mm_nlt c27) mm_k0 rx12_4_23
        refine lv_aload_n hx hb dX12_turnOf_17 rfl (lv_at hl 2 rfl) ?_
        refine va_get (D := G) (ci := 12) (v := .ref a_10) (C := RX12) (T := TX12) (N := 38) hx hb hts (mm_i inlX12) hown hK.1 hP 0 rfl rfl 20 (by decide) (mm_h hts mm_w152) (fun _ h9 => h9) rfl dX12_turnOf_18 ?_
        refine lv_bipush (v := 10) hx hb dX12_turnOf_21 (by decide) ?_
        refine lv_bipush (v := 7) hx hb dX12_turnOf_23 (by decide) ?_
        refine lv_iload_n hx hb dX12_turnOf_25 rfl (lv_at hl 3 rfl) ?_
        refine lv_imul hx hb dX12_turnOf_26 ?_
        refine lv_topi (fun v31 ev31 => ?_)
        have rv31 : mm_rg v31 0 14 := mm_mul ev31 mm_k7 h0 (by decide) (by decide)
        have tv31 := mm_mulEc ev31 mm_k7 h0 (by decide) (k := 7) (by decide)
        refine lv_iload hx hb dX12_turnOf_27 (lv_at hl 0 rfl) ?_
        refine lv_iadd hx hb dX12_turnOf_29 ?_
        refine lv_topi (fun v32 ev32 => ?_)
        have rv32 : mm_rg v32 0 20 := mm_add ev32 rv31 q30 (by decide) (by decide)
        have tv32 := mm_addE ev32 rv31 q30 (by decide)
        refine lv_imul hx hb dX12_turnOf_30 ?_
        refine lv_topi (fun v33 ev33 => ?_)
        have rv33 : mm_rg v33 0 200 := mm_mul ev33 mm_k10 rv32 (by decide) (by decide)
        have tv33 := mm_mulEc ev33 mm_k10 rv32 (by decide) (k := 10) (by decide)
        refine lv_iload_n hx hb dX12_turnOf_31 rfl (lv_at hl 1 rfl) ?_
        refine lv_iadd hx hb dX12_turnOf_32 ?_
        refine lv_topi (fun v34 ev34 => ?_)
        have rv34 : mm_rg v34 0 209 := mm_add ev34 rv33 rx12_3_24 (by decide) (by decide)
        have tv34 := mm_addE ev34 rv33 rx12_3_24 (by decide)
        refine va_iald hx hb hK.1 hP 2 1 rfl rfl (mm_in rv34 (by decide)) dX12_turnOf_33 ?_
        refine lv_topi (fun v35 ev35 => ?_)
        have rv35 : mm_rg v35 0 9 := mm_eqv ev35 (h3 _)
        refine lv_istore_n (lv' := [(3, .int v35), (4, .int x12_4_23), (0, .ref a_0), (1, .int i_0), (2, .int i_1)]) hx hb dX12_turnOf_34 rfl hl (by decide) rfl ?_
        clear hl
        clear ls
        intro ls hl
        obtain ⟨v36, ev36⟩ : ∃ y : Int32, y = x12_4_23 + (-1) := ⟨_, rfl⟩
        refine lv_iinc (v := v36) (lv' := [(4, .int v36), (3, .int v35), (0, .ref a_0), (1, .int i_0), (2, .int i_1)]) hx hb dX12_turnOf_35 hl (k := 1) rfl (by rw [ev36]; rfl) (by decide) rfl ?_
        clear hl
        clear ls
        intro ls hl
        have rv36 : mm_rg v36 (-1) 5 := mm_add ev36 q30 mm_km1 (by decide) (by decide)
        have tv36 := mm_addEc ev36 q30 mm_km1 (by decide) (k := (-1)) (by decide)
        refine lv_goto (tgt := 12) hx hb dX12_turnOf_38 (by decide) ?_
        exact ih12 v36 v35 (mm_wk rv36 (by decide)) rv35 (mm_tri_s w25 tv36 ev35 (by have h8 := tv34; have h9 : (v33 : Int32).toInt = 10 * (7 * (i_0 : Int32).toInt + (x12_4_23 : Int32).toInt) := (by have := tv33; have := tv32; have := tv31; omega); omega) q30 rx12_3_24 h0 trivial (by decide)) (mm_md hm12 tv36 (by decide) (rv36).1 (by decide)) H locs hP hD hS ls (lv_sub hl [0, 1, 2, 3, 4] rfl)
  exact L12_25 _ v2 i_1 rv2 h1 (mm_tri_0 ev1 tv2 rv1 h0 (by decide)) (Nat.lt_succ_self _) H locs hP hD hS ls (lv_sub hl [0, 1, 2, 3, 4] rfl)

set_option maxHeartbeats 4000000 in
set_option maxRecDepth 100000 in
theorem M106_X12_cycleOf (l : Launch) (G : va_G) (cy : Nat → ClassId) (sz : Nat) (a_0 : Nat) (i_0 : Int32) (i_1 : Int32) (i_2 : Int32) (a_1 : Nat) (a_2 : Nat) (a_3 : Nat) (a_4 : Nat) (a_5 : Nat) (i_3 : Int32) (i_4 : Int32) (i_5 : Int32) (i_6 : Int32) (i_7 : Int32) (j_0 : Int64) (i_8 : Int32) (i_9 : Int32) (i_10 : Int32) (i_11 : Int32) (a_6 : Nat) (a_7 : Nat) (a_8 : Nat) (a_9 : Nat) (a_10 : Nat) (a_11 : Nat) (a_12 : Nat) (a_13 : Nat) (a_14 : Nat) (a_15 : Nat) (a_16 : Nat) (a_17 : Nat) (a_18 : Nat) (i_12 : Int32) (i_13 : Int32) (i_14 : Int32) (i_15 : Int32) (i_16 : Int32) (i_17 : Int32) (a_19 : Nat) (i_18 : Int32) (a_20 : Nat) (f_0 : Nat → Int32) (f_1 : Nat → Int32) (h0 : mm_rg i_0 0 2) (h1 : mm_rg i_1 0 9) (h2 : mm_ar f_0 0 7) (h3 : mm_ar f_1 0 9) (h4 : mm_rw f_0 f_1 i_0 i_1)  : mm_CI l yX12_cycleOf (mm_ws yX12_cycleOf cX12_cycleOf 5 (some .int)) ({ frames := 1, cells := 0, slots := 0, locals := 24 } : Room) G cy sz [(a_0, .inr (12, [.int i_2, .ref a_1, .ref a_2, .ref a_3, .ref a_4, .ref a_5, .int i_3, .int i_4, .int i_5, .int i_6, .int i_7, .long j_0, .int i_8, .int i_9, .int i_10, .int i_11, .ref a_6, .ref a_7, .ref a_8, .ref a_9, .ref a_10, .ref a_11, .ref a_12, .ref a_13, .ref a_14, .ref a_15, .ref a_16, .ref a_17, .ref a_18, .int i_12, .int i_13, .int i_14, .int i_15, .int i_16, .int i_17, .ref a_19, .int i_18, .ref a_20])), (a_9, .inl (cy 1, 15, .inl f_0)), (a_10, .inl (cy 1, 1050, .inl f_1))] [.ref a_0, .int i_0, .int i_1] (fun u : Unit => [(a_0, .inr (12, [.int i_2, .ref a_1, .ref a_2, .ref a_3, .ref a_4, .ref a_5, .int i_3, .int i_4, .int i_5, .int i_6, .int i_7, .long j_0, .int i_8, .int i_9, .int i_10, .int i_11, .ref a_6, .ref a_7, .ref a_8, .ref a_9, .ref a_10, .ref a_11, .ref a_12, .ref a_13, .ref a_14, .ref a_15, .ref a_16, .ref a_17, .ref a_18, .int i_12, .int i_13, .int i_14, .int i_15, .int i_16, .int i_17, .ref a_19, .int i_18, .ref a_20])), (a_9, .inl (cy 1, 15, .inl f_0)), (a_10, .inl (cy 1, 1050, .inl f_1))]) (fun (r : Int32) (u : Unit) => mm_rg r 1 10 ∧ mm_per f_0 f_1 i_0 i_1 r) 0 0 := by
  refine mm_begin (lv := [(0, .ref a_0), (1, .int i_0), (2, .int i_1)]) (by decide) (Nat.le_of_ble_eq_true rfl) rfl ?_
  intro p e s m below meth c A ls R args Q H locs hRe hQ hAe hx hb hr hlocks hml hown hnm hts hsz hA hS hP hK hD hZ hl
  have hRf : R.frames = 1 := by rw [hRe]
  have hRl : R.locals = 24 := by rw [hRe]
  have hRc : R.cells = 0 := by rw [hRe]
  have hRs : R.slots = 0 := by rw [hRe]
  refine lv_iconst (v := 1) hx hb dX12_cycleOf_0 (by decide) ?_
  refine lv_istore_n (lv' := [(3, .int 1), (0, .ref a_0), (1, .int i_0), (2, .int i_1)]) hx hb dX12_cycleOf_1 rfl hl (by decide) rfl ?_
  clear hl
  clear ls
  intro ls hl
  refine lv_aload_n hx hb dX12_cycleOf_2 rfl (lv_at hl 1 rfl) ?_
  refine lv_iload_n hx hb dX12_cycleOf_3 rfl (lv_at hl 2 rfl) ?_
  refine lv_iload_n hx hb dX12_cycleOf_4 rfl (lv_at hl 3 rfl) ?_
  refine mm_finir (va_runV (As := [.int i_0, .int i_1]) (rest := []) ⟨hx, hb, hml, hown, hts⟩ (M105_X12_turnOf l G cy H.size a_0 i_0 i_1 i_2 a_1 a_2 a_3 a_4 a_5 i_3 i_4 i_5 i_6 i_7 j_0 i_8 i_9 i_10 i_11 a_6 a_7 a_8 a_9 a_10 a_11 a_12 a_13 a_14 a_15 a_16 a_17 a_18 i_12 i_13 i_14 i_15 i_16 i_17 a_19 i_18 a_20 f_0 f_1 h0 h1 h2 h3) (cwV 2 hts (mm_gV mm_w702 mm_w703 mm_w704 mm_w5 mm_w705) rfl rfl rfl hd_X12_turnOf ⟨by rw [hRf]; exact Nat.le_of_ble_eq_true rfl, by rw [hRl]; exact Nat.le_of_ble_eq_true rfl⟩) (mm_preV hK hZ hS hA hP hD [0, 1, 2] rfl rfl 0 rfl rfl rfl) rfl rfl hl.1 rfl (lv_room (Nat.le_of_ble_eq_true rfl)) dX12_cycleOf_5 ⟨by rw [hRc]; exact Nat.le_of_ble_eq_true rfl, by rw [hRs]; exact Nat.le_of_ble_eq_true rfl⟩) hP hD hS hA [0, 1, 2] rfl (fun _ => rfl) ?_
  clear hP hD hS
  clear H locs
  intro v1 _u H locs hw hP hD hS
  obtain ⟨w2, w3⟩ := hw
  refine lv_istore (lv' := [(4, .int v1), (3, .int 1), (0, .ref a_0), (1, .int i_0), (2, .int i_1)]) hx hb dX12_cycleOf_8 hl (by decide) rfl ?_
  clear hl
  clear ls
  intro ls hl
  have L10_16 : ∀ (n : Nat) (x10_4_14 : Int32) (x10_3_15 : Int32), mm_rg x10_4_14 0 9 → mm_rg x10_3_15 1 10 → mm_cy f_0 f_1 i_0 i_1 x10_3_15 x10_4_14 → (10 - x10_3_15.toInt).toNat < n → ∀ (H : Heap) (locs : List Loc), va_P G vwCl [(a_0, .inr (12, [.int i_2, .ref a_1, .ref a_2, .ref a_3, .ref a_4, .ref a_5, .int i_3, .int i_4, .int i_5, .int i_6, .int i_7, .long j_0, .int i_8, .int i_9, .int i_10, .int i_11, .ref a_6, .ref a_7, .ref a_8, .ref a_9, .ref a_10, .ref a_11, .ref a_12, .ref a_13, .ref a_14, .ref a_15, .ref a_16, .ref a_17, .ref a_18, .int i_12, .int i_13, .int i_14, .int i_15, .int i_16, .int i_17, .ref a_19, .int i_18, .ref a_20])), (a_9, .inl (cy 1, 15, .inl f_0)), (a_10, .inl (cy 1, 1050, .inl f_1))] H → va_D A [(a_0, .inr (12, [.int i_2, .ref a_1, .ref a_2, .ref a_3, .ref a_4, .ref a_5, .int i_3, .int i_4, .int i_5, .int i_6, .int i_7, .long j_0, .int i_8, .int i_9, .int i_10, .int i_11, .ref a_6, .ref a_7, .ref a_8, .ref a_9, .ref a_10, .ref a_11, .ref a_12, .ref a_13, .ref a_14, .ref a_15, .ref a_16, .ref a_17, .ref a_18, .int i_12, .int i_13, .int i_14, .int i_15, .int i_16, .int i_17, .ref a_19, .int i_18, .ref a_20])), (a_9, .inl (cy 1, 15, .inl f_0)), (a_10, .inl (cy 1, 1050, .inl f_1))] → va_S A s.heap H locs → ∀ (ls : Array Slot), lv_has ls 5 [(4, .int x10_4_14), (3, .int x10_3_15), (0, .ref a_0), (1, .int i_0), (2, .int i_1)] → W p l e R s m args below meth c H locs 0 0 Q (F0 m 10 ls []) := by
    intro n
    induction n with
    | zero => intro x10_4_14 x10_3_15 rx10_4_14 rx10_3_15 w16 hm; exact absurd hm (Nat.not_lt_zero _)
    | succ n ih10 =>
      intro x10_4_14 x10_3_15 rx10_4_14 rx10_3_15 w16 hm10 H locs hP hD hS ls hl
      refine lv_iload hx hb dX12_cycleOf_10 (lv_at hl 0 rfl) ?_
      refine lv_iload_n hx hb dX12_cycleOf_12 rfl (lv_at hl 4 rfl) ?_
      refine lv_icmp_eq (tgt := 31) hx hb dX12_cycleOf_13 (by decide) (fun c18 => ?_) (fun c18 => ?_)
      · refine lv_iload_n hx hb dX12_cycleOf_31 rfl (lv_at hl 1 rfl) ?_
        have w19 : mm_per f_0 f_1 i_0 i_1 x10_3_15 := (mm_per_of w16 c18 (Int.le_trans (by decide) (rx10_3_15).1))
        subst hAe
        rw [hQ]
        exact W.iret (v := x10_3_15) hx hb hr (fun t ht hW => ⟨⟨x10_3_15, (), rfl, ⟨rx10_3_15, w19⟩, by rw [ht]; exact hP, hK.warm hW, hD⟩, hS.F ht⟩) hS.2.2 dX12_cycleOf_32
      · have q20 : mm_rg x10_3_15 1 9 := mm_cy_lt w16 h4 (mm_ne c18) rx10_3_15 (by decide)
        obtain ⟨v21, ev21⟩ : ∃ y : Int32, y = x10_3_15 + 1 := ⟨_, rfl⟩
        refine lv_iinc (v := v21) (lv' := [(3, .int v21), (4, .int x10_4_14), (0, .ref a_0), (1, .int i_0), (2, .int i_1)]) hx hb dX12_cycleOf_16 hl (k := 1) rfl (by rw [ev21]; rfl) (by decide) rfl ?_
        clear hl
        clear ls
        intro ls hl
        have rv21 : mm_rg v21 2 10 := mm_add ev21 q20 mm_k1 (by decide) (by decide)
        have tv21 := mm_addEc ev21 q20 mm_k1 (by decide) (k := 1) (by decide)
        refine lv_aload_n hx hb dX12_cycleOf_19 rfl (lv_at hl 2 rfl) ?_
        refine lv_iload_n hx hb dX12_cycleOf_20 rfl (lv_at hl 3 rfl) ?_
        refine lv_iload hx hb dX12_cycleOf_21 (lv_at hl 1 rfl) ?_
        refine mm_finir (va_runV (As := [.int i_0, .int x10_4_14]) (rest := []) ⟨hx, hb, hml, hown, hts⟩ (M105_X12_turnOf l G cy H.size a_0 i_0 x10_4_14 i_2 a_1 a_2 a_3 a_4 a_5 i_3 i_4 i_5 i_6 i_7 j_0 i_8 i_9 i_10 i_11 a_6 a_7 a_8 a_9 a_10 a_11 a_12 a_13 a_14 a_15 a_16 a_17 a_18 i_12 i_13 i_14 i_15 i_16 i_17 a_19 i_18 a_20 f_0 f_1 h0 rx10_4_14 h2 h3) (cwV 2 hts (mm_gV mm_w702 mm_w703 mm_w704 mm_w5 mm_w705) rfl rfl rfl hd_X12_turnOf ⟨by rw [hRf]; exact Nat.le_of_ble_eq_true rfl, by rw [hRl]; exact Nat.le_of_ble_eq_true rfl⟩) (mm_preV hK hZ hS hA hP hD [0, 1, 2] rfl rfl 0 rfl rfl rfl) rfl rfl hl.1 rfl (lv_room (Nat.le_of_ble_eq_true rfl)) dX12_cycleOf_23 ⟨by rw [hRc]; exact Nat.le_of_ble_eq_true rfl, by rw [hRs]; exact Nat.le_of_ble_eq_true rfl⟩) hP hD hS hA [0, 1, 2] rfl (fun _ => rfl) ?_
        clear hP hD hS
        clear H locs
        intro v22 _u H locs hw hP hD hS
        obtain ⟨w23, w24⟩ := hw
        refine lv_istore (lv' := [(4, .int v22), (3, .int v21), (0, .ref a_0), (1, .int i_0), (2, .int i_1)]) hx hb dX12_cycleOf_26 hl (by decide) rfl ?_
        clear hl
        clear ls
        intro ls hl
        refine lv_goto (tgt := 10) hx hb dX12_cycleOf_28 (by decide) ?_
        exact ih10 v22 v21 w23 (mm_wk rv21 (by decide)) (mm_cy_s w16 w24 (mm_ne c18) tv21 q20 (by decide)) (mm_mu hm10 tv21 (by decide) (rv21).2 (by decide)) H locs hP hD hS ls (lv_sub hl [0, 1, 2, 3, 4] rfl)
  exact L10_16 _ v1 1 w2 (mm_wk mm_k1 (by decide)) (mm_cy_1 w3) (Nat.lt_succ_self _) H locs hP hD hS ls (lv_sub hl [0, 1, 2, 3, 4] rfl)

set_option maxHeartbeats 4000000 in
set_option maxRecDepth 100000 in
theorem M107_X12_common (l : Launch) (G : va_G) (cy : Nat → ClassId) (sz : Nat) (i_0 : Int32) (i_1 : Int32) (h0 : mm_rg i_0 1 1) (h1 : mm_rg i_1 0 0)  : mm_CI l yX12_common (mm_ws yX12_common cX12_common 2 (some .int)) ({ frames := 0, cells := 0, slots := 0, locals := 0 } : Room) G cy sz [] [.int i_0, .int i_1] (fun u : Unit => []) (fun (r : Int32) (u : Unit) => i_0 = r ∧ mm_gcd i_0 i_1 r) 0 0 := by
  refine mm_begin (lv := [(0, .int i_0), (1, .int i_1)]) (by decide) (Nat.le_of_ble_eq_true rfl) rfl ?_
  intro p e s m below meth c A ls R args Q H locs hRe hQ hAe hx hb hr hlocks hml hown hnm hts hsz hA hS hP hK hD hZ hl
  have hRf : R.frames = 0 := by rw [hRe]
  have hRl : R.locals = 0 := by rw [hRe]
  have hRc : R.cells = 0 := by rw [hRe]
  have hRs : R.slots = 0 := by rw [hRe]
  refine lv_iload_n hx hb dX12_common_0 rfl (lv_at hl 1 rfl) ?_
  refine lv_if_ne (tgt := 8) hx hb dX12_common_1 (by decide) (fun c1 => ?_) (fun c1 => ?_)
  · have q2 := mm_neL (lo := 1) (mm_ne c1) h1 mm_k0 (by decide) (by decide)
    exact mm_no q2 (by decide)
  · refine lv_iload_n hx hb dX12_common_4 rfl (lv_at hl 0 rfl) ?_
    refine lv_goto (tgt := 15) hx hb dX12_common_5 (by decide) ?_
    have w3 : mm_gcd i_0 i_1 i_0 := (mm_gcd_0 h0 h1 (by decide))
    subst hAe
    rw [hQ]
    exact W.iret (v := i_0) hx hb hr (fun t ht hW => ⟨⟨i_0, (), rfl, ⟨rfl, w3⟩, by rw [ht]; exact hP, hK.warm hW, hD⟩, hS.F ht⟩) hS.2.2 dX12_common_15

set_option maxHeartbeats 4000000 in
set_option maxRecDepth 100000 in
theorem M108_X12_common (l : Launch) (G : va_G) (cy : Nat → ClassId) (sz : Nat) (i_0 : Int32) (i_1 : Int32) (h0 : mm_rg i_0 1 2) (h1 : mm_rg i_1 0 1)  : mm_CI l yX12_common (mm_ws yX12_common cX12_common 2 (some .int)) ({ frames := 1, cells := 0, slots := 0, locals := 21 } : Room) G cy sz [] [.int i_0, .int i_1] (fun u : Unit => []) (fun (r : Int32) (u : Unit) => mm_rg r 1 2 ∧ mm_gcd i_0 i_1 r) 0 0 := by
  refine mm_begin (lv := [(0, .int i_0), (1, .int i_1)]) (by decide) (Nat.le_of_ble_eq_true rfl) rfl ?_
  intro p e s m below meth c A ls R args Q H locs hRe hQ hAe hx hb hr hlocks hml hown hnm hts hsz hA hS hP hK hD hZ hl
  have hRf : R.frames = 1 := by rw [hRe]
  have hRl : R.locals = 21 := by rw [hRe]
  have hRc : R.cells = 0 := by rw [hRe]
  have hRs : R.slots = 0 := by rw [hRe]
  refine lv_iload_n hx hb dX12_common_0 rfl (lv_at hl 1 rfl) ?_
  refine lv_if_ne (tgt := 8) hx hb dX12_common_1 (by decide) (fun c1 => ?_) (fun c1 => ?_)
  · have q2 := mm_neL (lo := 1) (mm_ne c1) h1 mm_k0 (by decide) (by decide)
    refine lv_iload_n hx hb dX12_common_8 rfl (lv_at hl 1 rfl) ?_
    refine lv_iload_n hx hb dX12_common_9 rfl (lv_at hl 0 rfl) ?_
    refine lv_iload_n hx hb dX12_common_10 rfl (lv_at hl 1 rfl) ?_
    refine lv_irem hx hb dX12_common_11 (mm_nz q2 (by decide)) ?_
    refine lv_topi (fun v3 ev3 => ?_)
    have rv3 : mm_rg v3 0 0 := mm_rem ev3 h0 q2 (by decide) (by decide)
    refine mm_finir (va_runS (As := [.int i_1, .int v3]) (rest := []) ⟨hx, hb, hml, hown, hts⟩ (M107_X12_common l G cy H.size i_1 v3 q2 rv3) (va_cwS 2 hts (mm_gS mm_w706 mm_w707 mm_w5 mm_w708) rfl rfl rfl hs_X12_common ⟨by rw [hRf]; exact Nat.le_of_ble_eq_true rfl, by rw [hRl]; exact Nat.le_of_ble_eq_true rfl⟩) (mm_preS hK hZ hS hA hP hD [] rfl rfl) rfl rfl hl.1 rfl (lv_room (Nat.le_of_ble_eq_true rfl)) dX12_common_12 ⟨by rw [hRc]; exact Nat.le_of_ble_eq_true rfl, by rw [hRs]; exact Nat.le_of_ble_eq_true rfl⟩) hP hD hS hA [] rfl (fun _ => rfl) ?_
    clear hP hD hS
    clear H locs
    intro v4 _u H locs hw hP hD hS
    obtain ⟨rfl, w5⟩ := hw
    have w6 : mm_gcd i_0 i_1 i_1 := (mm_gcd_s w5 ev3 h0 q2 (by decide))
    subst hAe
    rw [hQ]
    exact W.iret (v := i_1) hx hb hr (fun t ht hW => ⟨⟨i_1, (), rfl, ⟨(mm_wk q2 (by decide)), w6⟩, by rw [ht]; exact hP, hK.warm hW, hD⟩, hS.F ht⟩) hS.2.2 dX12_common_15
  · have q7 := mm_eqI (lo := 0) (hi := 0) c1 h1 mm_k0 (by decide)
    refine lv_iload_n hx hb dX12_common_4 rfl (lv_at hl 0 rfl) ?_
    refine lv_goto (tgt := 15) hx hb dX12_common_5 (by decide) ?_
    have w8 : mm_gcd i_0 i_1 i_0 := (mm_gcd_0 h0 q7 (by decide))
    subst hAe
    rw [hQ]
    exact W.iret (v := i_0) hx hb hr (fun t ht hW => ⟨⟨i_0, (), rfl, ⟨h0, w8⟩, by rw [ht]; exact hP, hK.warm hW, hD⟩, hS.F ht⟩) hS.2.2 dX12_common_15

