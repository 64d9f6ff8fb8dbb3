theorem dX12_heirsOf_0 : decode cX12_heirsOf 0 = .ok (.iload_n 3, 1) := by decide +kernel
theorem dX12_heirsOf_1 : decode cX12_heirsOf 1 = .ok (.ifCond .ne 7, 3) := by decide +kernel
theorem dX12_heirsOf_4 : decode cX12_heirsOf 4 = .ok (.iconst 0, 1) := by decide +kernel
theorem dX12_heirsOf_5 : decode cX12_heirsOf 5 = .ok (.goto 6, 3) := by decide +kernel
theorem dX12_heirsOf_8 : decode cX12_heirsOf 8 = .ok (.ldc_w 419, 3) := by decide +kernel
theorem dX12_heirsOf_11 : decode cX12_heirsOf 11 = .ok (.istore 4, 2) := by decide +kernel
theorem dX12_heirsOf_13 : decode cX12_heirsOf 13 = .ok (.iconst 0, 1) := by decide +kernel
theorem dX12_heirsOf_14 : decode cX12_heirsOf 14 = .ok (.istore 5, 2) := by decide +kernel
theorem dX12_heirsOf_16 : decode cX12_heirsOf 16 = .ok (.iload 5, 2) := by decide +kernel
theorem dX12_heirsOf_18 : decode cX12_heirsOf 18 = .ok (.aload_n 0, 1) := by decide +kernel
theorem dX12_heirsOf_19 : decode cX12_heirsOf 19 = .ok (.invokevirtual 260, 3) := by decide +kernel
theorem dX12_heirsOf_22 : decode cX12_heirsOf 22 = .ok (.if_icmp .ge 64, 3) := by decide +kernel
theorem dX12_heirsOf_25 : decode cX12_heirsOf 25 = .ok (.iload_n 3, 1) := by decide +kernel
theorem dX12_heirsOf_26 : decode cX12_heirsOf 26 = .ok (.iload 5, 2) := by decide +kernel
theorem dX12_heirsOf_28 : decode cX12_heirsOf 28 = .ok (.invokestatic 420, 3) := by decide +kernel
theorem dX12_heirsOf_31 : decode cX12_heirsOf 31 = .ok (.ifCond .ne 6, 3) := by decide +kernel
theorem dX12_heirsOf_34 : decode cX12_heirsOf 34 = .ok (.goto 46, 3) := by decide +kernel
theorem dX12_heirsOf_37 : decode cX12_heirsOf 37 = .ok (.aload_n 0, 1) := by decide +kernel
theorem dX12_heirsOf_38 : decode cX12_heirsOf 38 = .ok (.iload_n 1, 1) := by decide +kernel
theorem dX12_heirsOf_39 : decode cX12_heirsOf 39 = .ok (.iload_n 2, 1) := by decide +kernel
theorem dX12_heirsOf_40 : decode cX12_heirsOf 40 = .ok (.iload 5, 2) := by decide +kernel
theorem dX12_heirsOf_42 : decode cX12_heirsOf 42 = .ok (.invokevirtual 338, 3) := by decide +kernel
theorem dX12_heirsOf_45 : decode cX12_heirsOf 45 = .ok (.aload_n 0, 1) := by decide +kernel
theorem dX12_heirsOf_46 : decode cX12_heirsOf 46 = .ok (.iload_n 1, 1) := by decide +kernel
theorem dX12_heirsOf_47 : decode cX12_heirsOf 47 = .ok (.iload_n 2, 1) := by decide +kernel
theorem dX12_heirsOf_48 : decode cX12_heirsOf 48 = .ok (.iconst 1, 1) := by decide +kernel
theorem dX12_heirsOf_49 : decode cX12_heirsOf 49 = .ok (.iadd, 1) := by decide +kernel
theorem dX12_heirsOf_50 : decode cX12_heirsOf 50 = .ok (.iload_n 3, 1) := by decide +kernel
theorem dX12_heirsOf_51 : decode cX12_heirsOf 51 = .ok (.iconst 1, 1) := by decide +kernel
theorem dX12_heirsOf_52 : decode cX12_heirsOf 52 = .ok (.iload 5, 2) := by decide +kernel
theorem dX12_heirsOf_54 : decode cX12_heirsOf 54 = .ok (.ishl, 1) := by decide +kernel
theorem dX12_heirsOf_55 : decode cX12_heirsOf 55 = .ok (.iconst (-1), 1) := by decide +kernel
theorem dX12_heirsOf_56 : decode cX12_heirsOf 56 = .ok (.ixor, 1) := by decide +kernel
theorem dX12_heirsOf_57 : decode cX12_heirsOf 57 = .ok (.iand, 1) := by decide +kernel
theorem dX12_heirsOf_58 : decode cX12_heirsOf 58 = .ok (.invokevirtual 423, 3) := by decide +kernel
theorem dX12_heirsOf_61 : decode cX12_heirsOf 61 = .ok (.isub, 1) := by decide +kernel
theorem dX12_heirsOf_62 : decode cX12_heirsOf 62 = .ok (.istore 6, 2) := by decide +kernel
theorem dX12_heirsOf_64 : decode cX12_heirsOf 64 = .ok (.iload 6, 2) := by decide +kernel
theorem dX12_heirsOf_66 : decode cX12_heirsOf 66 = .ok (.iload 4, 2) := by decide +kernel
theorem dX12_heirsOf_68 : decode cX12_heirsOf 68 = .ok (.if_icmp .le 8, 3) := by decide +kernel
theorem dX12_heirsOf_71 : decode cX12_heirsOf 71 = .ok (.iload 6, 2) := by decide +kernel
theorem dX12_heirsOf_73 : decode cX12_heirsOf 73 = .ok (.goto 5, 3) := by decide +kernel
theorem dX12_heirsOf_76 : decode cX12_heirsOf 76 = .ok (.iload 4, 2) := by decide +kernel
theorem dX12_heirsOf_78 : decode cX12_heirsOf 78 = .ok (.istore 4, 2) := by decide +kernel
theorem dX12_heirsOf_80 : decode cX12_heirsOf 80 = .ok (.iinc 5 1, 3) := by decide +kernel
theorem dX12_heirsOf_83 : decode cX12_heirsOf 83 = .ok (.goto (-67), 3) := by decide +kernel
theorem dX12_heirsOf_86 : decode cX12_heirsOf 86 = .ok (.iload 4, 2) := by decide +kernel
theorem dX12_heirsOf_88 : decode cX12_heirsOf 88 = .ok (.ireturn, 1) := by decide +kernel
theorem dX12_isBit_0 : decode cX12_isBit 0 = .ok (.iload_n 0, 1) := by decide +kernel
theorem dX12_isBit_1 : decode cX12_isBit 1 = .ok (.iload_n 1, 1) := by decide +kernel
theorem dX12_isBit_2 : decode cX12_isBit 2 = .ok (.ishr, 1) := by decide +kernel
theorem dX12_isBit_3 : decode cX12_isBit 3 = .ok (.iconst 1, 1) := by decide +kernel
theorem dX12_isBit_4 : decode cX12_isBit 4 = .ok (.iand, 1) := by decide +kernel
theorem dX12_isBit_5 : decode cX12_isBit 5 = .ok (.iconst 1, 1) := by decide +kernel
theorem dX12_isBit_6 : decode cX12_isBit 6 = .ok (.if_icmp .ne 7, 3) := by decide +kernel
theorem dX12_isBit_9 : decode cX12_isBit 9 = .ok (.iconst 1, 1) := by decide +kernel
theorem dX12_isBit_10 : decode cX12_isBit 10 = .ok (.goto 4, 3) := by decide +kernel
theorem dX12_isBit_13 : decode cX12_isBit 13 = .ok (.iconst 0, 1) := by decide +kernel
theorem dX12_isBit_14 : decode cX12_isBit 14 = .ok (.ireturn, 1) := by decide +kernel
theorem dX12_isWording_0 : decode cX12_isWording 0 = .ok (.iconst 0, 1) := by decide +kernel
theorem dX12_isWording_1 : decode cX12_isWording 1 = .ok (.istore 5, 2) := by decide +kernel
theorem dX12_isWording_3 : decode cX12_isWording 3 = .ok (.iload 5, 2) := by decide +kernel
theorem dX12_isWording_5 : decode cX12_isWording 5 = .ok (.iload_n 3, 1) := by decide +kernel
theorem dX12_isWording_6 : decode cX12_isWording 6 = .ok (.if_icmp .ge 29, 3) := by decide +kernel
theorem dX12_isWording_9 : decode cX12_isWording 9 = .ok (.aload_n 0, 1) := by decide +kernel
theorem dX12_isWording_10 : decode cX12_isWording 10 = .ok (.iload_n 1, 1) := by decide +kernel
theorem dX12_isWording_11 : decode cX12_isWording 11 = .ok (.iload_n 2, 1) := by decide +kernel
theorem dX12_isWording_12 : decode cX12_isWording 12 = .ok (.iload 5, 2) := by decide +kernel
theorem dX12_isWording_14 : decode cX12_isWording 14 = .ok (.iadd, 1) := by decide +kernel
theorem dX12_isWording_15 : decode cX12_isWording 15 = .ok (.aload_n 0, 1) := by decide +kernel
theorem dX12_isWording_16 : decode cX12_isWording 16 = .ok (.invokevirtual 308, 3) := by decide +kernel
theorem dX12_isWording_19 : decode cX12_isWording 19 = .ok (.invokevirtual 311, 3) := by decide +kernel
theorem dX12_isWording_22 : decode cX12_isWording 22 = .ok (.iload 4, 2) := by decide +kernel
theorem dX12_isWording_24 : decode cX12_isWording 24 = .ok (.if_icmp .eq 5, 3) := by decide +kernel
theorem dX12_isWording_27 : decode cX12_isWording 27 = .ok (.iconst 0, 1) := by decide +kernel
theorem dX12_isWording_28 : decode cX12_isWording 28 = .ok (.ireturn, 1) := by decide +kernel
theorem dX12_isWording_29 : decode cX12_isWording 29 = .ok (.iinc 5 1, 3) := by decide +kernel
theorem dX12_isWording_32 : decode cX12_isWording 32 = .ok (.goto (-29), 3) := by decide +kernel
theorem dX12_isWording_35 : decode cX12_isWording 35 = .ok (.iconst 1, 1) := by decide +kernel
theorem dX12_isWording_36 : decode cX12_isWording 36 = .ok (.ireturn, 1) := by decide +kernel
theorem dX12_isWords_0 : decode cX12_isWords 0 = .ok (.aload_n 0, 1) := by decide +kernel
theorem dX12_isWords_1 : decode cX12_isWords 1 = .ok (.iload_n 1, 1) := by decide +kernel
theorem dX12_isWords_2 : decode cX12_isWords 2 = .ok (.iload_n 2, 1) := by decide +kernel
theorem dX12_isWords_3 : decode cX12_isWords 3 = .ok (.invokevirtual 323, 3) := by decide +kernel
theorem dX12_isWords_6 : decode cX12_isWords 6 = .ok (.ifCond .eq 28, 3) := by decide +kernel
theorem dX12_isWords_9 : decode cX12_isWords 9 = .ok (.iload_n 3, 1) := by decide +kernel
theorem dX12_isWords_10 : decode cX12_isWords 10 = .ok (.i2l, 1) := by decide +kernel
theorem dX12_isWords_11 : decode cX12_isWords 11 = .ok (.lconst 1, 1) := by decide +kernel
theorem dX12_isWords_12 : decode cX12_isWords 12 = .ok (.ldc2_w 410, 3) := by decide +kernel
theorem dX12_isWords_15 : decode cX12_isWords 15 = .ok (.invokestatic 82, 3) := by decide +kernel
theorem dX12_isWords_18 : decode cX12_isWords 18 = .ok (.ifCond .eq 16, 3) := by decide +kernel
theorem dX12_isWords_21 : decode cX12_isWords 21 = .ok (.iload 4, 2) := by decide +kernel
theorem dX12_isWords_23 : decode cX12_isWords 23 = .ok (.i2l, 1) := by decide +kernel
theorem dX12_isWords_24 : decode cX12_isWords 24 = .ok (.invokestatic 341, 3) := by decide +kernel
theorem dX12_isWords_27 : decode cX12_isWords 27 = .ok (.ifCond .eq 7, 3) := by decide +kernel
theorem dX12_isWords_30 : decode cX12_isWords 30 = .ok (.iconst 1, 1) := by decide +kernel
theorem dX12_isWords_31 : decode cX12_isWords 31 = .ok (.goto 4, 3) := by decide +kernel
theorem dX12_isWords_34 : decode cX12_isWords 34 = .ok (.iconst 0, 1) := by decide +kernel
theorem dX12_isWords_35 : decode cX12_isWords 35 = .ok (.ireturn, 1) := by decide +kernel
theorem dX12_lands_0 : decode cX12_lands 0 = .ok (.aload_n 0, 1) := by decide +kernel
theorem dX12_lands_1 : decode cX12_lands 1 = .ok (.iconst 0, 1) := by decide +kernel
theorem dX12_lands_2 : decode cX12_lands 2 = .ok (.putfield 77, 3) := by decide +kernel
theorem dX12_lands_5 : decode cX12_lands 5 = .ok (.aload_n 0, 1) := by decide +kernel
theorem dX12_lands_6 : decode cX12_lands 6 = .ok (.iload_n 1, 1) := by decide +kernel
theorem dX12_lands_7 : decode cX12_lands 7 = .ok (.aload_n 0, 1) := by decide +kernel
theorem dX12_lands_8 : decode cX12_lands 8 = .ok (.invokevirtual 251, 3) := by decide +kernel
theorem dX12_lands_11 : decode cX12_lands 11 = .ok (.ifCond .eq 14, 3) := by decide +kernel
theorem dX12_lands_14 : decode cX12_lands 14 = .ok (.iload_n 2, 1) := by decide +kernel
theorem dX12_lands_15 : decode cX12_lands 15 = .ok (.invokestatic 268, 3) := by decide +kernel
theorem dX12_lands_18 : decode cX12_lands 18 = .ok (.ifCond .eq 7, 3) := by decide +kernel
theorem dX12_lands_21 : decode cX12_lands 21 = .ok (.iconst 1, 1) := by decide +kernel
theorem dX12_lands_22 : decode cX12_lands 22 = .ok (.goto 4, 3) := by decide +kernel
theorem dX12_lands_25 : decode cX12_lands 25 = .ok (.iconst 0, 1) := by decide +kernel
theorem dX12_lands_26 : decode cX12_lands 26 = .ok (.invokevirtual 393, 3) := by decide +kernel
theorem dX12_lands_29 : decode cX12_lands 29 = .ok (.istore_n 3, 1) := by decide +kernel
theorem dX12_lands_30 : decode cX12_lands 30 = .ok (.iload_n 3, 1) := by decide +kernel
theorem dX12_lands_31 : decode cX12_lands 31 = .ok (.ifCond .eq 5, 3) := by decide +kernel
theorem dX12_lands_34 : decode cX12_lands 34 = .ok (.iload_n 3, 1) := by decide +kernel
theorem dX12_lands_35 : decode cX12_lands 35 = .ok (.ireturn, 1) := by decide +kernel
theorem dX12_lands_36 : decode cX12_lands 36 = .ok (.aload_n 0, 1) := by decide +kernel
theorem dX12_lands_37 : decode cX12_lands 37 = .ok (.invokevirtual 326, 3) := by decide +kernel
theorem dX12_lands_40 : decode cX12_lands 40 = .ok (.iconst 0, 1) := by decide +kernel
theorem dX12_lands_41 : decode cX12_lands 41 = .ok (.istore 4, 2) := by decide +kernel
theorem dX12_lands_43 : decode cX12_lands 43 = .ok (.iconst 0, 1) := by decide +kernel
theorem dX12_lands_44 : decode cX12_lands 44 = .ok (.istore 5, 2) := by decide +kernel
theorem dX12_lands_46 : decode cX12_lands 46 = .ok (.iload 5, 2) := by decide +kernel
theorem dX12_lands_48 : decode cX12_lands 48 = .ok (.aload_n 0, 1) := by decide +kernel
theorem dX12_lands_49 : decode cX12_lands 49 = .ok (.getfield 34, 3) := by decide +kernel
theorem dX12_lands_52 : decode cX12_lands 52 = .ok (.iconst 3, 1) := by decide +kernel
theorem dX12_lands_53 : decode cX12_lands 53 = .ok (.iaload, 1) := by decide +kernel
theorem dX12_lands_54 : decode cX12_lands 54 = .ok (.if_icmp .ge 33, 3) := by decide +kernel
theorem dX12_lands_57 : decode cX12_lands 57 = .ok (.iload 4, 2) := by decide +kernel
theorem dX12_lands_59 : decode cX12_lands 59 = .ok (.aload_n 0, 1) := by decide +kernel
theorem dX12_lands_60 : decode cX12_lands 60 = .ok (.iload_n 1, 1) := by decide +kernel
theorem dX12_lands_61 : decode cX12_lands 61 = .ok (.iload 5, 2) := by decide +kernel
theorem dX12_lands_63 : decode cX12_lands 63 = .ok (.iload_n 2, 1) := by decide +kernel
theorem dX12_lands_64 : decode cX12_lands 64 = .ok (.invokevirtual 378, 3) := by decide +kernel
theorem dX12_lands_67 : decode cX12_lands 67 = .ok (.ifCond .eq 10, 3) := by decide +kernel
theorem dX12_lands_70 : decode cX12_lands 70 = .ok (.iconst 1, 1) := by decide +kernel
theorem dX12_lands_71 : decode cX12_lands 71 = .ok (.iload 5, 2) := by decide +kernel
theorem dX12_lands_73 : decode cX12_lands 73 = .ok (.ishl, 1) := by decide +kernel
theorem dX12_lands_74 : decode cX12_lands 74 = .ok (.goto 4, 3) := by decide +kernel
theorem dX12_lands_77 : decode cX12_lands 77 = .ok (.iconst 0, 1) := by decide +kernel
theorem dX12_lands_78 : decode cX12_lands 78 = .ok (.ior, 1) := by decide +kernel
theorem dX12_lands_79 : decode cX12_lands 79 = .ok (.istore 4, 2) := by decide +kernel
theorem dX12_lands_81 : decode cX12_lands 81 = .ok (.iinc 5 1, 3) := by decide +kernel
theorem dX12_lands_84 : decode cX12_lands 84 = .ok (.goto (-38), 3) := by decide +kernel
theorem dX12_lands_87 : decode cX12_lands 87 = .ok (.iload 4, 2) := by decide +kernel
theorem dX12_lands_89 : decode cX12_lands 89 = .ok (.ireturn, 1) := by decide +kernel
theorem dX12_rowsFrom_0 : decode cX12_rowsFrom 0 = .ok (.iload_n 1, 1) := by decide +kernel
theorem dX12_rowsFrom_1 : decode cX12_rowsFrom 1 = .ok (.aload_n 0, 1) := by decide +kernel
theorem dX12_rowsFrom_2 : decode cX12_rowsFrom 2 = .ok (.getfield 296, 3) := by decide +kernel
theorem dX12_rowsFrom_5 : decode cX12_rowsFrom 5 = .ok (.if_icmp .ne 64, 3) := by decide +kernel
theorem dX12_rowsFrom_8 : decode cX12_rowsFrom 8 = .ok (.aload_n 0, 1) := by decide +kernel
theorem dX12_rowsFrom_9 : decode cX12_rowsFrom 9 = .ok (.iload_n 2, 1) := by decide +kernel
theorem dX12_rowsFrom_10 : decode cX12_rowsFrom 10 = .ok (.iload_n 3, 1) := by decide +kernel
theorem dX12_rowsFrom_11 : decode cX12_rowsFrom 11 = .ok (.iload 4, 2) := by decide +kernel
theorem dX12_rowsFrom_13 : decode cX12_rowsFrom 13 = .ok (.iload 5, 2) := by decide +kernel
theorem dX12_rowsFrom_15 : decode cX12_rowsFrom 15 = .ok (.invokevirtual 400, 3) := by decide +kernel
theorem dX12_rowsFrom_18 : decode cX12_rowsFrom 18 = .ok (.ifCond .ne 4, 3) := by decide +kernel
theorem dX12_rowsFrom_21 : decode cX12_rowsFrom 21 = .ok (.return_, 1) := by decide +kernel
theorem dX12_rowsFrom_22 : decode cX12_rowsFrom 22 = .ok (.iconst 0, 1) := by decide +kernel
theorem dX12_rowsFrom_23 : decode cX12_rowsFrom 23 = .ok (.istore 6, 2) := by decide +kernel
theorem dX12_rowsFrom_25 : decode cX12_rowsFrom 25 = .ok (.iload 6, 2) := by decide +kernel
theorem dX12_rowsFrom_27 : decode cX12_rowsFrom 27 = .ok (.iload_n 1, 1) := by decide +kernel
theorem dX12_rowsFrom_28 : decode cX12_rowsFrom 28 = .ok (.if_icmp .ge 30, 3) := by decide +kernel
theorem dX12_rowsFrom_31 : decode cX12_rowsFrom 31 = .ok (.aload_n 0, 1) := by decide +kernel
theorem dX12_rowsFrom_32 : decode cX12_rowsFrom 32 = .ok (.getfield 403, 3) := by decide +kernel
theorem dX12_rowsFrom_35 : decode cX12_rowsFrom 35 = .ok (.ifCond .ne 23, 3) := by decide +kernel
theorem dX12_rowsFrom_38 : decode cX12_rowsFrom 38 = .ok (.aload_n 0, 1) := by decide +kernel
theorem dX12_rowsFrom_39 : decode cX12_rowsFrom 39 = .ok (.getfield 74, 3) := by decide +kernel
theorem dX12_rowsFrom_42 : decode cX12_rowsFrom 42 = .ok (.iload 6, 2) := by decide +kernel
theorem dX12_rowsFrom_44 : decode cX12_rowsFrom 44 = .ok (.aload_n 0, 1) := by decide +kernel
theorem dX12_rowsFrom_45 : decode cX12_rowsFrom 45 = .ok (.getfield 68, 3) := by decide +kernel
theorem dX12_rowsFrom_48 : decode cX12_rowsFrom 48 = .ok (.iload 6, 2) := by decide +kernel
theorem dX12_rowsFrom_50 : decode cX12_rowsFrom 50 = .ok (.iaload, 1) := by decide +kernel
theorem dX12_rowsFrom_51 : decode cX12_rowsFrom 51 = .ok (.iastore, 1) := by decide +kernel
theorem dX12_rowsFrom_52 : decode cX12_rowsFrom 52 = .ok (.iinc 6 1, 3) := by decide +kernel
theorem dX12_rowsFrom_55 : decode cX12_rowsFrom 55 = .ok (.goto (-30), 3) := by decide +kernel
theorem dX12_rowsFrom_58 : decode cX12_rowsFrom 58 = .ok (.aload_n 0, 1) := by decide +kernel
theorem dX12_rowsFrom_59 : decode cX12_rowsFrom 59 = .ok (.dup, 1) := by decide +kernel
theorem dX12_rowsFrom_60 : decode cX12_rowsFrom 60 = .ok (.getfield 403, 3) := by decide +kernel
theorem dX12_rowsFrom_63 : decode cX12_rowsFrom 63 = .ok (.iconst 1, 1) := by decide +kernel
theorem dX12_rowsFrom_64 : decode cX12_rowsFrom 64 = .ok (.iadd, 1) := by decide +kernel
theorem dX12_rowsFrom_65 : decode cX12_rowsFrom 65 = .ok (.putfield 403, 3) := by decide +kernel
theorem dX12_rowsFrom_68 : decode cX12_rowsFrom 68 = .ok (.return_, 1) := by decide +kernel
theorem dX12_rowsFrom_69 : decode cX12_rowsFrom 69 = .ok (.iconst 0, 1) := by decide +kernel
theorem dX12_rowsFrom_70 : decode cX12_rowsFrom 70 = .ok (.istore 6, 2) := by decide +kernel
theorem dX12_rowsFrom_72 : decode cX12_rowsFrom 72 = .ok (.iload 6, 2) := by decide +kernel
theorem dX12_rowsFrom_74 : decode cX12_rowsFrom 74 = .ok (.aload_n 0, 1) := by decide +kernel
theorem dX12_rowsFrom_75 : decode cX12_rowsFrom 75 = .ok (.invokevirtual 257, 3) := by decide +kernel
theorem dX12_rowsFrom_78 : decode cX12_rowsFrom 78 = .ok (.if_icmp .ge 30, 3) := by decide +kernel
theorem dX12_rowsFrom_81 : decode cX12_rowsFrom 81 = .ok (.aload_n 0, 1) := by decide +kernel
theorem dX12_rowsFrom_82 : decode cX12_rowsFrom 82 = .ok (.getfield 68, 3) := by decide +kernel
theorem dX12_rowsFrom_85 : decode cX12_rowsFrom 85 = .ok (.iload_n 1, 1) := by decide +kernel
theorem dX12_rowsFrom_86 : decode cX12_rowsFrom 86 = .ok (.iload 6, 2) := by decide +kernel
theorem dX12_rowsFrom_88 : decode cX12_rowsFrom 88 = .ok (.iastore, 1) := by decide +kernel
theorem dX12_rowsFrom_89 : decode cX12_rowsFrom 89 = .ok (.aload_n 0, 1) := by decide +kernel
theorem dX12_rowsFrom_90 : decode cX12_rowsFrom 90 = .ok (.iload_n 1, 1) := by decide +kernel
theorem dX12_rowsFrom_91 : decode cX12_rowsFrom 91 = .ok (.iconst 1, 1) := by decide +kernel
theorem dX12_rowsFrom_92 : decode cX12_rowsFrom 92 = .ok (.iadd, 1) := by decide +kernel
theorem dX12_rowsFrom_93 : decode cX12_rowsFrom 93 = .ok (.iload_n 2, 1) := by decide +kernel
theorem dX12_rowsFrom_94 : decode cX12_rowsFrom 94 = .ok (.iload_n 3, 1) := by decide +kernel
theorem dX12_rowsFrom_95 : decode cX12_rowsFrom 95 = .ok (.iload 4, 2) := by decide +kernel
theorem dX12_rowsFrom_97 : decode cX12_rowsFrom 97 = .ok (.iload 5, 2) := by decide +kernel
theorem dX12_rowsFrom_99 : decode cX12_rowsFrom 99 = .ok (.invokevirtual 406, 3) := by decide +kernel
theorem dX12_rowsFrom_102 : decode cX12_rowsFrom 102 = .ok (.iinc 6 1, 3) := by decide +kernel
theorem dX12_rowsFrom_105 : decode cX12_rowsFrom 105 = .ok (.goto (-33), 3) := by decide +kernel
theorem dX12_rowsFrom_108 : decode cX12_rowsFrom 108 = .ok (.return_, 1) := by decide +kernel
theorem dX12_worded_0 : decode cX12_worded 0 = .ok (.aload_n 0, 1) := by decide +kernel
theorem dX12_worded_1 : decode cX12_worded 1 = .ok (.iconst 0, 1) := by decide +kernel
theorem dX12_worded_2 : decode cX12_worded 2 = .ok (.putfield 77, 3) := by decide +kernel
theorem dX12_worded_5 : decode cX12_worded 5 = .ok (.aload_n 0, 1) := by decide +kernel
theorem dX12_worded_6 : decode cX12_worded 6 = .ok (.iload_n 1, 1) := by decide +kernel
theorem dX12_worded_7 : decode cX12_worded 7 = .ok (.iload_n 2, 1) := by decide +kernel
theorem dX12_worded_8 : decode cX12_worded 8 = .ok (.iload_n 3, 1) := by decide +kernel
theorem dX12_worded_9 : decode cX12_worded 9 = .ok (.iload 4, 2) := by decide +kernel
theorem dX12_worded_11 : decode cX12_worded 11 = .ok (.invokevirtual 412, 3) := by decide +kernel
theorem dX12_worded_14 : decode cX12_worded 14 = .ok (.ifCond .eq 8, 3) := by decide +kernel
theorem dX12_worded_17 : decode cX12_worded 17 = .ok (.iload 5, 2) := by decide +kernel
theorem dX12_worded_19 : decode cX12_worded 19 = .ok (.ifCond .ge 6, 3) := by decide +kernel
theorem dX12_worded_22 : decode cX12_worded 22 = .ok (.bipush (-2), 2) := by decide +kernel
theorem dX12_worded_24 : decode cX12_worded 24 = .ok (.ireturn, 1) := by decide +kernel
theorem dX12_worded_25 : decode cX12_worded 25 = .ok (.iload 5, 2) := by decide +kernel
theorem dX12_worded_27 : decode cX12_worded 27 = .ok (.aload_n 0, 1) := by decide +kernel
theorem dX12_worded_28 : decode cX12_worded 28 = .ok (.iload_n 1, 1) := by decide +kernel
theorem dX12_worded_29 : decode cX12_worded 29 = .ok (.iload_n 2, 1) := by decide +kernel
theorem dX12_worded_30 : decode cX12_worded 30 = .ok (.iload_n 3, 1) := by decide +kernel
theorem dX12_worded_31 : decode cX12_worded 31 = .ok (.iload 4, 2) := by decide +kernel
theorem dX12_worded_33 : decode cX12_worded 33 = .ok (.invokevirtual 415, 3) := by decide +kernel
theorem dX12_worded_36 : decode cX12_worded 36 = .ok (.if_icmp .ge 13, 3) := by decide +kernel
theorem dX12_worded_39 : decode cX12_worded 39 = .ok (.aload_n 0, 1) := by decide +kernel
theorem dX12_worded_40 : decode cX12_worded 40 = .ok (.getfield 74, 3) := by decide +kernel
theorem dX12_worded_43 : decode cX12_worded 43 = .ok (.iload 5, 2) := by decide +kernel
theorem dX12_worded_45 : decode cX12_worded 45 = .ok (.iaload, 1) := by decide +kernel
theorem dX12_worded_46 : decode cX12_worded 46 = .ok (.goto 4, 3) := by decide +kernel
theorem dX12_worded_49 : decode cX12_worded 49 = .ok (.iconst (-1), 1) := by decide +kernel
theorem dX12_worded_50 : decode cX12_worded 50 = .ok (.ireturn, 1) := by decide +kernel
theorem dX12_wording_0 : decode cX12_wording 0 = .ok (.aload_n 0, 1) := by decide +kernel
theorem dX12_wording_1 : decode cX12_wording 1 = .ok (.iconst 0, 1) := by decide +kernel
theorem dX12_wording_2 : decode cX12_wording 2 = .ok (.putfield 77, 3) := by decide +kernel
theorem dX12_wording_5 : decode cX12_wording 5 = .ok (.aload_n 0, 1) := by decide +kernel
theorem dX12_wording_6 : decode cX12_wording 6 = .ok (.iload_n 1, 1) := by decide +kernel
theorem dX12_wording_7 : decode cX12_wording 7 = .ok (.iload_n 2, 1) := by decide +kernel
theorem dX12_wording_8 : decode cX12_wording 8 = .ok (.iload_n 3, 1) := by decide +kernel
theorem dX12_wording_9 : decode cX12_wording 9 = .ok (.iload 4, 2) := by decide +kernel
theorem dX12_wording_11 : decode cX12_wording 11 = .ok (.invokevirtual 412, 3) := by decide +kernel
theorem dX12_wording_14 : decode cX12_wording 14 = .ok (.ifCond .ne 6, 3) := by decide +kernel
theorem dX12_wording_17 : decode cX12_wording 17 = .ok (.bipush (-2), 2) := by decide +kernel
theorem dX12_wording_19 : decode cX12_wording 19 = .ok (.ireturn, 1) := by decide +kernel
theorem dX12_wording_20 : decode cX12_wording 20 = .ok (.aload_n 0, 1) := by decide +kernel
theorem dX12_wording_21 : decode cX12_wording 21 = .ok (.iload_n 1, 1) := by decide +kernel
theorem dX12_wording_22 : decode cX12_wording 22 = .ok (.iload_n 2, 1) := by decide +kernel
theorem dX12_wording_23 : decode cX12_wording 23 = .ok (.iload_n 3, 1) := by decide +kernel
theorem dX12_wording_24 : decode cX12_wording 24 = .ok (.iload 4, 2) := by decide +kernel
theorem dX12_wording_26 : decode cX12_wording 26 = .ok (.invokevirtual 415, 3) := by decide +kernel
theorem dX12_wording_29 : decode cX12_wording 29 = .ok (.istore 5, 2) := by decide +kernel
theorem dX12_wording_31 : decode cX12_wording 31 = .ok (.iload 5, 2) := by decide +kernel
theorem dX12_wording_33 : decode cX12_wording 33 = .ok (.ifCond .ne 7, 3) := by decide +kernel
theorem dX12_wording_36 : decode cX12_wording 36 = .ok (.iconst (-1), 1) := by decide +kernel
theorem dX12_wording_37 : decode cX12_wording 37 = .ok (.goto 5, 3) := by decide +kernel
theorem dX12_wording_40 : decode cX12_wording 40 = .ok (.iload 5, 2) := by decide +kernel
theorem dX12_wording_42 : decode cX12_wording 42 = .ok (.ireturn, 1) := by decide +kernel
theorem dX12_wordingOf_0 : decode cX12_wordingOf 0 = .ok (.aload_n 0, 1) := by decide +kernel
theorem dX12_wordingOf_1 : decode cX12_wordingOf 1 = .ok (.invokevirtual 326, 3) := by decide +kernel
theorem dX12_wordingOf_4 : decode cX12_wordingOf 4 = .ok (.iconst 1, 1) := by decide +kernel
theorem dX12_wordingOf_5 : decode cX12_wordingOf 5 = .ok (.istore 5, 2) := by decide +kernel
theorem dX12_wordingOf_7 : decode cX12_wordingOf 7 = .ok (.iload 5, 2) := by decide +kernel
theorem dX12_wordingOf_9 : decode cX12_wordingOf 9 = .ok (.iconst 4, 1) := by decide +kernel
theorem dX12_wordingOf_10 : decode cX12_wordingOf 10 = .ok (.if_icmp .gt 40, 3) := by decide +kernel
theorem dX12_wordingOf_13 : decode cX12_wordingOf 13 = .ok (.aload_n 0, 1) := by decide +kernel
theorem dX12_wordingOf_14 : decode cX12_wordingOf 14 = .ok (.iconst 0, 1) := by decide +kernel
theorem dX12_wordingOf_15 : decode cX12_wordingOf 15 = .ok (.putfield 403, 3) := by decide +kernel
theorem dX12_wordingOf_18 : decode cX12_wordingOf 18 = .ok (.aload_n 0, 1) := by decide +kernel
theorem dX12_wordingOf_19 : decode cX12_wordingOf 19 = .ok (.iload 5, 2) := by decide +kernel
theorem dX12_wordingOf_21 : decode cX12_wordingOf 21 = .ok (.putfield 296, 3) := by decide +kernel
theorem dX12_wordingOf_24 : decode cX12_wordingOf 24 = .ok (.aload_n 0, 1) := by decide +kernel
theorem dX12_wordingOf_25 : decode cX12_wordingOf 25 = .ok (.iconst 0, 1) := by decide +kernel
theorem dX12_wordingOf_26 : decode cX12_wordingOf 26 = .ok (.iload_n 1, 1) := by decide +kernel
theorem dX12_wordingOf_27 : decode cX12_wordingOf 27 = .ok (.iload_n 2, 1) := by decide +kernel
theorem dX12_wordingOf_28 : decode cX12_wordingOf 28 = .ok (.iload_n 3, 1) := by decide +kernel
theorem dX12_wordingOf_29 : decode cX12_wordingOf 29 = .ok (.iload 4, 2) := by decide +kernel
theorem dX12_wordingOf_31 : decode cX12_wordingOf 31 = .ok (.invokevirtual 406, 3) := by decide +kernel
theorem dX12_wordingOf_34 : decode cX12_wordingOf 34 = .ok (.aload_n 0, 1) := by decide +kernel
theorem dX12_wordingOf_35 : decode cX12_wordingOf 35 = .ok (.getfield 403, 3) := by decide +kernel
theorem dX12_wordingOf_38 : decode cX12_wordingOf 38 = .ok (.ifCond .le 6, 3) := by decide +kernel
theorem dX12_wordingOf_41 : decode cX12_wordingOf 41 = .ok (.iload 5, 2) := by decide +kernel
theorem dX12_wordingOf_43 : decode cX12_wordingOf 43 = .ok (.ireturn, 1) := by decide +kernel
theorem dX12_wordingOf_44 : decode cX12_wordingOf 44 = .ok (.iinc 5 1, 3) := by decide +kernel
theorem dX12_wordingOf_47 : decode cX12_wordingOf 47 = .ok (.goto (-40), 3) := by decide +kernel
theorem dX12_wordingOf_50 : decode cX12_wordingOf 50 = .ok (.iconst 0, 1) := by decide +kernel
theorem dX12_wordingOf_51 : decode cX12_wordingOf 51 = .ok (.ireturn, 1) := by decide +kernel
theorem dX12_wordings_0 : decode cX12_wordings 0 = .ok (.aload_n 0, 1) := by decide +kernel
theorem dX12_wordings_1 : decode cX12_wordings 1 = .ok (.iconst 0, 1) := by decide +kernel
theorem dX12_wordings_2 : decode cX12_wordings 2 = .ok (.putfield 77, 3) := by decide +kernel
theorem dX12_wordings_5 : decode cX12_wordings 5 = .ok (.aload_n 0, 1) := by decide +kernel
theorem dX12_wordings_6 : decode cX12_wordings 6 = .ok (.iload_n 1, 1) := by decide +kernel
theorem dX12_wordings_7 : decode cX12_wordings 7 = .ok (.iload_n 2, 1) := by decide +kernel
theorem dX12_wordings_8 : decode cX12_wordings 8 = .ok (.iload_n 3, 1) := by decide +kernel
theorem dX12_wordings_9 : decode cX12_wordings 9 = .ok (.iload 4, 2) := by decide +kernel
theorem dX12_wordings_11 : decode cX12_wordings 11 = .ok (.invokevirtual 412, 3) := by decide +kernel
theorem dX12_wordings_14 : decode cX12_wordings 14 = .ok (.ifCond .ne 6, 3) := by decide +kernel
theorem dX12_wordings_17 : decode cX12_wordings 17 = .ok (.bipush (-2), 2) := by decide +kernel
theorem dX12_wordings_19 : decode cX12_wordings 19 = .ok (.ireturn, 1) := by decide +kernel
theorem dX12_wordings_20 : decode cX12_wordings 20 = .ok (.aload_n 0, 1) := by decide +kernel
theorem dX12_wordings_21 : decode cX12_wordings 21 = .ok (.iload_n 1, 1) := by decide +kernel
theorem dX12_wordings_22 : decode cX12_wordings 22 = .ok (.iload_n 2, 1) := by decide +kernel
theorem dX12_wordings_23 : decode cX12_wordings 23 = .ok (.iload_n 3, 1) := by decide +kernel
theorem dX12_wordings_24 : decode cX12_wordings 24 = .ok (.iload 4, 2) := by decide +kernel
theorem dX12_wordings_26 : decode cX12_wordings 26 = .ok (.invokevirtual 415, 3) := by decide +kernel
theorem dX12_wordings_29 : decode cX12_wordings 29 = .ok (.ifCond .ne 7, 3) := by decide +kernel
theorem dX12_wordings_32 : decode cX12_wordings 32 = .ok (.iconst 0, 1) := by decide +kernel
theorem dX12_wordings_33 : decode cX12_wordings 33 = .ok (.goto 7, 3) := by decide +kernel
theorem dX12_wordings_36 : decode cX12_wordings 36 = .ok (.aload_n 0, 1) := by decide +kernel
theorem dX12_wordings_37 : decode cX12_wordings 37 = .ok (.getfield 403, 3) := by decide +kernel
theorem dX12_wordings_40 : decode cX12_wordings 40 = .ok (.ireturn, 1) := by decide +kernel
theorem mm_km1000000 : mm_rg (-1000000) (-1000000) (-1000000) := ⟨by decide, by decide⟩
theorem mm_kl7 : mm_rl 7 7 7 := ⟨by decide, by decide⟩
theorem hd_X12_heirsOf : yX12_heirsOf.cls = RX12 ∧ yX12_heirsOf.cls ≠ "java/lang/invoke/MethodHandle" ∧ yX12_heirsOf.cls ≠ "java/lang/invoke/VarHandle" ∧ (parseMethodDescriptor yX12_heirsOf.desc).map (fun d => d.parameters.length) = some 3 := by decide +kernel
theorem hd_X12_isWording : yX12_isWording.cls = RX12 ∧ yX12_isWording.cls ≠ "java/lang/invoke/MethodHandle" ∧ yX12_isWording.cls ≠ "java/lang/invoke/VarHandle" ∧ (parseMethodDescriptor yX12_isWording.desc).map (fun d => d.parameters.length) = some 4 := by decide +kernel
theorem hd_X12_isWords : yX12_isWords.cls = RX12 ∧ yX12_isWords.cls ≠ "java/lang/invoke/MethodHandle" ∧ yX12_isWords.cls ≠ "java/lang/invoke/VarHandle" ∧ (parseMethodDescriptor yX12_isWords.desc).map (fun d => d.parameters.length) = some 4 := by decide +kernel
theorem hd_X12_rowsFrom : yX12_rowsFrom.cls = RX12 ∧ yX12_rowsFrom.cls ≠ "java/lang/invoke/MethodHandle" ∧ yX12_rowsFrom.cls ≠ "java/lang/invoke/VarHandle" ∧ (parseMethodDescriptor yX12_rowsFrom.desc).map (fun d => d.parameters.length) = some 5 := by decide +kernel
theorem hd_X12_wordingOf : yX12_wordingOf.cls = RX12 ∧ yX12_wordingOf.cls ≠ "java/lang/invoke/MethodHandle" ∧ yX12_wordingOf.cls ≠ "java/lang/invoke/VarHandle" ∧ (parseMethodDescriptor yX12_wordingOf.desc).map (fun d => d.parameters.length) = some 4 := by decide +kernel
theorem hs_X12_isBit : yX12_isBit.cls ≠ "java/lang/invoke/MethodHandle" ∧ yX12_isBit.cls ≠ "java/lang/invoke/VarHandle" ∧ (parseMethodDescriptor yX12_isBit.desc).map (fun d => d.parameters.length) = some 2 := by decide +kernel
set_option maxHeartbeats 4000000 in
set_option maxRecDepth 100000 in
theorem M209_X12_lands (l : Launch) (G : va_G) (cy : Nat → ClassId) (sz : Nat) (a_0 : Nat) (i_0 : Int32) (i_1 : Int32) (i_2 : Int32) (a_1 : Nat) (a_2 : Nat) (a_3 : Nat) (a_4 : Nat) (a_5 : Nat) (i_3 : Int32) (i_4 : Int32) (i_5 : Int32) (i_6 : Int32) (i_7 : Int32) (j_0 : Int64) (i_8 : Int32) (i_9 : Int32) (i_10 : Int32) (i_11 : Int32) (a_6 : Nat) (a_7 : Nat) (a_8 : Nat) (a_9 : Nat) (a_10 : Nat) (a_11 : Nat) (a_12 : Nat) (a_13 : Nat) (a_14 : Nat) (a_15 : Nat) (a_16 : Nat) (a_17 : Nat) (a_18 : Nat) (i_12 : Int32) (i_13 : Int32) (i_14 : Int32) (i_15 : Int32) (i_16 : Int32) (i_17 : Int32) (a_19 : Nat) (i_18 : Int32) (a_20 : Nat) (f_0 : Nat → Int32) (f_1 : Nat → Int32) (f_2 : Nat → Int64) (i_19 : Int32) (i_20 : Int32) (i_21 : Int32) (i_22 : Int32) (i_23 : Int32) (i_24 : Int32) (i_25 : Int32) (i_26 : Int32) (i_27 : Int32) (i_28 : Int32) (i_29 : Int32) (i_30 : Int32) (i_31 : Int32) (i_32 : Int32) (i_33 : Int32) (i_34 : Int32) (i_35 : Int32) (i_36 : Int32) (i_37 : Int32) (i_38 : Int32) (i_39 : Int32) (i_40 : Int32) (i_41 : Int32) (i_42 : Int32) (i_43 : Int32) (i_44 : Int32) (i_45 : Int32) (i_46 : Int32) (i_47 : Int32) (i_48 : Int32) (i_49 : Int32) (i_50 : Int32) (i_51 : Int32) (i_52 : Int32) (i_53 : Int32) (f_3 : Nat → Int32) (f_4 : Nat → Int32) (f_5 : Nat → Int32) (f_6 : Nat → Int32) (f_7 : Nat → Int32) (f_8 : Nat → Int32) (f_9 : Nat → Int32) (f_10 : Nat → Int32) (f_11 : Nat → Int32) (f_12 : Nat → Int32) (h0 : mm_rg i_12 0 8) (h1 : mm_ar f_0 (-1) 3) (h2 : mm_ar f_1 0 60) (h3 : mm_rg i_19 0 601) (h4 : mm_rg i_20 0 601) (h5 : mm_rg i_21 0 601) (h6 : mm_rg i_22 0 601) (h7 : mm_rg i_23 0 601) (h8 : mm_rg i_24 0 10) (h9 : mm_rg i_25 0 99) (h10 : mm_rg i_26 0 9) (h11 : mm_rg i_27 0 3) (h12 : mm_rg i_28 0 6) (h13 : mm_rg i_29 0 30) (h14 : mm_rg i_30 0 10) (h15 : mm_rg i_31 0 99) (h16 : mm_rg i_32 0 9) (h17 : mm_rg i_33 0 3) (h18 : mm_rg i_34 0 6) (h19 : mm_rg i_35 0 30) (h20 : mm_rg i_36 0 10) (h21 : mm_rg i_37 0 99) (h22 : mm_rg i_38 0 9) (h23 : mm_rg i_39 0 3) (h24 : mm_rg i_40 0 6) (h25 : mm_rg i_41 0 30) (h26 : mm_rg i_42 0 10) (h27 : mm_rg i_43 0 99) (h28 : mm_rg i_44 0 9) (h29 : mm_rg i_45 0 3) (h30 : mm_rg i_46 0 6) (h31 : mm_rg i_47 0 30) (h32 : mm_rg i_48 0 10) (h33 : mm_rg i_49 0 99) (h34 : mm_rg i_50 0 9) (h35 : mm_rg i_51 0 3) (h36 : mm_rg i_52 0 6) (h37 : mm_rg i_53 0 30) (h38 : mm_ar f_3 0 99) (h39 : mm_ar f_4 0 7) (h40 : mm_ar f_5 0 9) (h41 : mm_ar f_6 0 8) (h42 : mm_ar f_7 0 9) (h43 : mm_ar f_8 (-1) 99) (h44 : mm_ar f_9 0 9) (h45 : mm_ar f_10 0 210) (h46 : mm_ar f_11 0 210) (h47 : mm_ar f_12 0 9) (h48 : mm_rls f_4 f_5 0 i_26 i_27) (h49 : mm_txs f_6 f_7 0 i_26 i_28) (h50 : mm_acs f_8 0 i_26 i_27 i_29) (h51 : mm_tl i_19 i_27 i_28) (h52 : mm_rls f_4 f_5 1 i_32 i_33) (h53 : mm_txs f_6 f_7 1 i_32 i_34) (h54 : mm_acs f_8 1 i_32 i_33 i_35) (h55 : mm_tl i_20 i_33 i_34) (h56 : mm_rls f_4 f_5 2 i_38 i_39) (h57 : mm_txs f_6 f_7 2 i_38 i_40) (h58 : mm_acs f_8 2 i_38 i_39 i_41) (h59 : mm_tl i_21 i_39 i_40) (h60 : mm_rls f_4 f_5 3 i_44 i_45) (h61 : mm_txs f_6 f_7 3 i_44 i_46) (h62 : mm_acs f_8 3 i_44 i_45 i_47) (h63 : mm_tl i_22 i_45 i_46)  : mm_CI l yX12_lands (mm_ws yX12_lands cX12_lands 6 (some .int)) ({ frames := 14, cells := 0, slots := 0, locals := 300 } : Room) G cy sz [(a_0, .inr (12, [.int i_2, .ref a_1, .ref a_2, .ref a_3, .ref a_4, .ref a_5, .int i_3, .int i_4, .int i_5, .int i_6, .int i_7, .long j_0, .int i_8, .int i_9, .int i_10, .int i_11, .ref a_6, .ref a_7, .ref a_8, .ref a_9, .ref a_10, .ref a_11, .ref a_12, .ref a_13, .ref a_14, .ref a_15, .ref a_16, .ref a_17, .ref a_18, .int i_12, .int i_13, .int i_14, .int i_15, .int i_16, .int i_17, .ref a_19, .int i_18, .ref a_20])), (a_1, .inl (cy 1, 4, .inl f_0)), (a_2, .inl (cy 1, 4, .inl f_1)), (a_3, .inl (cy 2, 240, .inr (.inl f_2))), (a_6, .inl (cy 1, 5, .inl (mm_g [i_19, i_20, i_21, i_22, i_23]))), (a_7, .inl (cy 1, 30, .inl (mm_g [i_24, i_25, i_26, i_27, i_28, i_29, i_30, i_31, i_32, i_33, i_34, i_35, i_36, i_37, i_38, i_39, i_40, i_41, i_42, i_43, i_44, i_45, i_46, i_47, i_48, i_49, i_50, i_51, i_52, i_53]))), (a_8, .inl (cy 1, 90, .inl f_3)), (a_9, .inl (cy 1, 15, .inl f_4)), (a_10, .inl (cy 1, 1050, .inl f_5)), (a_11, .inl (cy 1, 30, .inl f_6)), (a_12, .inl (cy 1, 240, .inl f_7)), (a_13, .inl (cy 1, 450, .inl f_8)), (a_15, .inl (cy 1, 7200, .inl f_9)), (a_16, .inl (cy 1, 3, .inl f_10)), (a_17, .inl (cy 1, 3, .inl f_11)), (a_18, .inl (cy 1, 8, .inl f_12))] [.ref a_0, .int i_0, .int i_1] (fun u : Int32 × Int32 × Int32 × (Nat → Int32) × (Nat → Int32) × (Nat → Int32) × (Nat → Int32) => [(a_0, .inr (12, [.int 0, .ref a_1, .ref a_2, .ref a_3, .ref a_4, .ref a_5, .int i_3, .int i_4, .int i_5, .int i_6, .int i_7, .long j_0, .int i_8, .int i_9, .int i_10, .int i_11, .ref a_6, .ref a_7, .ref a_8, .ref a_9, .ref a_10, .ref a_11, .ref a_12, .ref a_13, .ref a_14, .ref a_15, .ref a_16, .ref a_17, .ref a_18, .int u.1, .int u.2.1, .int u.2.2.1, .int i_15, .int i_16, .int i_17, .ref a_19, .int i_18, .ref a_20])), (a_1, .inl (cy 1, 4, .inl f_0)), (a_2, .inl (cy 1, 4, .inl f_1)), (a_3, .inl (cy 2, 240, .inr (.inl f_2))), (a_6, .inl (cy 1, 5, .inl (mm_g [i_19, i_20, i_21, i_22, i_23]))), (a_7, .inl (cy 1, 30, .inl (mm_g [i_24, i_25, i_26, i_27, i_28, i_29, i_30, i_31, i_32, i_33, i_34, i_35, i_36, i_37, i_38, i_39, i_40, i_41, i_42, i_43, i_44, i_45, i_46, i_47, i_48, i_49, i_50, i_51, i_52, i_53]))), (a_8, .inl (cy 1, 90, .inl f_3)), (a_9, .inl (cy 1, 15, .inl f_4)), (a_10, .inl (cy 1, 1050, .inl f_5)), (a_11, .inl (cy 1, 30, .inl f_6)), (a_12, .inl (cy 1, 240, .inl f_7)), (a_13, .inl (cy 1, 450, .inl f_8)), (a_15, .inl (cy 1, 7200, .inl u.2.2.2.1)), (a_16, .inl (cy 1, 3, .inl u.2.2.2.2.1)), (a_17, .inl (cy 1, 3, .inl u.2.2.2.2.2.1)), (a_18, .inl (cy 1, 8, .inl u.2.2.2.2.2.2))]) (fun (r : Int32) (u : Int32 × Int32 × Int32 × (Nat → Int32) × (Nat → Int32) × (Nat → Int32) × (Nat → Int32)) => mm_rg u.1 0 8 ∧ mm_ar u.2.2.2.1 0 9 ∧ mm_ar u.2.2.2.2.1 0 210 ∧ mm_ar u.2.2.2.2.2.1 0 210 ∧ mm_ar u.2.2.2.2.2.2 0 9 ∧ mm_rg r (-6) 7) 0 0 := by
  refine mm_begin (lv := [(0, .ref a_0), (1, .int i_0), (2, .int i_1)]) (by decide) (Nat.le_of_ble_eq_true rfl) rfl ?_
  intro p e s m below meth c A ls R args Q H locs hRe hQ hAe hx hb hr hlocks hml hown hnm hts hsz hA hS hP hK hD hZ hl
  have hRf : R.frames = 14 := by rw [hRe]
  have hRl : R.locals = 300 := by rw [hRe]
  have hRc : R.cells = 0 := by rw [hRe]
  have hRs : R.slots = 0 := by rw [hRe]
  refine lv_aload_n hx hb dX12_lands_0 rfl (lv_at hl 0 rfl) ?_
  refine lv_iconst (v := 0) hx hb dX12_lands_1 (by decide) ?_
  refine va_put (D := G) (ci := 12) (v := .int 0) (ty := tyX12 0) (C := RX12) (T := TX12) (N := 38) hx hb hts (mm_i inlX12) tyX12 tyX12_ok nmX12 hown hK.1 hP hD hS 0 rfl rfl 0 (by decide) (mm_h hts mm_w177) (fun _ h9 => h9) rfl (tyX12_ok 0 (by decide)) rfl rfl (Nat.le_of_ble_eq_true rfl) dX12_lands_2 ?_
  clear hP hD hS
  clear H locs
  intro H locs (hP : va_P G vwCl [(a_0, .inr (12, [.int 0, .ref a_1, .ref a_2, .ref a_3, .ref a_4, .ref a_5, .int i_3, .int i_4, .int i_5, .int i_6, .int i_7, .long j_0, .int i_8, .int i_9, .int i_10, .int i_11, .ref a_6, .ref a_7, .ref a_8, .ref a_9, .ref a_10, .ref a_11, .ref a_12, .ref a_13, .ref a_14, .ref a_15, .ref a_16, .ref a_17, .ref a_18, .int i_12, .int i_13, .int i_14, .int i_15, .int i_16, .int i_17, .ref a_19, .int i_18, .ref a_20])), (a_1, .inl (cy 1, 4, .inl f_0)), (a_2, .inl (cy 1, 4, .inl f_1)), (a_3, .inl (cy 2, 240, .inr (.inl f_2))), (a_6, .inl (cy 1, 5, .inl (mm_g [i_19, i_20, i_21, i_22, i_23]))), (a_7, .inl (cy 1, 30, .inl (mm_g [i_24, i_25, i_26, i_27, i_28, i_29, i_30, i_31, i_32, i_33, i_34, i_35, i_36, i_37, i_38, i_39, i_40, i_41, i_42, i_43, i_44, i_45, i_46, i_47, i_48, i_49, i_50, i_51, i_52, i_53]))), (a_8, .inl (cy 1, 90, .inl f_3)), (a_9, .inl (cy 1, 15, .inl f_4)), (a_10, .inl (cy 1, 1050, .inl f_5)), (a_11, .inl (cy 1, 30, .inl f_6)), (a_12, .inl (cy 1, 240, .inl f_7)), (a_13, .inl (cy 1, 450, .inl f_8)), (a_15, .inl (cy 1, 7200, .inl f_9)), (a_16, .inl (cy 1, 3, .inl f_10)), (a_17, .inl (cy 1, 3, .inl f_11)), (a_18, .inl (cy 1, 8, .inl f_12))] H) (hD : va_D A [(a_0, .inr (12, [.int 0, .ref a_1, .ref a_2, .ref a_3, .ref a_4, .ref a_5, .int i_3, .int i_4, .int i_5, .int i_6, .int i_7, .long j_0, .int i_8, .int i_9, .int i_10, .int i_11, .ref a_6, .ref a_7, .ref a_8, .ref a_9, .ref a_10, .ref a_11, .ref a_12, .ref a_13, .ref a_14, .ref a_15, .ref a_16, .ref a_17, .ref a_18, .int i_12, .int i_13, .int i_14, .int i_15, .int i_16, .int i_17, .ref a_19, .int i_18, .ref a_20])), (a_1, .inl (cy 1, 4, .inl f_0)), (a_2, .inl (cy 1, 4, .inl f_1)), (a_3, .inl (cy 2, 240, .inr (.inl f_2))), (a_6, .inl (cy 1, 5, .inl (mm_g [i_19, i_20, i_21, i_22, i_23]))), (a_7, .inl (cy 1, 30, .inl (mm_g [i_24, i_25, i_26, i_27, i_28, i_29, i_30, i_31, i_32, i_33, i_34, i_35, i_36, i_37, i_38, i_39, i_40, i_41, i_42, i_43, i_44, i_45, i_46, i_47, i_48, i_49, i_50, i_51, i_52, i_53]))), (a_8, .inl (cy 1, 90, .inl f_3)), (a_9, .inl (cy 1, 15, .inl f_4)), (a_10, .inl (cy 1, 1050, .inl f_5)), (a_11, .inl (cy 1, 30, .inl f_6)), (a_12, .inl (cy 1, 240, .inl f_7)), (a_13, .inl (cy 1, 450, .inl f_8)), (a_15, .inl (cy 1, 7200, .inl f_9)), (a_16, .inl (cy 1, 3, .inl f_10)), (a_17, .inl (cy 1, 3, .inl f_11)), (a_18, .inl (cy 1, 8, .inl f_12))]) hS
  refine lv_aload_n hx hb dX12_lands_5 rfl (lv_at hl 0 rfl) ?_
  refine lv_iload_n hx hb dX12_lands_6 rfl (lv_at hl 1 rfl) ?_
  refine lv_aload_n hx hb dX12_lands_7 rfl (lv_at hl 0 rfl) ?_
  refine mm_finir (va_runV (As := []) (rest := [.int i_0, .ref a_0]) ⟨hx, hb, hml, hown, hts⟩ (M120_X12_isBook l G cy H.size a_0 0 a_1 a_2 a_3 a_4 a_5 i_3 i_4 i_5 i_6 i_7 j_0 i_8 i_9 i_10 i_11 a_6 a_7 a_8 a_9 a_10 a_11 a_12 a_13 a_14 a_15 a_16 a_17 a_18 i_12 i_13 i_14 i_15 i_16 i_17 a_19 i_18 a_20 i_19 i_20 i_21 i_22 i_23 h3 h4 h5 h6 h7) (cwV 0 hts (mm_gV mm_w653 mm_w654 mm_w655 mm_w5 mm_w656) rfl rfl rfl hd_X12_isBook ⟨by rw [hRf]; exact Nat.le_of_ble_eq_true rfl, by rw [hRl]; exact Nat.le_of_ble_eq_true rfl⟩) (mm_preV hK hZ hS hA hP hD [0, 4] rfl rfl 0 rfl rfl rfl) rfl rfl hl.1 rfl (lv_room (Nat.le_of_ble_eq_true rfl)) dX12_lands_8 ⟨by rw [hRc]; exact Nat.le_of_ble_eq_true rfl, by rw [hRs]; exact Nat.le_of_ble_eq_true rfl⟩) hP hD hS hA [0, 4] rfl (fun _ => rfl) ?_
  clear hP hD hS
  clear H locs
  intro v1 _u H locs hw hP hD hS
  rcases hw with rfl | rfl
  · refine lv_if_eq (tgt := 25) hx hb dX12_lands_11 (by decide) (fun c2 => ?_) (fun c2 => ?_)
    · refine lv_iconst (v := 0) hx hb dX12_lands_25 (by decide) ?_
      refine mm_finir (va_runV (As := [.int i_0, .int 0]) (rest := []) ⟨hx, hb, hml, hown, hts⟩ (M198_X12_whyNot l G cy H.size a_0 i_0 ) (cwV 2 hts (mm_gV mm_w1265 mm_w1266 mm_w1267 mm_w5 mm_w1268) rfl rfl rfl hd_X12_whyNot ⟨by rw [hRf]; exact Nat.le_of_ble_eq_true rfl, by rw [hRl]; exact Nat.le_of_ble_eq_true rfl⟩) (mm_preV hK hZ hS hA hP hD [] rfl rfl 0 rfl rfl rfl) rfl rfl hl.1 rfl (lv_room (Nat.le_of_ble_eq_true rfl)) dX12_lands_26 ⟨by rw [hRc]; exact Nat.le_of_ble_eq_true rfl, by rw [hRs]; exact Nat.le_of_ble_eq_true rfl⟩) hP hD hS hA [] rfl (fun _ => rfl) ?_
      clear hP hD hS
      clear H locs
      intro v3 _u H locs hw hP hD hS
      subst hw
      refine lv_istore_n (lv' := [(3, .int (-2)), (0, .ref a_0), (1, .int i_0), (2, .int i_1)]) hx hb dX12_lands_29 rfl hl (by decide) rfl ?_
      clear hl
      clear ls
      intro ls hl
      refine lv_iload_n hx hb dX12_lands_30 rfl (lv_at hl 0 rfl) ?_
      refine lv_if_eq (tgt := 36) hx hb dX12_lands_31 (by decide) (fun c4 => ?_) (fun c4 => ?_)
      · exact mm_eqN c4 mm_km2 mm_k0 (by decide)
      · refine lv_iload_n hx hb dX12_lands_34 rfl (lv_at hl 0 rfl) ?_
        subst hAe
        rw [hQ]
        exact W.iret (v := (-2)) hx hb hr (fun t ht hW => ⟨⟨(-2), (i_12, i_13, i_14, f_9, f_10, f_11, f_12), rfl, ⟨h0, h44, h45, h46, h47, (mm_wk mm_km2 (by decide))⟩, by rw [ht]; exact hP, hK.warm hW, hD⟩, hS.F ht⟩) hS.2.2 dX12_lands_35
    · exact absurd rfl (mm_ne c2)
  · refine lv_if_eq (tgt := 25) hx hb dX12_lands_11 (by decide) (fun c5 => ?_) (fun c5 => ?_)
    · exact mm_eqN c5.symm mm_k0 mm_k1 (by decide)
    · refine lv_iload_n hx hb dX12_lands_14 rfl (lv_at hl 2 rfl) ?_
      refine mm_finir (va_runS (As := [.int i_1]) (rest := [.int i_0, .ref a_0]) ⟨hx, hb, hml, hown, hts⟩ (M103_X12_isDay l G cy H.size i_1 ) (va_cwS 1 hts (mm_gS mm_w682 mm_w683 mm_w5 mm_w684) rfl rfl rfl hs_X12_isDay ⟨by rw [hRf]; exact Nat.le_of_ble_eq_true rfl, by rw [hRl]; exact Nat.le_of_ble_eq_true rfl⟩) (mm_preS hK hZ hS hA hP hD [] rfl rfl) rfl rfl hl.1 rfl (lv_room (Nat.le_of_ble_eq_true rfl)) dX12_lands_15 ⟨by rw [hRc]; exact Nat.le_of_ble_eq_true rfl, by rw [hRs]; exact Nat.le_of_ble_eq_true rfl⟩) hP hD hS hA [] rfl (fun _ => rfl) ?_
      clear hP hD hS
      clear H locs
      intro v6 _u H locs hw hP hD hS
      rcases hw with rfl | ⟨rfl, w7⟩
      · refine lv_if_eq (tgt := 25) hx hb dX12_lands_18 (by decide) (fun c8 => ?_) (fun c8 => ?_)
        · refine lv_iconst (v := 0) hx hb dX12_lands_25 (by decide) ?_
          refine mm_finir (va_runV (As := [.int i_0, .int 0]) (rest := []) ⟨hx, hb, hml, hown, hts⟩ (M198_X12_whyNot l G cy H.size a_0 i_0 ) (cwV 2 hts (mm_gV mm_w1265 mm_w1266 mm_w1267 mm_w5 mm_w1268) rfl rfl rfl hd_X12_whyNot ⟨by rw [hRf]; exact Nat.le_of_ble_eq_true rfl, by rw [hRl]; exact Nat.le_of_ble_eq_true rfl⟩) (mm_preV hK hZ hS hA hP hD [] rfl rfl 0 rfl rfl rfl) rfl rfl hl.1 rfl (lv_room (Nat.le_of_ble_eq_true rfl)) dX12_lands_26 ⟨by rw [hRc]; exact Nat.le_of_ble_eq_true rfl, by rw [hRs]; exact Nat.le_of_ble_eq_true rfl⟩) hP hD hS hA [] rfl (fun _ => rfl) ?_
          clear hP hD hS
          clear H locs
          intro v9 _u H locs hw hP hD hS
          subst hw
          refine lv_istore_n (lv' := [(3, .int (-2)), (0, .ref a_0), (1, .int i_0), (2, .int i_1)]) hx hb dX12_lands_29 rfl hl (by decide) rfl ?_
          clear hl
          clear ls
          intro ls hl
          refine lv_iload_n hx hb dX12_lands_30 rfl (lv_at hl 0 rfl) ?_
          refine lv_if_eq (tgt := 36) hx hb dX12_lands_31 (by decide) (fun c10 => ?_) (fun c10 => ?_)
          · exact mm_eqN c10 mm_km2 mm_k0 (by decide)
          · refine lv_iload_n hx hb dX12_lands_34 rfl (lv_at hl 0 rfl) ?_
            subst hAe
            rw [hQ]
            exact W.iret (v := (-2)) hx hb hr (fun t ht hW => ⟨⟨(-2), (i_12, i_13, i_14, f_9, f_10, f_11, f_12), rfl, ⟨h0, h44, h45, h46, h47, (mm_wk mm_km2 (by decide))⟩, by rw [ht]; exact hP, hK.warm hW, hD⟩, hS.F ht⟩) hS.2.2 dX12_lands_35
        · exact absurd rfl (mm_ne c8)
      · refine lv_if_eq (tgt := 25) hx hb dX12_lands_18 (by decide) (fun c11 => ?_) (fun c11 => ?_)
        · exact mm_eqN c11.symm mm_k0 mm_k1 (by decide)
        · refine lv_iconst (v := 1) hx hb dX12_lands_21 (by decide) ?_
          refine lv_goto (tgt := 26) hx hb dX12_lands_22 (by decide) ?_
          refine mm_finir (va_runV (As := [.int i_0, .int 1]) (rest := []) ⟨hx, hb, hml, hown, hts⟩ (M200_X12_whyNot l G cy H.size a_0 i_0 0 a_1 a_2 a_3 a_4 a_5 i_3 i_4 i_5 i_6 i_7 j_0 i_8 i_9 i_10 i_11 a_6 a_7 a_8 a_9 a_10 a_11 a_12 a_13 a_14 a_15 a_16 a_17 a_18 i_12 i_13 i_14 i_15 i_16 i_17 a_19 i_18 a_20 f_0 f_1 f_2 i_24 i_25 i_26 i_27 i_28 i_29 i_30 i_31 i_32 i_33 i_34 i_35 i_36 i_37 i_38 i_39 i_40 i_41 i_42 i_43 i_44 i_45 i_46 i_47 i_48 i_49 i_50 i_51 i_52 i_53 h1 h2 h8 h9 h10 h11 h12 h13 h14 h15 h16 h17 h18 h19 h20 h21 h22 h23 h24 h25 h26 h27 h28 h29 h30 h31 h32 h33 h34 h35 h36 h37) (cwV 2 hts (mm_gV mm_w1265 mm_w1266 mm_w1267 mm_w5 mm_w1268) rfl rfl rfl hd_X12_whyNot ⟨by rw [hRf]; exact Nat.le_of_ble_eq_true rfl, by rw [hRl]; exact Nat.le_of_ble_eq_true rfl⟩) (mm_preV hK hZ hS hA hP hD [0, 1, 2, 3, 5] rfl rfl 0 rfl rfl rfl) rfl rfl hl.1 rfl (lv_room (Nat.le_of_ble_eq_true rfl)) dX12_lands_26 ⟨by rw [hRc]; exact Nat.le_of_ble_eq_true rfl, by rw [hRs]; exact Nat.le_of_ble_eq_true rfl⟩) hP hD hS hA [0, 1, 2, 3, 5] rfl (fun _ => rfl) ?_
          clear hP hD hS
          clear H locs
          intro v12 _u H locs hw hP hD hS
          rcases hw with rfl | ⟨rfl, w13⟩ | ⟨rfl, w14, w15⟩
          · refine lv_istore_n (lv' := [(3, .int (-2)), (0, .ref a_0), (1, .int i_0), (2, .int i_1)]) hx hb dX12_lands_29 rfl hl (by decide) rfl ?_
            clear hl
            clear ls
            intro ls hl
            refine lv_iload_n hx hb dX12_lands_30 rfl (lv_at hl 0 rfl) ?_
            refine lv_if_eq (tgt := 36) hx hb dX12_lands_31 (by decide) (fun c16 => ?_) (fun c16 => ?_)
            · exact mm_eqN c16 mm_km2 mm_k0 (by decide)
            · refine lv_iload_n hx hb dX12_lands_34 rfl (lv_at hl 0 rfl) ?_
              subst hAe
              rw [hQ]
              exact W.iret (v := (-2)) hx hb hr (fun t ht hW => ⟨⟨(-2), (i_12, i_13, i_14, f_9, f_10, f_11, f_12), rfl, ⟨h0, h44, h45, h46, h47, (mm_wk mm_km2 (by decide))⟩, by rw [ht]; exact hP, hK.warm hW, hD⟩, hS.F ht⟩) hS.2.2 dX12_lands_35
          · refine lv_istore_n (lv' := [(3, .int (-6)), (0, .ref a_0), (1, .int i_0), (2, .int i_1)]) hx hb dX12_lands_29 rfl hl (by decide) rfl ?_
            clear hl
            clear ls
            intro ls hl
            refine lv_iload_n hx hb dX12_lands_30 rfl (lv_at hl 0 rfl) ?_
            refine lv_if_eq (tgt := 36) hx hb dX12_lands_31 (by decide) (fun c17 => ?_) (fun c17 => ?_)
            · exact mm_eqN c17 mm_km6 mm_k0 (by decide)
            · refine lv_iload_n hx hb dX12_lands_34 rfl (lv_at hl 0 rfl) ?_
              subst hAe
              rw [hQ]
              exact W.iret (v := (-6)) hx hb hr (fun t ht hW => ⟨⟨(-6), (i_12, i_13, i_14, f_9, f_10, f_11, f_12), rfl, ⟨h0, h44, h45, h46, h47, (mm_wk mm_km6 (by decide))⟩, by rw [ht]; exact hP, hK.warm hW, hD⟩, hS.F ht⟩) hS.2.2 dX12_lands_35
          · refine lv_istore_n (lv' := [(3, .int 0), (0, .ref a_0), (1, .int i_0), (2, .int i_1)]) hx hb dX12_lands_29 rfl hl (by decide) rfl ?_
            clear hl
            clear ls
            intro ls hl
            refine lv_iload_n hx hb dX12_lands_30 rfl (lv_at hl 0 rfl) ?_
            refine lv_if_eq (tgt := 36) hx hb dX12_lands_31 (by decide) (fun c18 => ?_) (fun c18 => ?_)
            · refine lv_aload_n hx hb dX12_lands_36 rfl (lv_at hl 1 rfl) ?_
              refine mm_finv (va_runV (As := []) (rest := []) ⟨hx, hb, hml, hown, hts⟩ (M125_X12_lays l G cy H.size a_0 0 a_1 a_2 a_3 a_4 a_5 i_3 i_4 i_5 i_6 i_7 j_0 i_8 i_9 i_10 i_11 a_6 a_7 a_8 a_9 a_10 a_11 a_12 a_13 a_14 a_15 a_16 a_17 a_18 i_12 i_13 i_14 i_15 i_16 i_17 a_19 i_18 a_20 i_19 i_20 i_21 i_22 i_23 i_24 i_25 i_26 i_27 i_28 i_29 i_30 i_31 i_32 i_33 i_34 i_35 i_36 i_37 i_38 i_39 i_40 i_41 i_42 i_43 i_44 i_45 i_46 i_47 i_48 i_49 i_50 i_51 i_52 i_53 f_4 f_5 f_8 f_9 f_10 f_11 h3 h4 h5 h6 h7 h8 h9 h10 h11 h12 h13 h14 h15 h16 h17 h18 h19 h20 h21 h22 h23 h24 h25 h26 h27 h28 h29 h30 h31 h32 h33 h34 h35 h36 h37 h39 h40 h43 h44 h45 h46 h48 h50 h51 h52 h54 h55 h56 h58 h59 h60 h62 h63) (cwV 0 hts (mm_gV mm_w686 mm_w687 mm_w688 mm_w5 mm_w689) rfl rfl rfl hd_X12_lays ⟨by rw [hRf]; exact Nat.le_of_ble_eq_true rfl, by rw [hRl]; exact Nat.le_of_ble_eq_true rfl⟩) (mm_preV hK hZ hS hA hP hD [0, 4, 5, 7, 8, 11, 12, 13, 14] rfl rfl 0 rfl rfl rfl) rfl rfl hl.1 rfl (lv_room (Nat.le_of_ble_eq_true rfl)) dX12_lands_37 ⟨by rw [hRc]; exact Nat.le_of_ble_eq_true rfl, by rw [hRs]; exact Nat.le_of_ble_eq_true rfl⟩) hP hD hS hA (fun u : (Nat → Int32) × (Nat → Int32) × (Nat → Int32) => [(a_0, .inr (12, [.int 0, .ref a_1, .ref a_2, .ref a_3, .ref a_4, .ref a_5, .int i_3, .int i_4, .int i_5, .int i_6, .int i_7, .long j_0, .int i_8, .int i_9, .int i_10, .int i_11, .ref a_6, .ref a_7, .ref a_8, .ref a_9, .ref a_10, .ref a_11, .ref a_12, .ref a_13, .ref a_14, .ref a_15, .ref a_16, .ref a_17, .ref a_18, .int i_12, .int i_13, .int i_14, .int i_15, .int i_16, .int i_17, .ref a_19, .int i_18, .ref a_20])), (a_1, .inl (cy 1, 4, .inl f_0)), (a_2, .inl (cy 1, 4, .inl f_1)), (a_3, .inl (cy 2, 240, .inr (.inl f_2))), (a_6, .inl (cy 1, 5, .inl (mm_g [i_19, i_20, i_21, i_22, i_23]))), (a_7, .inl (cy 1, 30, .inl (mm_g [i_24, i_25, i_26, i_27, i_28, i_29, i_30, i_31, i_32, i_33, i_34, i_35, i_36, i_37, i_38, i_39, i_40, i_41, i_42, i_43, i_44, i_45, i_46, i_47, i_48, i_49, i_50, i_51, i_52, i_53]))), (a_8, .inl (cy 1, 90, .inl f_3)), (a_9, .inl (cy 1, 15, .inl f_4)), (a_10, .inl (cy 1, 1050, .inl f_5)), (a_11, .inl (cy 1, 30, .inl f_6)), (a_12, .inl (cy 1, 240, .inl f_7)), (a_13, .inl (cy 1, 450, .inl f_8)), (a_15, .inl (cy 1, 7200, .inl u.1)), (a_16, .inl (cy 1, 3, .inl u.2.1)), (a_17, .inl (cy 1, 3, .inl u.2.2)), (a_18, .inl (cy 1, 8, .inl f_12))]) [0, 4, 5, 7, 8, 11, 12, 13, 14] [1, 2, 3, 6, 9, 10, 15] (n := 16) (fun _ => rfl) (by decide +kernel) (by decide +kernel) rfl (fun _ => rfl) (wr := [(a_1, .inl (cy 1, 4, .inl f_0)), (a_2, .inl (cy 1, 4, .inl f_1)), (a_3, .inl (cy 2, 240, .inr (.inl f_2))), (a_8, .inl (cy 1, 90, .inl f_3)), (a_11, .inl (cy 1, 30, .inl f_6)), (a_12, .inl (cy 1, 240, .inl f_7)), (a_18, .inl (cy 1, 8, .inl f_12))]) rfl (fun _ => rfl) (fun _ => @rfl _ ([a_0, a_6, a_7, a_9, a_10, a_13, a_15, a_16, a_17] : List Nat)) ?_
              clear hP hD hS
              clear H locs
              intro u
              obtain ⟨n19, n20, n21⟩ := u
              intro H locs hw (hP : va_P G vwCl [(a_0, .inr (12, [.int 0, .ref a_1, .ref a_2, .ref a_3, .ref a_4, .ref a_5, .int i_3, .int i_4, .int i_5, .int i_6, .int i_7, .long j_0, .int i_8, .int i_9, .int i_10, .int i_11, .ref a_6, .ref a_7, .ref a_8, .ref a_9, .ref a_10, .ref a_11, .ref a_12, .ref a_13, .ref a_14, .ref a_15, .ref a_16, .ref a_17, .ref a_18, .int i_12, .int i_13, .int i_14, .int i_15, .int i_16, .int i_17, .ref a_19, .int i_18, .ref a_20])), (a_1, .inl (cy 1, 4, .inl f_0)), (a_2, .inl (cy 1, 4, .inl f_1)), (a_3, .inl (cy 2, 240, .inr (.inl f_2))), (a_6, .inl (cy 1, 5, .inl (mm_g [i_19, i_20, i_21, i_22, i_23]))), (a_7, .inl (cy 1, 30, .inl (mm_g [i_24, i_25, i_26, i_27, i_28, i_29, i_30, i_31, i_32, i_33, i_34, i_35, i_36, i_37, i_38, i_39, i_40, i_41, i_42, i_43, i_44, i_45, i_46, i_47, i_48, i_49, i_50, i_51, i_52, i_53]))), (a_8, .inl (cy 1, 90, .inl f_3)), (a_9, .inl (cy 1, 15, .inl f_4)), (a_10, .inl (cy 1, 1050, .inl f_5)), (a_11, .inl (cy 1, 30, .inl f_6)), (a_12, .inl (cy 1, 240, .inl f_7)), (a_13, .inl (cy 1, 450, .inl f_8)), (a_15, .inl (cy 1, 7200, .inl n19)), (a_16, .inl (cy 1, 3, .inl n20)), (a_17, .inl (cy 1, 3, .inl n21)), (a_18, .inl (cy 1, 8, .inl f_12))] H) (hD : va_D A [(a_0, .inr (12, [.int 0, .ref a_1, .ref a_2, .ref a_3, .ref a_4, .ref a_5, .int i_3, .int i_4, .int i_5, .int i_6, .int i_7, .long j_0, .int i_8, .int i_9, .int i_10, .int i_11, .ref a_6, .ref a_7, .ref a_8, .ref a_9, .ref a_10, .ref a_11, .ref a_12, .ref a_13, .ref a_14, .ref a_15, .ref a_16, .ref a_17, .ref a_18, .int i_12, .int i_13, .int i_14, .int i_15, .int i_16, .int i_17, .ref a_19, .int i_18, .ref a_20])), (a_1, .inl (cy 1, 4, .inl f_0)), (a_2, .inl (cy 1, 4, .inl f_1)), (a_3, .inl (cy 2, 240, .inr (.inl f_2))), (a_6, .inl (cy 1, 5, .inl (mm_g [i_19, i_20, i_21, i_22, i_23]))), (a_7, .inl (cy 1, 30, .inl (mm_g [i_24, i_25, i_26, i_27, i_28, i_29, i_30, i_31, i_32, i_33, i_34, i_35, i_36, i_37, i_38, i_39, i_40, i_41, i_42, i_43, i_44, i_45, i_46, i_47, i_48, i_49, i_50, i_51, i_52, i_53]))), (a_8, .inl (cy 1, 90, .inl f_3)), (a_9, .inl (cy 1, 15, .inl f_4)), (a_10, .inl (cy 1, 1050, .inl f_5)), (a_11, .inl (cy 1, 30, .inl f_6)), (a_12, .inl (cy 1, 240, .inl f_7)), (a_13, .inl (cy 1, 450, .inl f_8)), (a_15, .inl (cy 1, 7200, .inl n19)), (a_16, .inl (cy 1, 3, .inl n20)), (a_17, .inl (cy 1, 3, .inl n21)), (a_18, .inl (cy 1, 8, .inl f_12))]) hS
              obtain ⟨w22, w23, w24, w25, w26⟩ := hw
              replace w25 : mm_laid n20 n21 i_27 := w25
              replace w26 : mm_tab n19 n20 i_26 i_27 := w26
              refine lv_iconst (v := 0) hx hb dX12_lands_40 (by decide) ?_
              refine lv_istore (lv' := [(4, .int 0), (3, .int 0), (0, .ref a_0), (1, .int i_0), (2, .int i_1)]) hx hb dX12_lands_41 hl (by decide) rfl ?_
              clear hl
              clear ls
              intro ls hl
              refine lv_iconst (v := 0) hx hb dX12_lands_43 (by decide) ?_
              refine lv_istore (lv' := [(5, .int 0), (4, .int 0), (3, .int 0), (0, .ref a_0), (1, .int i_0), (2, .int i_1)]) hx hb dX12_lands_44 hl (by decide) rfl ?_
              clear hl
              clear ls
              intro ls hl
              have L46_120 : ∀ (n : Nat) (x46_5_115 : Int32) (x46_4_116 : Int32) (y46_0_29_117 : Int32) (y46_0_30_118 : Int32) (y46_0_31_119 : Int32) (z46_15_120 : Nat → Int32), mm_rg x46_5_115 0 3 → mm_rg x46_4_116 0 7 → mm_rg y46_0_29_117 0 8 → mm_ar z46_15_120 0 9 → (3 - x46_5_115.toInt).toNat < n → ∀ (H : Heap) (locs : List Loc), va_P G vwCl [(a_0, .inr (12, [.int 0, .ref a_1, .ref a_2, .ref a_3, .ref a_4, .ref a_5, .int i_3, .int i_4, .int i_5, .int i_6, .int i_7, .long j_0, .int i_8, .int i_9, .int i_10, .int i_11, .ref a_6, .ref a_7, .ref a_8, .ref a_9, .ref a_10, .ref a_11, .ref a_12, .ref a_13, .ref a_14, .ref a_15, .ref a_16, .ref a_17, .ref a_18, .int y46_0_29_117, .int y46_0_30_118, .int y46_0_31_119, .int i_15, .int i_16, .int i_17, .ref a_19, .int i_18, .ref a_20])), (a_1, .inl (cy 1, 4, .inl f_0)), (a_2, .inl (cy 1, 4, .inl f_1)), (a_3, .inl (cy 2, 240, .inr (.inl f_2))), (a_6, .inl (cy 1, 5, .inl (mm_g [i_19, i_20, i_21, i_22, i_23]))), (a_7, .inl (cy 1, 30, .inl (mm_g [i_24, i_25, i_26, i_27, i_28, i_29, i_30, i_31, i_32, i_33, i_34, i_35, i_36, i_37, i_38, i_39, i_40, i_41, i_42, i_43, i_44, i_45, i_46, i_47, i_48, i_49, i_50, i_51, i_52, i_53]))), (a_8, .inl (cy 1, 90, .inl f_3)), (a_9, .inl (cy 1, 15, .inl f_4)), (a_10, .inl (cy 1, 1050, .inl f_5)), (a_11, .inl (cy 1, 30, .inl f_6)), (a_12, .inl (cy 1, 240, .inl f_7)), (a_13, .inl (cy 1, 450, .inl f_8)), (a_15, .inl (cy 1, 7200, .inl n19)), (a_16, .inl (cy 1, 3, .inl n20)), (a_17, .inl (cy 1, 3, .inl n21)), (a_18, .inl (cy 1, 8, .inl z46_15_120))] H → va_D A [(a_0, .inr (12, [.int 0, .ref a_1, .ref a_2, .ref a_3, .ref a_4, .ref a_5, .int i_3, .int i_4, .int i_5, .int i_6, .int i_7, .long j_0, .int i_8, .int i_9, .int i_10, .int i_11, .ref a_6, .ref a_7, .ref a_8, .ref a_9, .ref a_10, .ref a_11, .ref a_12, .ref a_13, .ref a_14, .ref a_15, .ref a_16, .ref a_17, .ref a_18, .int y46_0_29_117, .int y46_0_30_118, .int y46_0_31_119, .int i_15, .int i_16, .int i_17, .ref a_19, .int i_18, .ref a_20])), (a_1, .inl (cy 1, 4, .inl f_0)), (a_2, .inl (cy 1, 4, .inl f_1)), (a_3, .inl (cy 2, 240, .inr (.inl f_2))), (a_6, .inl (cy 1, 5, .inl (mm_g [i_19, i_20, i_21, i_22, i_23]))), (a_7, .inl (cy 1, 30, .inl (mm_g [i_24, i_25, i_26, i_27, i_28, i_29, i_30, i_31, i_32, i_33, i_34, i_35, i_36, i_37, i_38, i_39, i_40, i_41, i_42, i_43, i_44, i_45, i_46, i_47, i_48, i_49, i_50, i_51, i_52, i_53]))), (a_8, .inl (cy 1, 90, .inl f_3)), (a_9, .inl (cy 1, 15, .inl f_4)), (a_10, .inl (cy 1, 1050, .inl f_5)), (a_11, .inl (cy 1, 30, .inl f_6)), (a_12, .inl (cy 1, 240, .inl f_7)), (a_13, .inl (cy 1, 450, .inl f_8)), (a_15, .inl (cy 1, 7200, .inl n19)), (a_16, .inl (cy 1, 3, .inl n20)), (a_17, .inl (cy 1, 3, .inl n21)), (a_18, .inl (cy 1, 8, .inl z46_15_120))] → va_S A s.heap H locs → ∀ (ls : Array Slot), lv_has ls 6 [(5, .int x46_5_115), (4, .int x46_4_116), (3, .int 0), (0, .ref a_0), (1, .int i_0), (2, .int i_1)] → W p l e R s m args below meth c H locs 0 0 Q (F0 m 46 ls []) := by
                intro n
                induction n with
                | zero => intro x46_5_115 x46_4_116 y46_0_29_117 y46_0_30_118 y46_0_31_119 z46_15_120 rx46_5_115 rx46_4_116 ry46_0_29_117 rz46_15_120 hm; exact absurd hm (Nat.not_lt_zero _)
                | succ n ih46 =>
                  intro x46_5_115 x46_4_116 y46_0_29_117 y46_0_30_118 y46_0_31_119 z46_15_120 rx46_5_115 rx46_4_116 ry46_0_29_117 rz46_15_120 hm46 H locs hP hD hS ls hl
                  refine lv_iload hx hb dX12_lands_46 (lv_at hl 0 rfl) ?_
                  refine lv_aload_n hx hb dX12_lands_48 rfl (lv_at hl 3 rfl) ?_
                  refine va_get (D := G) (ci := 12) (v := .ref a_7) (C := RX12) (T := TX12) (N := 38) hx hb hts (mm_i inlX12) hown hK.1 hP 0 rfl rfl 17 (by decide) (mm_h hts mm_w149) (fun _ h9 => h9) rfl dX12_lands_49 ?_
                  refine lv_iconst (v := 3) hx hb dX12_lands_52 (by decide) ?_
                  refine va_iald hx hb hK.1 hP 5 1 rfl rfl (mm_in mm_k3 (by decide)) dX12_lands_53 ?_
                  rw [show (mm_g [i_24, i_25, i_26, i_27, i_28, i_29, i_30, i_31, i_32, i_33, i_34, i_35, i_36, i_37, i_38, i_39, i_40, i_41, i_42, i_43, i_44, i_45, i_46, i_47, i_48, i_49, i_50, i_51, i_52, i_53]) (3 : Int32).toNatClampNeg = i_27 from mm_ge 3 (by decide) rfl]
                  refine lv_icmp_ge (tgt := 87) hx hb dX12_lands_54 (by decide) (fun c122 => ?_) (fun c122 => ?_)
                  · refine lv_iload hx hb dX12_lands_87 (lv_at hl 1 rfl) ?_
                    subst hAe
                    rw [hQ]
                    exact W.iret (v := x46_4_116) hx hb hr (fun t ht hW => ⟨⟨x46_4_116, (y46_0_29_117, y46_0_30_118, y46_0_31_119, n19, n20, n21, z46_15_120), rfl, ⟨ry46_0_29_117, w22, w23, w24, rz46_15_120, (mm_wk rx46_4_116 (by decide))⟩, by rw [ht]; exact hP, hK.warm hW, hD⟩, hS.F ht⟩) hS.2.2 dX12_lands_89
                  · have q123 := mm_ltL (h := 2) (mm_nle c122) rx46_5_115 h11 (by decide)
                    have q124 := mm_ltR (lo := 1) (mm_nle c122) rx46_5_115 h11 (by decide)
                    have q125 : mm_rg i_19 1 601 := mm_tl_3 h51 q124 h3 (by decide)
                    refine lv_iload hx hb dX12_lands_57 (lv_at hl 1 rfl) ?_
                    refine lv_aload_n hx hb dX12_lands_59 rfl (lv_at hl 3 rfl) ?_
                    refine lv_iload_n hx hb dX12_lands_60 rfl (lv_at hl 4 rfl) ?_
                    refine lv_iload hx hb dX12_lands_61 (lv_at hl 0 rfl) ?_
                    refine lv_iload_n hx hb dX12_lands_63 rfl (lv_at hl 5 rfl) ?_
                    refine mm_fini (va_runV (As := [.int i_0, .int x46_5_115, .int i_1]) (rest := [.int x46_4_116]) ⟨hx, hb, hml, hown, hts⟩ (M201_X12_isSo l G cy H.size a_0 i_0 x46_5_115 i_1 0 a_1 a_2 a_3 a_4 a_5 i_3 i_4 i_5 i_6 i_7 j_0 i_8 i_9 i_10 i_11 a_6 a_7 a_8 a_9 a_10 a_11 a_12 a_13 a_14 a_15 a_16 a_17 a_18 y46_0_29_117 y46_0_30_118 y46_0_31_119 i_15 i_16 i_17 a_19 i_18 a_20 f_1 f_2 i_24 i_25 i_26 i_27 i_28 i_29 i_30 i_31 i_32 i_33 i_34 i_35 i_36 i_37 i_38 i_39 i_40 i_41 i_42 i_43 i_44 i_45 i_46 i_47 i_48 i_49 i_50 i_51 i_52 i_53 f_3 f_6 f_7 f_8 n19 n20 z46_15_120 w14 q123 (mm_wk w7 (by decide)) ry46_0_29_117 h2 h8 h9 h10 (mm_wk q124 (by decide)) h12 h13 h14 h15 h16 h17 h18 h19 h20 h21 h22 h23 h24 h25 h26 h27 h28 h29 h30 h31 h32 h33 h34 h35 h36 h37 h38 h41 h42 h43 w22 w23 rz46_15_120 h49 h50 h53 h54 h57 h58 h61 h62 (mm_f1_l w25 (mm_nle c122) q123 (by decide)) w15) (cwV 3 hts (mm_gV mm_w1277 mm_w1278 mm_w1279 mm_w5 mm_w1280) rfl rfl rfl hd_X12_isSo ⟨by rw [hRf]; exact Nat.le_of_ble_eq_true rfl, by rw [hRl]; exact Nat.le_of_ble_eq_true rfl⟩) (mm_preV hK hZ hS hA hP hD [0, 2, 3, 5, 6, 9, 10, 11, 12, 13, 15] rfl rfl 0 rfl rfl rfl) rfl rfl hl.1 rfl (lv_room (Nat.le_of_ble_eq_true rfl)) dX12_lands_64 ⟨by rw [hRc]; exact Nat.le_of_ble_eq_true rfl, by rw [hRs]; exact Nat.le_of_ble_eq_true rfl⟩) hP hD hS hA (fun u : Int32 × Int32 × Int32 × (Nat → Int32) => [(a_0, .inr (12, [.int 0, .ref a_1, .ref a_2, .ref a_3, .ref a_4, .ref a_5, .int i_3, .int i_4, .int i_5, .int i_6, .int i_7, .long j_0, .int i_8, .int i_9, .int i_10, .int i_11, .ref a_6, .ref a_7, .ref a_8, .ref a_9, .ref a_10, .ref a_11, .ref a_12, .ref a_13, .ref a_14, .ref a_15, .ref a_16, .ref a_17, .ref a_18, .int u.1, .int u.2.1, .int u.2.2.1, .int i_15, .int i_16, .int i_17, .ref a_19, .int i_18, .ref a_20])), (a_1, .inl (cy 1, 4, .inl f_0)), (a_2, .inl (cy 1, 4, .inl f_1)), (a_3, .inl (cy 2, 240, .inr (.inl f_2))), (a_6, .inl (cy 1, 5, .inl (mm_g [i_19, i_20, i_21, i_22, i_23]))), (a_7, .inl (cy 1, 30, .inl (mm_g [i_24, i_25, i_26, i_27, i_28, i_29, i_30, i_31, i_32, i_33, i_34, i_35, i_36, i_37, i_38, i_39, i_40, i_41, i_42, i_43, i_44, i_45, i_46, i_47, i_48, i_49, i_50, i_51, i_52, i_53]))), (a_8, .inl (cy 1, 90, .inl f_3)), (a_9, .inl (cy 1, 15, .inl f_4)), (a_10, .inl (cy 1, 1050, .inl f_5)), (a_11, .inl (cy 1, 30, .inl f_6)), (a_12, .inl (cy 1, 240, .inl f_7)), (a_13, .inl (cy 1, 450, .inl f_8)), (a_15, .inl (cy 1, 7200, .inl n19)), (a_16, .inl (cy 1, 3, .inl n20)), (a_17, .inl (cy 1, 3, .inl n21)), (a_18, .inl (cy 1, 8, .inl u.2.2.2))]) [0, 2, 3, 5, 6, 9, 10, 11, 12, 13, 15] [1, 4, 7, 8, 14] (n := 16) (fun _ => rfl) (by decide +kernel) (by decide +kernel) rfl (fun _ => rfl) (wr := [(a_1, .inl (cy 1, 4, .inl f_0)), (a_6, .inl (cy 1, 5, .inl (mm_g [i_19, i_20, i_21, i_22, i_23]))), (a_9, .inl (cy 1, 15, .inl f_4)), (a_10, .inl (cy 1, 1050, .inl f_5)), (a_17, .inl (cy 1, 3, .inl n21))]) rfl (fun _ => rfl) (fun _ => @rfl _ ([a_0, a_2, a_3, a_7, a_8, a_11, a_12, a_13, a_15, a_16, a_18] : List Nat)) ?_
                    clear hP hD hS
                    clear H locs
                    intro v130 u
                    obtain ⟨n126, n127, n128, n129⟩ := u
                    intro H locs hw (hP : va_P G vwCl [(a_0, .inr (12, [.int 0, .ref a_1, .ref a_2, .ref a_3, .ref a_4, .ref a_5, .int i_3, .int i_4, .int i_5, .int i_6, .int i_7, .long j_0, .int i_8, .int i_9, .int i_10, .int i_11, .ref a_6, .ref a_7, .ref a_8, .ref a_9, .ref a_10, .ref a_11, .ref a_12, .ref a_13, .ref a_14, .ref a_15, .ref a_16, .ref a_17, .ref a_18, .int n126, .int n127, .int n128, .int i_15, .int i_16, .int i_17, .ref a_19, .int i_18, .ref a_20])), (a_1, .inl (cy 1, 4, .inl f_0)), (a_2, .inl (cy 1, 4, .inl f_1)), (a_3, .inl (cy 2, 240, .inr (.inl f_2))), (a_6, .inl (cy 1, 5, .inl (mm_g [i_19, i_20, i_21, i_22, i_23]))), (a_7, .inl (cy 1, 30, .inl (mm_g [i_24, i_25, i_26, i_27, i_28, i_29, i_30, i_31, i_32, i_33, i_34, i_35, i_36, i_37, i_38, i_39, i_40, i_41, i_42, i_43, i_44, i_45, i_46, i_47, i_48, i_49, i_50, i_51, i_52, i_53]))), (a_8, .inl (cy 1, 90, .inl f_3)), (a_9, .inl (cy 1, 15, .inl f_4)), (a_10, .inl (cy 1, 1050, .inl f_5)), (a_11, .inl (cy 1, 30, .inl f_6)), (a_12, .inl (cy 1, 240, .inl f_7)), (a_13, .inl (cy 1, 450, .inl f_8)), (a_15, .inl (cy 1, 7200, .inl n19)), (a_16, .inl (cy 1, 3, .inl n20)), (a_17, .inl (cy 1, 3, .inl n21)), (a_18, .inl (cy 1, 8, .inl n129))] H) (hD : va_D A [(a_0, .inr (12, [.int 0, .ref a_1, .ref a_2, .ref a_3, .ref a_4, .ref a_5, .int i_3, .int i_4, .int i_5, .int i_6, .int i_7, .long j_0, .int i_8, .int i_9, .int i_10, .int i_11, .ref a_6, .ref a_7, .ref a_8, .ref a_9, .ref a_10, .ref a_11, .ref a_12, .ref a_13, .ref a_14, .ref a_15, .ref a_16, .ref a_17, .ref a_18, .int n126, .int n127, .int n128, .int i_15, .int i_16, .int i_17, .ref a_19, .int i_18, .ref a_20])), (a_1, .inl (cy 1, 4, .inl f_0)), (a_2, .inl (cy 1, 4, .inl f_1)), (a_3, .inl (cy 2, 240, .inr (.inl f_2))), (a_6, .inl (cy 1, 5, .inl (mm_g [i_19, i_20, i_21, i_22, i_23]))), (a_7, .inl (cy 1, 30, .inl (mm_g [i_24, i_25, i_26, i_27, i_28, i_29, i_30, i_31, i_32, i_33, i_34, i_35, i_36, i_37, i_38, i_39, i_40, i_41, i_42, i_43, i_44, i_45, i_46, i_47, i_48, i_49, i_50, i_51, i_52, i_53]))), (a_8, .inl (cy 1, 90, .inl f_3)), (a_9, .inl (cy 1, 15, .inl f_4)), (a_10, .inl (cy 1, 1050, .inl f_5)), (a_11, .inl (cy 1, 30, .inl f_6)), (a_12, .inl (cy 1, 240, .inl f_7)), (a_13, .inl (cy 1, 450, .inl f_8)), (a_15, .inl (cy 1, 7200, .inl n19)), (a_16, .inl (cy 1, 3, .inl n20)), (a_17, .inl (cy 1, 3, .inl n21)), (a_18, .inl (cy 1, 8, .inl n129))]) hS
                    obtain ⟨w131, w132, hw⟩ := hw
                    rcases hw with rfl | rfl
                    · refine lv_if_eq (tgt := 77) hx hb dX12_lands_67 (by decide) (fun c133 => ?_) (fun c133 => ?_)
                      · refine lv_iconst (v := 0) hx hb dX12_lands_77 (by decide) ?_
                        refine lv_ior hx hb dX12_lands_78 ?_
                        refine lv_topi (fun v134 ev134 => ?_)
                        have rv134 : mm_rg v134 0 7 := mm_or ev134 3 rx46_4_116 mm_k0 (by decide)
                        refine lv_istore (lv' := [(4, .int v134), (5, .int x46_5_115), (3, .int 0), (0, .ref a_0), (1, .int i_0), (2, .int i_1)]) hx hb dX12_lands_79 hl (by decide) rfl ?_
                        clear hl
                        clear ls
                        intro ls hl
                        obtain ⟨v135, ev135⟩ : ∃ y : Int32, y = x46_5_115 + 1 := ⟨_, rfl⟩
                        refine lv_iinc (v := v135) (lv' := [(5, .int v135), (4, .int v134), (3, .int 0), (0, .ref a_0), (1, .int i_0), (2, .int i_1)]) hx hb dX12_lands_81 hl (k := 1) rfl (by rw [ev135]; rfl) (by decide) rfl ?_
                        clear hl
                        clear ls
                        intro ls hl
                        have rv135 : mm_rg v135 1 3 := mm_add ev135 q123 mm_k1 (by decide) (by decide)
                        have tv135 := mm_addEc ev135 q123 mm_k1 (by decide) (k := 1) (by decide)
                        refine lv_goto (tgt := 46) hx hb dX12_lands_84 (by decide) ?_
                        exact ih46 v135 v134 n126 n127 n128 n129 (mm_wk rv135 (by decide)) rv134 w131 w132 (mm_mu hm46 tv135 (by decide) (rv135).2 (by decide)) H locs hP hD hS ls (lv_sub hl [0, 1, 2, 3, 4, 5] rfl)
                      · exact absurd rfl (mm_ne c133)
                    · refine lv_if_eq (tgt := 77) hx hb dX12_lands_67 (by decide) (fun c136 => ?_) (fun c136 => ?_)
                      · exact mm_eqN c136.symm mm_k0 mm_k1 (by decide)
                      · refine lv_iconst (v := 1) hx hb dX12_lands_70 (by decide) ?_
                        refine lv_iload hx hb dX12_lands_71 (lv_at hl 0 rfl) ?_
                        refine lv_ishl hx hb dX12_lands_73 ?_
                        refine lv_topi (fun v137 ev137 => ?_)
                        have rv137 : mm_rg v137 1 4 := mm_shl1 ev137 q123 (by decide)
                        refine lv_goto (tgt := 78) hx hb dX12_lands_74 (by decide) ?_
                        refine lv_ior hx hb dX12_lands_78 ?_
                        refine lv_topi (fun v138 ev138 => ?_)
                        have rv138 : mm_rg v138 0 7 := mm_or ev138 3 rx46_4_116 rv137 (by decide)
                        refine lv_istore (lv' := [(4, .int v138), (5, .int x46_5_115), (3, .int 0), (0, .ref a_0), (1, .int i_0), (2, .int i_1)]) hx hb dX12_lands_79 hl (by decide) rfl ?_
                        clear hl
                        clear ls
                        intro ls hl
                        obtain ⟨v139, ev139⟩ : ∃ y : Int32, y = x46_5_115 + 1 := ⟨_, rfl⟩
                        refine lv_iinc (v := v139) (lv' := [(5, .int v139), (4, .int v138), (3, .int 0), (0, .ref a_0), (1, .int i_0), (2, .int i_1)]) hx hb dX12_lands_81 hl (k := 1) rfl (by rw [ev139]; rfl) (by decide) rfl ?_
                        clear hl
                        clear ls
                        intro ls hl
                        have rv139 : mm_rg v139 1 3 := mm_add ev139 q123 mm_k1 (by decide) (by decide)
                        have tv139 := mm_addEc ev139 q123 mm_k1 (by decide) (k := 1) (by decide)
                        refine lv_goto (tgt := 46) hx hb dX12_lands_84 (by decide) ?_
                        exact ih46 v139 v138 n126 n127 n128 n129 (mm_wk rv139 (by decide)) rv138 w131 w132 (mm_mu hm46 tv139 (by decide) (rv139).2 (by decide)) H locs hP hD hS ls (lv_sub hl [0, 1, 2, 3, 4, 5] rfl)
              exact L46_120 _ 0 0 i_12 i_13 i_14 f_12 (mm_wk mm_k0 (by decide)) (mm_wk mm_k0 (by decide)) h0 h47 (Nat.lt_succ_self _) H locs hP hD hS ls (lv_sub hl [0, 1, 2, 3, 4, 5] rfl)
            · exact absurd rfl (mm_ne c18)

set_option maxHeartbeats 4000000 in
set_option maxRecDepth 100000 in
theorem M210_X12_isWords (l : Launch) (G : va_G) (cy : Nat → ClassId) (sz : Nat) (a_0 : Nat) (i_0 : Int32) (i_1 : Int32) (i_2 : Int32) (i_3 : Int32) (i_4 : Int32) (a_1 : Nat) (a_2 : Nat) (a_3 : Nat) (a_4 : Nat) (a_5 : Nat) (i_5 : Int32) (i_6 : Int32) (i_7 : Int32) (i_8 : Int32) (i_9 : Int32) (j_0 : Int64) (i_10 : Int32) (i_11 : Int32) (i_12 : Int32) (i_13 : Int32) (a_6 : Nat) (a_7 : Nat) (a_8 : Nat) (a_9 : Nat) (a_10 : Nat) (a_11 : Nat) (a_12 : Nat) (a_13 : Nat) (a_14 : Nat) (a_15 : Nat) (a_16 : Nat) (a_17 : Nat) (a_18 : Nat) (i_14 : Int32) (i_15 : Int32) (i_16 : Int32) (i_17 : Int32) (i_18 : Int32) (i_19 : Int32) (a_19 : Nat) (i_20 : Int32) (a_20 : Nat) (i_21 : Int32) (i_22 : Int32) (i_23 : Int32) (i_24 : Int32) (i_25 : Int32) (i_26 : Int32) (i_27 : Int32) (i_28 : Int32) (i_29 : Int32) (i_30 : Int32) (i_31 : Int32) (i_32 : Int32) (i_33 : Int32) (i_34 : Int32) (i_35 : Int32) (i_36 : Int32) (i_37 : Int32) (i_38 : Int32) (i_39 : Int32) (i_40 : Int32) (i_41 : Int32) (i_42 : Int32) (i_43 : Int32) (i_44 : Int32) (i_45 : Int32) (i_46 : Int32) (i_47 : Int32) (i_48 : Int32) (i_49 : Int32) (i_50 : Int32) (h0 : mm_rg i_21 0 10) (h1 : mm_rg i_22 0 99) (h2 : mm_rg i_23 0 9) (h3 : mm_rg i_24 0 3) (h4 : mm_rg i_25 0 6) (h5 : mm_rg i_26 0 30) (h6 : mm_rg i_27 0 10) (h7 : mm_rg i_28 0 99) (h8 : mm_rg i_29 0 9) (h9 : mm_rg i_30 0 3) (h10 : mm_rg i_31 0 6) (h11 : mm_rg i_32 0 30) (h12 : mm_rg i_33 0 10) (h13 : mm_rg i_34 0 99) (h14 : mm_rg i_35 0 9) (h15 : mm_rg i_36 0 3) (h16 : mm_rg i_37 0 6) (h17 : mm_rg i_38 0 30) (h18 : mm_rg i_39 0 10) (h19 : mm_rg i_40 0 99) (h20 : mm_rg i_41 0 9) (h21 : mm_rg i_42 0 3) (h22 : mm_rg i_43 0 6) (h23 : mm_rg i_44 0 30) (h24 : mm_rg i_45 0 10) (h25 : mm_rg i_46 0 99) (h26 : mm_rg i_47 0 9) (h27 : mm_rg i_48 0 3) (h28 : mm_rg i_49 0 6) (h29 : mm_rg i_50 0 30)  : mm_CI l yX12_isWords (mm_ws yX12_isWords cX12_isWords 5 (some .boolean)) ({ frames := 3, cells := 0, slots := 0, locals := 68 } : Room) G cy sz [(a_0, .inr (12, [.int i_4, .ref a_1, .ref a_2, .ref a_3, .ref a_4, .ref a_5, .int i_5, .int i_6, .int i_7, .int i_8, .int i_9, .long j_0, .int i_10, .int i_11, .int i_12, .int i_13, .ref a_6, .ref a_7, .ref a_8, .ref a_9, .ref a_10, .ref a_11, .ref a_12, .ref a_13, .ref a_14, .ref a_15, .ref a_16, .ref a_17, .ref a_18, .int i_14, .int i_15, .int i_16, .int i_17, .int i_18, .int i_19, .ref a_19, .int i_20, .ref a_20])), (a_7, .inl (cy 1, 30, .inl (mm_g [i_21, i_22, i_23, i_24, i_25, i_26, i_27, i_28, i_29, i_30, i_31, i_32, i_33, i_34, i_35, i_36, i_37, i_38, i_39, i_40, i_41, i_42, i_43, i_44, i_45, i_46, i_47, i_48, i_49, i_50])))] [.ref a_0, .int i_0, .int i_1, .int i_2, .int i_3] (fun u : Unit => [(a_0, .inr (12, [.int i_4, .ref a_1, .ref a_2, .ref a_3, .ref a_4, .ref a_5, .int i_5, .int i_6, .int i_7, .int i_8, .int i_9, .long j_0, .int i_10, .int i_11, .int i_12, .int i_13, .ref a_6, .ref a_7, .ref a_8, .ref a_9, .ref a_10, .ref a_11, .ref a_12, .ref a_13, .ref a_14, .ref a_15, .ref a_16, .ref a_17, .ref a_18, .int i_14, .int i_15, .int i_16, .int i_17, .int i_18, .int i_19, .ref a_19, .int i_20, .ref a_20])), (a_7, .inl (cy 1, 30, .inl (mm_g [i_21, i_22, i_23, i_24, i_25, i_26, i_27, i_28, i_29, i_30, i_31, i_32, i_33, i_34, i_35, i_36, i_37, i_38, i_39, i_40, i_41, i_42, i_43, i_44, i_45, i_46, i_47, i_48, i_49, i_50])))]) (fun (r : Int32) (u : Unit) => ((0 = r) ∨ (1 = r ∧ mm_rg i_0 0 2 ∧ mm_rg i_1 0 1000000000 ∧ mm_rg i_2 1 7 ∧ mm_rg i_3 0 9999 ∧ (i_0 : Int32).toInt < (i_24 : Int32).toInt))) 0 0 := by
  refine mm_begin (lv := [(0, .ref a_0), (1, .int i_0), (2, .int i_1), (3, .int i_2), (4, .int i_3)]) (by decide) (Nat.le_of_ble_eq_true rfl) rfl ?_
  intro p e s m below meth c A ls R args Q H locs hRe hQ hAe hx hb hr hlocks hml hown hnm hts hsz hA hS hP hK hD hZ hl
  have hRf : R.frames = 3 := by rw [hRe]
  have hRl : R.locals = 68 := by rw [hRe]
  have hRc : R.cells = 0 := by rw [hRe]
  have hRs : R.slots = 0 := by rw [hRe]
  refine lv_aload_n hx hb dX12_isWords_0 rfl (lv_at hl 0 rfl) ?_
  refine lv_iload_n hx hb dX12_isWords_1 rfl (lv_at hl 1 rfl) ?_
  refine lv_iload_n hx hb dX12_isWords_2 rfl (lv_at hl 2 rfl) ?_
  refine mm_finir (va_runV (As := [.int i_0, .int i_1]) (rest := []) ⟨hx, hb, hml, hown, hts⟩ (M104_X12_isThen l G cy H.size a_0 i_0 i_1 i_4 a_1 a_2 a_3 a_4 a_5 i_5 i_6 i_7 i_8 i_9 j_0 i_10 i_11 i_12 i_13 a_6 a_7 a_8 a_9 a_10 a_11 a_12 a_13 a_14 a_15 a_16 a_17 a_18 i_14 i_15 i_16 i_17 i_18 i_19 a_19 i_20 a_20 i_21 i_22 i_23 i_24 i_25 i_26 i_27 i_28 i_29 i_30 i_31 i_32 i_33 i_34 i_35 i_36 i_37 i_38 i_39 i_40 i_41 i_42 i_43 i_44 i_45 i_46 i_47 i_48 i_49 i_50 h0 h1 h2 h3 h4 h5 h6 h7 h8 h9 h10 h11 h12 h13 h14 h15 h16 h17 h18 h19 h20 h21 h22 h23 h24 h25 h26 h27 h28 h29) (cwV 2 hts (mm_gV mm_w678 mm_w679 mm_w680 mm_w5 mm_w681) rfl rfl rfl hd_X12_isThen ⟨by rw [hRf]; exact Nat.le_of_ble_eq_true rfl, by rw [hRl]; exact Nat.le_of_ble_eq_true rfl⟩) (mm_preV hK hZ hS hA hP hD [0, 1] rfl rfl 0 rfl rfl rfl) rfl rfl hl.1 rfl (lv_room (Nat.le_of_ble_eq_true rfl)) dX12_isWords_3 ⟨by rw [hRc]; exact Nat.le_of_ble_eq_true rfl, by rw [hRs]; exact Nat.le_of_ble_eq_true rfl⟩) hP hD hS hA [0, 1] rfl (fun _ => rfl) ?_
  clear hP hD hS
  clear H locs
  intro v1 _u H locs hw hP hD hS
  rcases hw with rfl | ⟨rfl, w2, w3, w4⟩
  · refine lv_if_eq (tgt := 34) hx hb dX12_isWords_6 (by decide) (fun c5 => ?_) (fun c5 => ?_)
    · refine lv_iconst (v := 0) hx hb dX12_isWords_34 (by decide) ?_
      subst hAe
      rw [hQ]
      exact W.zret (v := 0) hx hb hr rfl (fun t ht hW => ⟨⟨0, (), rfl, (Or.inl rfl), by rw [ht]; exact hP, hK.warm hW, hD⟩, hS.F ht⟩) hS.2.2 dX12_isWords_35
    · exact absurd rfl (mm_ne c5)
  · have q6 := mm_ltR (lo := 1) w4 w2 h3 (by decide)
    refine lv_if_eq (tgt := 34) hx hb dX12_isWords_6 (by decide) (fun c7 => ?_) (fun c7 => ?_)
    · exact mm_eqN c7.symm mm_k0 mm_k1 (by decide)
    · refine lv_iload_n hx hb dX12_isWords_9 rfl (lv_at hl 3 rfl) ?_
      obtain ⟨v8, ev8⟩ : ∃ y : Int64, y = i_2.toInt64 := ⟨_, rfl⟩
      refine lv_i2l hx hb dX12_isWords_10 ev8.symm ?_
      have rv8 : mm_rl v8 (-2147483648) 2147483647 := mm_i2l ev8 (mm_top i_2)
      refine lv_lconst (v := 1) hx hb dX12_isWords_11 (by decide) ?_
      refine lv_ldc2 (v := 7) hx hb hown (mm_h hts mm_w1399) dX12_isWords_12 ?_
      refine mm_finir (va_runS (As := [.long v8, .long 1, .long 7]) (rest := []) ⟨hx, hb, hml, hown, hts⟩ (M63_X12_in l G cy H.size v8 7 ) (va_cwS 3 hts (mm_gS mm_w191 mm_w192 mm_w5 mm_w193) rfl rfl rfl hs_X12_in ⟨by rw [hRf]; exact Nat.le_of_ble_eq_true rfl, by rw [hRl]; exact Nat.le_of_ble_eq_true rfl⟩) (mm_preS hK hZ hS hA hP hD [] rfl rfl) rfl rfl hl.1 rfl (lv_room (Nat.le_of_ble_eq_true rfl)) dX12_isWords_15 ⟨by rw [hRc]; exact Nat.le_of_ble_eq_true rfl, by rw [hRs]; exact Nat.le_of_ble_eq_true rfl⟩) hP hD hS hA [] rfl (fun _ => rfl) ?_
      clear hP hD hS
      clear H locs
      intro v9 _u H locs hw hP hD hS
      rcases hw with ⟨rfl, w10⟩ | ⟨rfl, w11, w12, w13, w14⟩
      · refine lv_if_eq (tgt := 34) hx hb dX12_isWords_18 (by decide) (fun c15 => ?_) (fun c15 => ?_)
        · refine lv_iconst (v := 0) hx hb dX12_isWords_34 (by decide) ?_
          subst hAe
          rw [hQ]
          exact W.zret (v := 0) hx hb hr rfl (fun t ht hW => ⟨⟨0, (), rfl, (Or.inl rfl), by rw [ht]; exact hP, hK.warm hW, hD⟩, hS.F ht⟩) hS.2.2 dX12_isWords_35
        · exact absurd rfl (mm_ne c15)
      · have q16 := mm_meetl (lo := 1) (hi := 2147483647) w11 rv8 (by decide)
        have q17 := mm_meet (lo := 1) (hi := 2147483647) (mm_l2x ev8 q16) (mm_top i_2) (by decide)
        have q18 := mm_leLl w13 q16 mm_kl7
        have q19 := mm_meet (lo := 1) (hi := 7) (mm_l2x ev8 q18) q17 (by decide)
        refine lv_if_eq (tgt := 34) hx hb dX12_isWords_18 (by decide) (fun c20 => ?_) (fun c20 => ?_)
        · exact mm_eqN c20.symm mm_k0 mm_k1 (by decide)
        · refine lv_iload hx hb dX12_isWords_21 (lv_at hl 4 rfl) ?_
          obtain ⟨v21, ev21⟩ : ∃ y : Int64, y = i_3.toInt64 := ⟨_, rfl⟩
          refine lv_i2l hx hb dX12_isWords_23 ev21.symm ?_
          have rv21 : mm_rl v21 (-2147483648) 2147483647 := mm_i2l ev21 (mm_top i_3)
          refine mm_finir (va_runS (As := [.long v21]) (rest := []) ⟨hx, hb, hml, hown, hts⟩ (M146_X12_isStock l G cy H.size v21 rv21) (va_cwS 1 hts (mm_gS mm_w922 mm_w923 mm_w5 mm_w924) rfl rfl rfl hs_X12_isStock ⟨by rw [hRf]; exact Nat.le_of_ble_eq_true rfl, by rw [hRl]; exact Nat.le_of_ble_eq_true rfl⟩) (mm_preS hK hZ hS hA hP hD [] rfl rfl) rfl rfl hl.1 rfl (lv_room (Nat.le_of_ble_eq_true rfl)) dX12_isWords_24 ⟨by rw [hRc]; exact Nat.le_of_ble_eq_true rfl, by rw [hRs]; exact Nat.le_of_ble_eq_true rfl⟩) hP hD hS hA [] rfl (fun _ => rfl) ?_
          clear hP hD hS
          clear H locs
          intro v22 _u H locs hw hP hD hS
          rcases hw with rfl | ⟨rfl, w23⟩
          · refine lv_if_eq (tgt := 34) hx hb dX12_isWords_27 (by decide) (fun c24 => ?_) (fun c24 => ?_)
            · refine lv_iconst (v := 0) hx hb dX12_isWords_34 (by decide) ?_
              subst hAe
              rw [hQ]
              exact W.zret (v := 0) hx hb hr rfl (fun t ht hW => ⟨⟨0, (), rfl, (Or.inl rfl), by rw [ht]; exact hP, hK.warm hW, hD⟩, hS.F ht⟩) hS.2.2 dX12_isWords_35
            · exact absurd rfl (mm_ne c24)
          · have q25 := mm_meet (lo := 0) (hi := 9999) (mm_l2x ev21 w23) (mm_top i_3) (by decide)
            refine lv_if_eq (tgt := 34) hx hb dX12_isWords_27 (by decide) (fun c26 => ?_) (fun c26 => ?_)
            · exact mm_eqN c26.symm mm_k0 mm_k1 (by decide)
            · refine lv_iconst (v := 1) hx hb dX12_isWords_30 (by decide) ?_
              refine lv_goto (tgt := 35) hx hb dX12_isWords_31 (by decide) ?_
              subst hAe
              rw [hQ]
              exact W.zret (v := 1) hx hb hr rfl (fun t ht hW => ⟨⟨1, (), rfl, (Or.inr ⟨rfl, w2, w3, q19, q25, w4⟩), by rw [ht]; exact hP, hK.warm hW, hD⟩, hS.F ht⟩) hS.2.2 dX12_isWords_35

set_option maxHeartbeats 4000000 in
set_option maxRecDepth 100000 in
theorem M211_X12_isWording (l : Launch) (G : va_G) (cy : Nat → ClassId) (sz : Nat) (a_0 : Nat) (i_0 : Int32) (i_1 : Int32) (i_2 : Int32) (i_3 : Int32) (i_4 : Int32) (a_1 : Nat) (a_2 : Nat) (a_3 : Nat) (a_4 : Nat) (a_5 : Nat) (i_5 : Int32) (i_6 : Int32) (i_7 : Int32) (i_8 : Int32) (i_9 : Int32) (j_0 : Int64) (i_10 : Int32) (i_11 : Int32) (i_12 : Int32) (i_13 : Int32) (a_6 : Nat) (a_7 : Nat) (a_8 : Nat) (a_9 : Nat) (a_10 : Nat) (a_11 : Nat) (a_12 : Nat) (a_13 : Nat) (a_14 : Nat) (a_15 : Nat) (a_16 : Nat) (a_17 : Nat) (a_18 : Nat) (i_14 : Int32) (i_15 : Int32) (i_16 : Int32) (i_17 : Int32) (i_18 : Int32) (i_19 : Int32) (a_19 : Nat) (i_20 : Int32) (a_20 : Nat) (i_21 : Int32) (i_22 : Int32) (i_23 : Int32) (i_24 : Int32) (i_25 : Int32) (i_26 : Int32) (i_27 : Int32) (i_28 : Int32) (i_29 : Int32) (i_30 : Int32) (i_31 : Int32) (i_32 : Int32) (i_33 : Int32) (i_34 : Int32) (i_35 : Int32) (i_36 : Int32) (i_37 : Int32) (i_38 : Int32) (i_39 : Int32) (i_40 : Int32) (i_41 : Int32) (i_42 : Int32) (i_43 : Int32) (i_44 : Int32) (i_45 : Int32) (i_46 : Int32) (i_47 : Int32) (i_48 : Int32) (i_49 : Int32) (i_50 : Int32) (f_0 : Nat → Int32) (f_1 : Nat → Int32) (f_2 : Nat → Int32) (f_3 : Nat → Int32) (f_4 : Nat → Int32) (h0 : mm_rg i_0 0 2) (h1 : mm_rg i_1 0 1000000000) (h2 : mm_rg i_2 1 7) (h3 : mm_rg i_3 0 9999) (h4 : mm_rg i_14 0 8) (h5 : mm_rg i_21 0 10) (h6 : mm_rg i_22 0 99) (h7 : mm_rg i_23 0 9) (h8 : mm_rg i_24 0 3) (h9 : mm_rg i_25 0 6) (h10 : mm_rg i_26 0 30) (h11 : mm_rg i_27 0 10) (h12 : mm_rg i_28 0 99) (h13 : mm_rg i_29 0 9) (h14 : mm_rg i_30 0 3) (h15 : mm_rg i_31 0 6) (h16 : mm_rg i_32 0 30) (h17 : mm_rg i_33 0 10) (h18 : mm_rg i_34 0 99) (h19 : mm_rg i_35 0 9) (h20 : mm_rg i_36 0 3) (h21 : mm_rg i_37 0 6) (h22 : mm_rg i_38 0 30) (h23 : mm_rg i_39 0 10) (h24 : mm_rg i_40 0 99) (h25 : mm_rg i_41 0 9) (h26 : mm_rg i_42 0 3) (h27 : mm_rg i_43 0 6) (h28 : mm_rg i_44 0 30) (h29 : mm_rg i_45 0 10) (h30 : mm_rg i_46 0 99) (h31 : mm_rg i_47 0 9) (h32 : mm_rg i_48 0 3) (h33 : mm_rg i_49 0 6) (h34 : mm_rg i_50 0 30) (h35 : mm_ar f_0 0 99) (h36 : mm_ar f_1 (-1) 99) (h37 : mm_ar f_2 0 9) (h38 : mm_ar f_3 0 210) (h39 : mm_ar f_4 0 9) (h40 : mm_acs f_1 0 i_23 i_24 i_26) (h41 : mm_acs f_1 1 i_29 i_30 i_32) (h42 : mm_acs f_1 2 i_35 i_36 i_38) (h43 : mm_acs f_1 3 i_41 i_42 i_44) (h44 : mm_f1 f_3 i_0)  : mm_CI l yX12_isWording (mm_ws yX12_isWording cX12_isWording 6 (some .boolean)) ({ frames := 2, cells := 0, slots := 0, locals := 50 } : Room) G cy sz [(a_0, .inr (12, [.int i_4, .ref a_1, .ref a_2, .ref a_3, .ref a_4, .ref a_5, .int i_5, .int i_6, .int i_7, .int i_8, .int i_9, .long j_0, .int i_10, .int i_11, .int i_12, .int i_13, .ref a_6, .ref a_7, .ref a_8, .ref a_9, .ref a_10, .ref a_11, .ref a_12, .ref a_13, .ref a_14, .ref a_15, .ref a_16, .ref a_17, .ref a_18, .int i_14, .int i_15, .int i_16, .int i_17, .int i_18, .int i_19, .ref a_19, .int i_20, .ref a_20])), (a_7, .inl (cy 1, 30, .inl (mm_g [i_21, i_22, i_23, i_24, i_25, i_26, i_27, i_28, i_29, i_30, i_31, i_32, i_33, i_34, i_35, i_36, i_37, i_38, i_39, i_40, i_41, i_42, i_43, i_44, i_45, i_46, i_47, i_48, i_49, i_50]))), (a_8, .inl (cy 1, 90, .inl f_0)), (a_13, .inl (cy 1, 450, .inl f_1)), (a_15, .inl (cy 1, 7200, .inl f_2)), (a_16, .inl (cy 1, 3, .inl f_3)), (a_18, .inl (cy 1, 8, .inl f_4))] [.ref a_0, .int i_0, .int i_1, .int i_2, .int i_3] (fun u : Int32 × Int32 => [(a_0, .inr (12, [.int i_4, .ref a_1, .ref a_2, .ref a_3, .ref a_4, .ref a_5, .int i_5, .int i_6, .int i_7, .int i_8, .int i_9, .long j_0, .int i_10, .int i_11, .int i_12, .int i_13, .ref a_6, .ref a_7, .ref a_8, .ref a_9, .ref a_10, .ref a_11, .ref a_12, .ref a_13, .ref a_14, .ref a_15, .ref a_16, .ref a_17, .ref a_18, .int i_14, .int u.1, .int u.2, .int i_17, .int i_18, .int i_19, .ref a_19, .int i_20, .ref a_20])), (a_7, .inl (cy 1, 30, .inl (mm_g [i_21, i_22, i_23, i_24, i_25, i_26, i_27, i_28, i_29, i_30, i_31, i_32, i_33, i_34, i_35, i_36, i_37, i_38, i_39, i_40, i_41, i_42, i_43, i_44, i_45, i_46, i_47, i_48, i_49, i_50]))), (a_8, .inl (cy 1, 90, .inl f_0)), (a_13, .inl (cy 1, 450, .inl f_1)), (a_15, .inl (cy 1, 7200, .inl f_2)), (a_16, .inl (cy 1, 3, .inl f_3)), (a_18, .inl (cy 1, 8, .inl f_4))]) (fun (r : Int32) (u : Int32 × Int32) => ((0 = r) ∨ (1 = r))) 0 0 := by
  refine mm_begin (lv := [(0, .ref a_0), (1, .int i_0), (2, .int i_1), (3, .int i_2), (4, .int i_3)]) (by decide) (Nat.le_of_ble_eq_true rfl) rfl ?_
  intro p e s m below meth c A ls R args Q H locs hRe hQ hAe hx hb hr hlocks hml hown hnm hts hsz hA hS hP hK hD hZ hl
  have hRf : R.frames = 2 := by rw [hRe]
  have hRl : R.locals = 50 := by rw [hRe]
  have hRc : R.cells = 0 := by rw [hRe]
  have hRs : R.slots = 0 := by rw [hRe]
  refine lv_iconst (v := 0) hx hb dX12_isWording_0 (by decide) ?_
  refine lv_istore (lv' := [(5, .int 0), (0, .ref a_0), (1, .int i_0), (2, .int i_1), (3, .int i_2), (4, .int i_3)]) hx hb dX12_isWording_1 hl (by decide) rfl ?_
  clear hl
  clear ls
  intro ls hl
  have L3_126 : ∀ (n : Nat) (x3_5_124 : Int32) (y3_0_30_125 : Int32) (y3_0_31_126 : Int32), mm_rg x3_5_124 0 7 → (7 - x3_5_124.toInt).toNat < n → ∀ (H : Heap) (locs : List Loc), va_P G vwCl [(a_0, .inr (12, [.int i_4, .ref a_1, .ref a_2, .ref a_3, .ref a_4, .ref a_5, .int i_5, .int i_6, .int i_7, .int i_8, .int i_9, .long j_0, .int i_10, .int i_11, .int i_12, .int i_13, .ref a_6, .ref a_7, .ref a_8, .ref a_9, .ref a_10, .ref a_11, .ref a_12, .ref a_13, .ref a_14, .ref a_15, .ref a_16, .ref a_17, .ref a_18, .int i_14, .int y3_0_30_125, .int y3_0_31_126, .int i_17, .int i_18, .int i_19, .ref a_19, .int i_20, .ref a_20])), (a_7, .inl (cy 1, 30, .inl (mm_g [i_21, i_22, i_23, i_24, i_25, i_26, i_27, i_28, i_29, i_30, i_31, i_32, i_33, i_34, i_35, i_36, i_37, i_38, i_39, i_40, i_41, i_42, i_43, i_44, i_45, i_46, i_47, i_48, i_49, i_50]))), (a_8, .inl (cy 1, 90, .inl f_0)), (a_13, .inl (cy 1, 450, .inl f_1)), (a_15, .inl (cy 1, 7200, .inl f_2)), (a_16, .inl (cy 1, 3, .inl f_3)), (a_18, .inl (cy 1, 8, .inl f_4))] H → va_D A [(a_0, .inr (12, [.int i_4, .ref a_1, .ref a_2, .ref a_3, .ref a_4, .ref a_5, .int i_5, .int i_6, .int i_7, .int i_8, .int i_9, .long j_0, .int i_10, .int i_11, .int i_12, .int i_13, .ref a_6, .ref a_7, .ref a_8, .ref a_9, .ref a_10, .ref a_11, .ref a_12, .ref a_13, .ref a_14, .ref a_15, .ref a_16, .ref a_17, .ref a_18, .int i_14, .int y3_0_30_125, .int y3_0_31_126, .int i_17, .int i_18, .int i_19, .ref a_19, .int i_20, .ref a_20])), (a_7, .inl (cy 1, 30, .inl (mm_g [i_21, i_22, i_23, i_24, i_25, i_26, i_27, i_28, i_29, i_30, i_31, i_32, i_33, i_34, i_35, i_36, i_37, i_38, i_39, i_40, i_41, i_42, i_43, i_44, i_45, i_46, i_47, i_48, i_49, i_50]))), (a_8, .inl (cy 1, 90, .inl f_0)), (a_13, .inl (cy 1, 450, .inl f_1)), (a_15, .inl (cy 1, 7200, .inl f_2)), (a_16, .inl (cy 1, 3, .inl f_3)), (a_18, .inl (cy 1, 8, .inl f_4))] → va_S A s.heap H locs → ∀ (ls : Array Slot), lv_has ls 6 [(5, .int x3_5_124), (0, .ref a_0), (1, .int i_0), (2, .int i_1), (3, .int i_2), (4, .int i_3)] → W p l e R s m args below meth c H locs 0 0 Q (F0 m 3 ls []) := by
    intro n
    induction n with
    | zero => intro x3_5_124 y3_0_30_125 y3_0_31_126 rx3_5_124 hm; exact absurd hm (Nat.not_lt_zero _)
    | succ n ih3 =>
      intro x3_5_124 y3_0_30_125 y3_0_31_126 rx3_5_124 hm3 H locs hP hD hS ls hl
      refine lv_iload hx hb dX12_isWording_3 (lv_at hl 0 rfl) ?_
      refine lv_iload_n hx hb dX12_isWording_5 rfl (lv_at hl 4 rfl) ?_
      refine lv_icmp_ge (tgt := 35) hx hb dX12_isWording_6 (by decide) (fun c128 => ?_) (fun c128 => ?_)
      · have q129 := mm_leR (mm_le c128) h2 rx3_5_124
        refine lv_iconst (v := 1) hx hb dX12_isWording_35 (by decide) ?_
        subst hAe
        rw [hQ]
        exact W.zret (v := 1) hx hb hr rfl (fun t ht hW => ⟨⟨1, (y3_0_30_125, y3_0_31_126), rfl, (Or.inr rfl), by rw [ht]; exact hP, hK.warm hW, hD⟩, hS.F ht⟩) hS.2.2 dX12_isWording_36
      · have q130 := mm_ltL (h := 6) (mm_nle c128) rx3_5_124 h2 (by decide)
        refine lv_aload_n hx hb dX12_isWording_9 rfl (lv_at hl 1 rfl) ?_
        refine lv_iload_n hx hb dX12_isWording_10 rfl (lv_at hl 2 rfl) ?_
        refine lv_iload_n hx hb dX12_isWording_11 rfl (lv_at hl 3 rfl) ?_
        refine lv_iload hx hb dX12_isWording_12 (lv_at hl 0 rfl) ?_
        refine lv_iadd hx hb dX12_isWording_14 ?_
        refine lv_topi (fun v131 ev131 => ?_)
        have rv131 : mm_rg v131 0 1000000006 := mm_add ev131 h1 q130 (by decide) (by decide)
        have tv131 := mm_addE ev131 h1 q130 (by decide)
        refine lv_aload_n hx hb dX12_isWording_15 rfl (lv_at hl 1 rfl) ?_
        refine mm_finir (va_runV (As := []) (rest := [.int v131, .int i_0, .ref a_0]) ⟨hx, hb, hml, hown, hts⟩ (M139_X12_stockNow l G cy H.size a_0 i_4 a_1 a_2 a_3 a_4 a_5 i_5 i_6 i_7 i_8 i_9 j_0 i_10 i_11 i_12 i_13 a_6 a_7 a_8 a_9 a_10 a_11 a_12 a_13 a_14 a_15 a_16 a_17 a_18 i_14 y3_0_30_125 y3_0_31_126 i_17 i_18 i_19 a_19 i_20 a_20 i_21 i_22 i_23 i_24 i_25 i_26 i_27 i_28 i_29 i_30 i_31 i_32 i_33 i_34 i_35 i_36 i_37 i_38 i_39 i_40 i_41 i_42 i_43 i_44 i_45 i_46 i_47 i_48 i_49 i_50 f_1 h5 h6 h7 h8 h9 h10 h11 h12 h13 h14 h15 h16 h17 h18 h19 h20 h21 h22 h23 h24 h25 h26 h27 h28 h29 h30 h31 h32 h33 h34 h36 h40 h41 h42 h43) (cwV 0 hts (mm_gV mm_w861 mm_w862 mm_w863 mm_w5 mm_w864) rfl rfl rfl hd_X12_stockNow ⟨by rw [hRf]; exact Nat.le_of_ble_eq_true rfl, by rw [hRl]; exact Nat.le_of_ble_eq_true rfl⟩) (mm_preV hK hZ hS hA hP hD [0, 1, 3] rfl rfl 0 rfl rfl rfl) rfl rfl hl.1 rfl (lv_room (Nat.le_of_ble_eq_true rfl)) dX12_isWording_16 ⟨by rw [hRc]; exact Nat.le_of_ble_eq_true rfl, by rw [hRs]; exact Nat.le_of_ble_eq_true rfl⟩) hP hD hS hA [0, 1, 3] rfl (fun _ => rfl) ?_
        clear hP hD hS
        clear H locs
        intro v132 _u H locs hw hP hD hS
        obtain ⟨w133, w134⟩ := hw
        refine mm_fini (va_runV (As := [.int i_0, .int v131, .int v132]) (rest := []) ⟨hx, hb, hml, hown, hts⟩ (M140_X12_readsFrom l G cy H.size a_0 i_0 v131 v132 i_4 a_1 a_2 a_3 a_4 a_5 i_5 i_6 i_7 i_8 i_9 j_0 i_10 i_11 i_12 i_13 a_6 a_7 a_8 a_9 a_10 a_11 a_12 a_13 a_14 a_15 a_16 a_17 a_18 i_14 y3_0_30_125 y3_0_31_126 i_17 i_18 i_19 a_19 i_20 a_20 i_21 i_22 i_23 i_24 i_25 i_26 i_27 i_28 i_29 i_30 i_31 i_32 i_33 i_34 i_35 i_36 i_37 i_38 i_39 i_40 i_41 i_42 i_43 i_44 i_45 i_46 i_47 i_48 i_49 i_50 f_0 f_2 f_3 f_4 h0 (mm_wk rv131 (by decide)) (mm_wk w133 (by decide)) h4 h5 h6 h7 h8 h9 h10 h11 h12 h13 h14 h15 h16 h17 h18 h19 h20 h21 h22 h23 h24 h25 h26 h27 h28 h29 h30 h31 h32 h33 h34 h35 h37 h38 h39 h44) (cwV 3 hts (mm_gV mm_w865 mm_w866 mm_w867 mm_w5 mm_w868) rfl rfl rfl hd_X12_readsFrom ⟨by rw [hRf]; exact Nat.le_of_ble_eq_true rfl, by rw [hRl]; exact Nat.le_of_ble_eq_true rfl⟩) (mm_preV hK hZ hS hA hP hD [0, 1, 2, 4, 5, 6] rfl rfl 0 rfl rfl rfl) rfl rfl hl.1 rfl (lv_room (Nat.le_of_ble_eq_true rfl)) dX12_isWording_19 ⟨by rw [hRc]; exact Nat.le_of_ble_eq_true rfl, by rw [hRs]; exact Nat.le_of_ble_eq_true rfl⟩) hP hD hS hA (fun u : Int32 × Int32 => [(a_0, .inr (12, [.int i_4, .ref a_1, .ref a_2, .ref a_3, .ref a_4, .ref a_5, .int i_5, .int i_6, .int i_7, .int i_8, .int i_9, .long j_0, .int i_10, .int i_11, .int i_12, .int i_13, .ref a_6, .ref a_7, .ref a_8, .ref a_9, .ref a_10, .ref a_11, .ref a_12, .ref a_13, .ref a_14, .ref a_15, .ref a_16, .ref a_17, .ref a_18, .int i_14, .int u.1, .int u.2, .int i_17, .int i_18, .int i_19, .ref a_19, .int i_20, .ref a_20])), (a_7, .inl (cy 1, 30, .inl (mm_g [i_21, i_22, i_23, i_24, i_25, i_26, i_27, i_28, i_29, i_30, i_31, i_32, i_33, i_34, i_35, i_36, i_37, i_38, i_39, i_40, i_41, i_42, i_43, i_44, i_45, i_46, i_47, i_48, i_49, i_50]))), (a_8, .inl (cy 1, 90, .inl f_0)), (a_13, .inl (cy 1, 450, .inl f_1)), (a_15, .inl (cy 1, 7200, .inl f_2)), (a_16, .inl (cy 1, 3, .inl f_3)), (a_18, .inl (cy 1, 8, .inl f_4))]) [0, 1, 2, 4, 5, 6] [3] (n := 7) (fun _ => rfl) (by decide +kernel) (by decide +kernel) rfl (fun _ => rfl) (wr := [(a_13, .inl (cy 1, 450, .inl f_1))]) rfl (fun _ => rfl) (fun _ => @rfl _ ([a_0, a_7, a_8, a_15, a_16, a_18] : List Nat)) ?_
        clear hP hD hS
        clear H locs
        intro v137 u
        obtain ⟨n135, n136⟩ := u
        intro H locs hw (hP : va_P G vwCl [(a_0, .inr (12, [.int i_4, .ref a_1, .ref a_2, .ref a_3, .ref a_4, .ref a_5, .int i_5, .int i_6, .int i_7, .int i_8, .int i_9, .long j_0, .int i_10, .int i_11, .int i_12, .int i_13, .ref a_6, .ref a_7, .ref a_8, .ref a_9, .ref a_10, .ref a_11, .ref a_12, .ref a_13, .ref a_14, .ref a_15, .ref a_16, .ref a_17, .ref a_18, .int i_14, .int n135, .int n136, .int i_17, .int i_18, .int i_19, .ref a_19, .int i_20, .ref a_20])), (a_7, .inl (cy 1, 30, .inl (mm_g [i_21, i_22, i_23, i_24, i_25, i_26, i_27, i_28, i_29, i_30, i_31, i_32, i_33, i_34, i_35, i_36, i_37, i_38, i_39, i_40, i_41, i_42, i_43, i_44, i_45, i_46, i_47, i_48, i_49, i_50]))), (a_8, .inl (cy 1, 90, .inl f_0)), (a_13, .inl (cy 1, 450, .inl f_1)), (a_15, .inl (cy 1, 7200, .inl f_2)), (a_16, .inl (cy 1, 3, .inl f_3)), (a_18, .inl (cy 1, 8, .inl f_4))] H) (hD : va_D A [(a_0, .inr (12, [.int i_4, .ref a_1, .ref a_2, .ref a_3, .ref a_4, .ref a_5, .int i_5, .int i_6, .int i_7, .int i_8, .int i_9, .long j_0, .int i_10, .int i_11, .int i_12, .int i_13, .ref a_6, .ref a_7, .ref a_8, .ref a_9, .ref a_10, .ref a_11, .ref a_12, .ref a_13, .ref a_14, .ref a_15, .ref a_16, .ref a_17, .ref a_18, .int i_14, .int n135, .int n136, .int i_17, .int i_18, .int i_19, .ref a_19, .int i_20, .ref a_20])), (a_7, .inl (cy 1, 30, .inl (mm_g [i_21, i_22, i_23, i_24, i_25, i_26, i_27, i_28, i_29, i_30, i_31, i_32, i_33, i_34, i_35, i_36, i_37, i_38, i_39, i_40, i_41, i_42, i_43, i_44, i_45, i_46, i_47, i_48, i_49, i_50]))), (a_8, .inl (cy 1, 90, .inl f_0)), (a_13, .inl (cy 1, 450, .inl f_1)), (a_15, .inl (cy 1, 7200, .inl f_2)), (a_16, .inl (cy 1, 3, .inl f_3)), (a_18, .inl (cy 1, 8, .inl f_4))]) hS
        obtain ⟨w138, w139⟩ := hw
        replace w139 : mm_rf f_2 f_3 f_0 f_4 i_0 v131 i_23 i_14 v132 v137 := w139
        refine lv_iload hx hb dX12_isWording_22 (lv_at hl 5 rfl) ?_
        refine lv_icmp_eq (tgt := 29) hx hb dX12_isWording_24 (by decide) (fun c140 => ?_) (fun c140 => ?_)
        · obtain ⟨v141, ev141⟩ : ∃ y : Int32, y = x3_5_124 + 1 := ⟨_, rfl⟩
          refine lv_iinc (v := v141) (lv' := [(5, .int v141), (0, .ref a_0), (1, .int i_0), (2, .int i_1), (3, .int i_2), (4, .int i_3)]) hx hb dX12_isWording_29 hl (k := 0) rfl (by rw [ev141]; rfl) (by decide) rfl ?_
          clear hl
          clear ls
          intro ls hl
          have rv141 : mm_rg v141 1 7 := mm_add ev141 q130 mm_k1 (by decide) (by decide)
          have tv141 := mm_addEc ev141 q130 mm_k1 (by decide) (k := 1) (by decide)
          refine lv_goto (tgt := 3) hx hb dX12_isWording_32 (by decide) ?_
          exact ih3 v141 n135 n136 (mm_wk rv141 (by decide)) (mm_mu hm3 tv141 (by decide) (rv141).2 (by decide)) H locs hP hD hS ls (lv_sub hl [0, 1, 2, 3, 4, 5] rfl)
        · refine lv_iconst (v := 0) hx hb dX12_isWording_27 (by decide) ?_
          subst hAe
          rw [hQ]
          exact W.zret (v := 0) hx hb hr rfl (fun t ht hW => ⟨⟨0, (n135, n136), rfl, (Or.inl rfl), by rw [ht]; exact hP, hK.warm hW, hD⟩, hS.F ht⟩) hS.2.2 dX12_isWording_28
  exact L3_126 _ 0 i_15 i_16 (mm_wk mm_k0 (by decide)) (Nat.lt_succ_self _) H locs hP hD hS ls (lv_sub hl [0, 1, 2, 3, 4, 5] rfl)

set_option maxHeartbeats 4000000 in
set_option maxRecDepth 100000 in
theorem M223_X12_rowsFrom (l : Launch) (G : va_G) (cy : Nat → ClassId) (sz : Nat) (a_0 : Nat) (i_0 : Int32) (i_1 : Int32) (i_2 : Int32) (i_3 : Int32) (i_4 : Int32) (a_1 : Nat) (a_2 : Nat) (a_3 : Nat) (a_4 : Nat) (a_5 : Nat) (i_5 : Int32) (i_6 : Int32) (i_7 : Int32) (i_8 : Int32) (i_9 : Int32) (j_0 : Int64) (i_10 : Int32) (i_11 : Int32) (i_12 : Int32) (i_13 : Int32) (a_6 : Nat) (a_7 : Nat) (a_8 : Nat) (a_9 : Nat) (a_10 : Nat) (a_11 : Nat) (a_12 : Nat) (a_13 : Nat) (a_14 : Nat) (a_15 : Nat) (a_16 : Nat) (a_17 : Nat) (a_18 : Nat) (i_14 : Int32) (i_15 : Int32) (i_16 : Int32) (i_17 : Int32) (i_18 : Int32) (i_19 : Int32) (a_19 : Nat) (i_20 : Int32) (a_20 : Nat) (i_21 : Int32) (i_22 : Int32) (i_23 : Int32) (i_24 : Int32) (i_25 : Int32) (i_26 : Int32) (i_27 : Int32) (i_28 : Int32) (i_29 : Int32) (i_30 : Int32) (i_31 : Int32) (i_32 : Int32) (i_33 : Int32) (i_34 : Int32) (i_35 : Int32) (i_36 : Int32) (i_37 : Int32) (i_38 : Int32) (i_39 : Int32) (i_40 : Int32) (i_41 : Int32) (i_42 : Int32) (i_43 : Int32) (i_44 : Int32) (i_45 : Int32) (i_46 : Int32) (i_47 : Int32) (i_48 : Int32) (i_49 : Int32) (i_50 : Int32) (f_0 : Nat → Int32) (f_1 : Nat → Int32) (f_2 : Nat → Int32) (f_3 : Nat → Int32) (f_4 : Nat → Int32) (f_5 : Nat → Int32) (h0 : mm_rg i_0 0 2) (h1 : mm_rg i_1 0 1000000000) (h2 : mm_rg i_2 1 7) (h3 : mm_rg i_3 0 9999) (h4 : mm_rg i_14 4 4) (h5 : mm_rg i_21 0 10) (h6 : mm_rg i_22 0 99) (h7 : mm_rg i_23 0 9) (h8 : mm_rg i_24 0 3) (h9 : mm_rg i_25 0 6) (h10 : mm_rg i_26 0 30) (h11 : mm_rg i_27 0 10) (h12 : mm_rg i_28 0 99) (h13 : mm_rg i_29 0 9) (h14 : mm_rg i_30 0 3) (h15 : mm_rg i_31 0 6) (h16 : mm_rg i_32 0 30) (h17 : mm_rg i_33 0 10) (h18 : mm_rg i_34 0 99) (h19 : mm_rg i_35 0 9) (h20 : mm_rg i_36 0 3) (h21 : mm_rg i_37 0 6) (h22 : mm_rg i_38 0 30) (h23 : mm_rg i_39 0 10) (h24 : mm_rg i_40 0 99) (h25 : mm_rg i_41 0 9) (h26 : mm_rg i_42 0 3) (h27 : mm_rg i_43 0 6) (h28 : mm_rg i_44 0 30) (h29 : mm_rg i_45 0 10) (h30 : mm_rg i_46 0 99) (h31 : mm_rg i_47 0 9) (h32 : mm_rg i_48 0 3) (h33 : mm_rg i_49 0 6) (h34 : mm_rg i_50 0 30) (h35 : mm_ar f_0 0 99) (h36 : mm_ar f_1 (-1) 99) (h37 : mm_ar f_2 0 9) (h38 : mm_ar f_3 0 210) (h39 : mm_ar f_4 0 9) (h40 : mm_acs f_1 0 i_23 i_24 i_26) (h41 : mm_acs f_1 1 i_29 i_30 i_32) (h42 : mm_acs f_1 2 i_35 i_36 i_38) (h43 : mm_acs f_1 3 i_41 i_42 i_44) (h44 : mm_f1 f_3 i_0)  : mm_CV l yX12_rowsFrom (mm_ws yX12_rowsFrom cX12_rowsFrom 7 (none)) ({ frames := 3, cells := 0, slots := 0, locals := 75 } : Room) G cy sz [(a_0, .inr (12, [.int i_4, .ref a_1, .ref a_2, .ref a_3, .ref a_4, .ref a_5, .int i_5, .int i_6, .int i_7, .int i_8, .int i_9, .long j_0, .int i_10, .int i_11, .int i_12, .int i_13, .ref a_6, .ref a_7, .ref a_8, .ref a_9, .ref a_10, .ref a_11, .ref a_12, .ref a_13, .ref a_14, .ref a_15, .ref a_16, .ref a_17, .ref a_18, .int i_14, .int i_15, .int i_16, .int i_17, .int i_18, .int i_19, .ref a_19, .int i_20, .ref a_20])), (a_7, .inl (cy 1, 30, .inl (mm_g [i_21, i_22, i_23, i_24, i_25, i_26, i_27, i_28, i_29, i_30, i_31, i_32, i_33, i_34, i_35, i_36, i_37, i_38, i_39, i_40, i_41, i_42, i_43, i_44, i_45, i_46, i_47, i_48, i_49, i_50]))), (a_8, .inl (cy 1, 90, .inl f_0)), (a_13, .inl (cy 1, 450, .inl f_1)), (a_15, .inl (cy 1, 7200, .inl f_2)), (a_16, .inl (cy 1, 3, .inl f_3)), (a_18, .inl (cy 1, 8, .inl f_4)), (a_20, .inl (cy 1, 4, .inl f_5))] [.ref a_0, .int 4, .int i_0, .int i_1, .int i_2, .int i_3] (fun u : Int32 × Int32 × Int32 × (Nat → Int32) => [(a_0, .inr (12, [.int i_4, .ref a_1, .ref a_2, .ref a_3, .ref a_4, .ref a_5, .int i_5, .int i_6, .int i_7, .int i_8, .int i_9, .long j_0, .int i_10, .int i_11, .int i_12, .int i_13, .ref a_6, .ref a_7, .ref a_8, .ref a_9, .ref a_10, .ref a_11, .ref a_12, .ref a_13, .ref a_14, .ref a_15, .ref a_16, .ref a_17, .ref a_18, .int i_14, .int u.1, .int u.2.1, .int i_17, .int i_18, .int i_19, .ref a_19, .int u.2.2.1, .ref a_20])), (a_7, .inl (cy 1, 30, .inl (mm_g [i_21, i_22, i_23, i_24, i_25, i_26, i_27, i_28, i_29, i_30, i_31, i_32, i_33, i_34, i_35, i_36, i_37, i_38, i_39, i_40, i_41, i_42, i_43, i_44, i_45, i_46, i_47, i_48, i_49, i_50]))), (a_8, .inl (cy 1, 90, .inl f_0)), (a_13, .inl (cy 1, 450, .inl f_1)), (a_15, .inl (cy 1, 7200, .inl f_2)), (a_16, .inl (cy 1, 3, .inl f_3)), (a_18, .inl (cy 1, 8, .inl f_4)), (a_20, .inl (cy 1, 4, .inl u.2.2.2))]) (fun u : Int32 × Int32 × Int32 × (Nat → Int32) => True) 0 0 := by
  refine mm_begin (lv := [(0, .ref a_0), (1, .int 4), (2, .int i_0), (3, .int i_1), (4, .int i_2), (5, .int i_3)]) (by decide) (Nat.le_of_ble_eq_true rfl) rfl ?_
  intro p e s m below meth c A ls R args Q H locs hRe hQ hAe hx hb hr hlocks hml hown hnm hts hsz hA hS hP hK hD hZ hl
  have hRf : R.frames = 3 := by rw [hRe]
  have hRl : R.locals = 75 := by rw [hRe]
  have hRc : R.cells = 0 := by rw [hRe]
  have hRs : R.slots = 0 := by rw [hRe]
  refine lv_iload_n hx hb dX12_rowsFrom_0 rfl (lv_at hl 1 rfl) ?_
  refine lv_aload_n hx hb dX12_rowsFrom_1 rfl (lv_at hl 0 rfl) ?_
  refine va_get (D := G) (ci := 12) (v := .int i_14) (C := RX12) (T := TX12) (N := 38) hx hb hts (mm_i inlX12) hown hK.1 hP 0 rfl rfl 29 (by decide) (mm_h hts mm_w860) (fun _ h9 => h9) rfl dX12_rowsFrom_2 ?_
  refine lv_icmp_ne (tgt := 69) hx hb dX12_rowsFrom_5 (by decide) (fun c1 => ?_) (fun c1 => ?_)
  · have q2 := mm_neL (lo := 5) (mm_ne c1) mm_k4 h4 (by decide) (by decide)
    exact mm_no q2 (by decide)
  · refine lv_aload_n hx hb dX12_rowsFrom_8 rfl (lv_at hl 0 rfl) ?_
    refine lv_iload_n hx hb dX12_rowsFrom_9 rfl (lv_at hl 2 rfl) ?_
    refine lv_iload_n hx hb dX12_rowsFrom_10 rfl (lv_at hl 3 rfl) ?_
    refine lv_iload hx hb dX12_rowsFrom_11 (lv_at hl 4 rfl) ?_
    refine lv_iload hx hb dX12_rowsFrom_13 (lv_at hl 5 rfl) ?_
    refine mm_fini (va_runV (As := [.int i_0, .int i_1, .int i_2, .int i_3]) (rest := []) ⟨hx, hb, hml, hown, hts⟩ (M211_X12_isWording l G cy H.size a_0 i_0 i_1 i_2 i_3 i_4 a_1 a_2 a_3 a_4 a_5 i_5 i_6 i_7 i_8 i_9 j_0 i_10 i_11 i_12 i_13 a_6 a_7 a_8 a_9 a_10 a_11 a_12 a_13 a_14 a_15 a_16 a_17 a_18 i_14 i_15 i_16 i_17 i_18 i_19 a_19 i_20 a_20 i_21 i_22 i_23 i_24 i_25 i_26 i_27 i_28 i_29 i_30 i_31 i_32 i_33 i_34 i_35 i_36 i_37 i_38 i_39 i_40 i_41 i_42 i_43 i_44 i_45 i_46 i_47 i_48 i_49 i_50 f_0 f_1 f_2 f_3 f_4 h0 h1 h2 h3 (mm_wk h4 (by decide)) h5 h6 h7 h8 h9 h10 h11 h12 h13 h14 h15 h16 h17 h18 h19 h20 h21 h22 h23 h24 h25 h26 h27 h28 h29 h30 h31 h32 h33 h34 h35 h36 h37 h38 h39 h40 h41 h42 h43 h44) (cwV 4 hts (mm_gV mm_w1409 mm_w1410 mm_w1411 mm_w5 mm_w1412) rfl rfl rfl hd_X12_isWording ⟨by rw [hRf]; exact Nat.le_of_ble_eq_true rfl, by rw [hRl]; exact Nat.le_of_ble_eq_true rfl⟩) (mm_preV hK hZ hS hA hP hD [0, 1, 2, 3, 4, 5, 6] rfl rfl 0 rfl rfl rfl) rfl rfl hl.1 rfl (lv_room (Nat.le_of_ble_eq_true rfl)) dX12_rowsFrom_15 ⟨by rw [hRc]; exact Nat.le_of_ble_eq_true rfl, by rw [hRs]; exact Nat.le_of_ble_eq_true rfl⟩) hP hD hS hA (fun u : Int32 × Int32 => [(a_0, .inr (12, [.int i_4, .ref a_1, .ref a_2, .ref a_3, .ref a_4, .ref a_5, .int i_5, .int i_6, .int i_7, .int i_8, .int i_9, .long j_0, .int i_10, .int i_11, .int i_12, .int i_13, .ref a_6, .ref a_7, .ref a_8, .ref a_9, .ref a_10, .ref a_11, .ref a_12, .ref a_13, .ref a_14, .ref a_15, .ref a_16, .ref a_17, .ref a_18, .int i_14, .int u.1, .int u.2, .int i_17, .int i_18, .int i_19, .ref a_19, .int i_20, .ref a_20])), (a_7, .inl (cy 1, 30, .inl (mm_g [i_21, i_22, i_23, i_24, i_25, i_26, i_27, i_28, i_29, i_30, i_31, i_32, i_33, i_34, i_35, i_36, i_37, i_38, i_39, i_40, i_41, i_42, i_43, i_44, i_45, i_46, i_47, i_48, i_49, i_50]))), (a_8, .inl (cy 1, 90, .inl f_0)), (a_13, .inl (cy 1, 450, .inl f_1)), (a_15, .inl (cy 1, 7200, .inl f_2)), (a_16, .inl (cy 1, 3, .inl f_3)), (a_18, .inl (cy 1, 8, .inl f_4)), (a_20, .inl (cy 1, 4, .inl f_5))]) [0, 1, 2, 3, 4, 5, 6] [7] (n := 8) (fun _ => rfl) (by decide +kernel) (by decide +kernel) rfl (fun _ => rfl) (wr := [(a_20, .inl (cy 1, 4, .inl f_5))]) rfl (fun _ => rfl) (fun _ => @rfl _ ([a_0, a_7, a_8, a_13, a_15, a_16, a_18] : List Nat)) ?_
    clear hP hD hS
    clear H locs
    intro v5 u
    obtain ⟨n3, n4⟩ := u
    intro H locs hw (hP : va_P G vwCl [(a_0, .inr (12, [.int i_4, .ref a_1, .ref a_2, .ref a_3, .ref a_4, .ref a_5, .int i_5, .int i_6, .int i_7, .int i_8, .int i_9, .long j_0, .int i_10, .int i_11, .int i_12, .int i_13, .ref a_6, .ref a_7, .ref a_8, .ref a_9, .ref a_10, .ref a_11, .ref a_12, .ref a_13, .ref a_14, .ref a_15, .ref a_16, .ref a_17, .ref a_18, .int i_14, .int n3, .int n4, .int i_17, .int i_18, .int i_19, .ref a_19, .int i_20, .ref a_20])), (a_7, .inl (cy 1, 30, .inl (mm_g [i_21, i_22, i_23, i_24, i_25, i_26, i_27, i_28, i_29, i_30, i_31, i_32, i_33, i_34, i_35, i_36, i_37, i_38, i_39, i_40, i_41, i_42, i_43, i_44, i_45, i_46, i_47, i_48, i_49, i_50]))), (a_8, .inl (cy 1, 90, .inl f_0)), (a_13, .inl (cy 1, 450, .inl f_1)), (a_15, .inl (cy 1, 7200, .inl f_2)), (a_16, .inl (cy 1, 3, .inl f_3)), (a_18, .inl (cy 1, 8, .inl f_4)), (a_20, .inl (cy 1, 4, .inl f_5))] H) (hD : va_D A [(a_0, .inr (12, [.int i_4, .ref a_1, .ref a_2, .ref a_3, .ref a_4, .ref a_5, .int i_5, .int i_6, .int i_7, .int i_8, .int i_9, .long j_0, .int i_10, .int i_11, .int i_12, .int i_13, .ref a_6, .ref a_7, .ref a_8, .ref a_9, .ref a_10, .ref a_11, .ref a_12, .ref a_13, .ref a_14, .ref a_15, .ref a_16, .ref a_17, .ref a_18, .int i_14, .int n3, .int n4, .int i_17, .int i_18, .int i_19, .ref a_19, .int i_20, .ref a_20])), (a_7, .inl (cy 1, 30, .inl (mm_g [i_21, i_22, i_23, i_24, i_25, i_26, i_27, i_28, i_29, i_30, i_31, i_32, i_33, i_34, i_35, i_36, i_37, i_38, i_39, i_40, i_41, i_42, i_43, i_44, i_45, i_46, i_47, i_48, i_49, i_50]))), (a_8, .inl (cy 1, 90, .inl f_0)), (a_13, .inl (cy 1, 450, .inl f_1)), (a_15, .inl (cy 1, 7200, .inl f_2)), (a_16, .inl (cy 1, 3, .inl f_3)), (a_18, .inl (cy 1, 8, .inl f_4)), (a_20, .inl (cy 1, 4, .inl f_5))]) hS
    rcases hw with rfl | rfl
    · refine lv_if_ne (tgt := 22) hx hb dX12_rowsFrom_18 (by decide) (fun c6 => ?_) (fun c6 => ?_)
      · exact absurd rfl (mm_ne c6)
      · subst hAe
        rw [hQ]
        exact W.vret hx hb hr (fun t ht hW => ⟨⟨(n3, n4, i_20, f_5), rfl, trivial, by rw [ht]; exact hP, hK.warm hW, hD⟩, hS.F ht⟩) hS.2.2 dX12_rowsFrom_21
    · refine lv_if_ne (tgt := 22) hx hb dX12_rowsFrom_18 (by decide) (fun c7 => ?_) (fun c7 => ?_)
      · refine lv_iconst (v := 0) hx hb dX12_rowsFrom_22 (by decide) ?_
        refine lv_istore (lv' := [(6, .int 0), (0, .ref a_0), (1, .int 4), (2, .int i_0), (3, .int i_1), (4, .int i_2), (5, .int i_3)]) hx hb dX12_rowsFrom_23 hl (by decide) rfl ?_
        clear hl
        clear ls
        intro ls hl
        have L25_51 : ∀ (n : Nat) (x25_6_50 : Int32) (z25_7_51 : Nat → Int32), mm_rg x25_6_50 0 4 → (4 - x25_6_50.toInt).toNat < n → ∀ (H : Heap) (locs : List Loc), va_P G vwCl [(a_0, .inr (12, [.int i_4, .ref a_1, .ref a_2, .ref a_3, .ref a_4, .ref a_5, .int i_5, .int i_6, .int i_7, .int i_8, .int i_9, .long j_0, .int i_10, .int i_11, .int i_12, .int i_13, .ref a_6, .ref a_7, .ref a_8, .ref a_9, .ref a_10, .ref a_11, .ref a_12, .ref a_13, .ref a_14, .ref a_15, .ref a_16, .ref a_17, .ref a_18, .int i_14, .int n3, .int n4, .int i_17, .int i_18, .int i_19, .ref a_19, .int i_20, .ref a_20])), (a_7, .inl (cy 1, 30, .inl (mm_g [i_21, i_22, i_23, i_24, i_25, i_26, i_27, i_28, i_29, i_30, i_31, i_32, i_33, i_34, i_35, i_36, i_37, i_38, i_39, i_40, i_41, i_42, i_43, i_44, i_45, i_46, i_47, i_48, i_49, i_50]))), (a_8, .inl (cy 1, 90, .inl f_0)), (a_13, .inl (cy 1, 450, .inl f_1)), (a_15, .inl (cy 1, 7200, .inl f_2)), (a_16, .inl (cy 1, 3, .inl f_3)), (a_18, .inl (cy 1, 8, .inl f_4)), (a_20, .inl (cy 1, 4, .inl z25_7_51))] H → va_D A [(a_0, .inr (12, [.int i_4, .ref a_1, .ref a_2, .ref a_3, .ref a_4, .ref a_5, .int i_5, .int i_6, .int i_7, .int i_8, .int i_9, .long j_0, .int i_10, .int i_11, .int i_12, .int i_13, .ref a_6, .ref a_7, .ref a_8, .ref a_9, .ref a_10, .ref a_11, .ref a_12, .ref a_13, .ref a_14, .ref a_15, .ref a_16, .ref a_17, .ref a_18, .int i_14, .int n3, .int n4, .int i_17, .int i_18, .int i_19, .ref a_19, .int i_20, .ref a_20])), (a_7, .inl (cy 1, 30, .inl (mm_g [i_21, i_22, i_23, i_24, i_25, i_26, i_27, i_28, i_29, i_30, i_31, i_32, i_33, i_34, i_35, i_36, i_37, i_38, i_39, i_40, i_41, i_42, i_43, i_44, i_45, i_46, i_47, i_48, i_49, i_50]))), (a_8, .inl (cy 1, 90, .inl f_0)), (a_13, .inl (cy 1, 450, .inl f_1)), (a_15, .inl (cy 1, 7200, .inl f_2)), (a_16, .inl (cy 1, 3, .inl f_3)), (a_18, .inl (cy 1, 8, .inl f_4)), (a_20, .inl (cy 1, 4, .inl z25_7_51))] → va_S A s.heap H locs → ∀ (ls : Array Slot), lv_has ls 7 [(6, .int x25_6_50), (0, .ref a_0), (1, .int 4), (2, .int i_0), (3, .int i_1), (4, .int i_2), (5, .int i_3)] → W p l e R s m args below meth c H locs 0 0 Q (F0 m 25 ls []) := by
          intro n
          induction n with
          | zero => intro x25_6_50 z25_7_51 rx25_6_50 hm; exact absurd hm (Nat.not_lt_zero _)
          | succ n ih25 =>
            intro x25_6_50 z25_7_51 rx25_6_50 hm25 H locs hP hD hS ls hl
            refine lv_iload hx hb dX12_rowsFrom_25 (lv_at hl 0 rfl) ?_
            refine lv_iload_n hx hb dX12_rowsFrom_27 rfl (lv_at hl 2 rfl) ?_
            refine lv_icmp_ge (tgt := 58) hx hb dX12_rowsFrom_28 (by decide) (fun c53 => ?_) (fun c53 => ?_)
            · have q54 := mm_leR (mm_le c53) mm_k4 rx25_6_50
              refine lv_aload_n hx hb dX12_rowsFrom_58 rfl (lv_at hl 1 rfl) ?_
              refine lv_dup hx hb dX12_rowsFrom_59 rfl ?_
              refine va_get (D := G) (ci := 12) (v := .int i_20) (C := RX12) (T := TX12) (N := 38) hx hb hts (mm_i inlX12) hown hK.1 hP 0 rfl rfl 36 (by decide) (mm_h hts mm_w1404) (fun _ h9 => h9) rfl dX12_rowsFrom_60 ?_
              refine lv_iconst (v := 1) hx hb dX12_rowsFrom_63 (by decide) ?_
              refine lv_iadd hx hb dX12_rowsFrom_64 ?_
              refine lv_topi (fun v55 ev55 => ?_)
              refine va_put (D := G) (ci := 12) (v := .int v55) (ty := tyX12 36) (C := RX12) (T := TX12) (N := 38) hx hb hts (mm_i inlX12) tyX12 tyX12_ok nmX12 hown hK.1 hP hD hS 0 rfl rfl 36 (by decide) (mm_h hts mm_w1404) (fun _ h9 => h9) rfl (tyX12_ok 36 (by decide)) rfl rfl (Nat.le_of_ble_eq_true rfl) dX12_rowsFrom_65 ?_
              clear hP hD hS
              clear H locs
              intro H locs (hP : va_P G vwCl [(a_0, .inr (12, [.int i_4, .ref a_1, .ref a_2, .ref a_3, .ref a_4, .ref a_5, .int i_5, .int i_6, .int i_7, .int i_8, .int i_9, .long j_0, .int i_10, .int i_11, .int i_12, .int i_13, .ref a_6, .ref a_7, .ref a_8, .ref a_9, .ref a_10, .ref a_11, .ref a_12, .ref a_13, .ref a_14, .ref a_15, .ref a_16, .ref a_17, .ref a_18, .int i_14, .int n3, .int n4, .int i_17, .int i_18, .int i_19, .ref a_19, .int v55, .ref a_20])), (a_7, .inl (cy 1, 30, .inl (mm_g [i_21, i_22, i_23, i_24, i_25, i_26, i_27, i_28, i_29, i_30, i_31, i_32, i_33, i_34, i_35, i_36, i_37, i_38, i_39, i_40, i_41, i_42, i_43, i_44, i_45, i_46, i_47, i_48, i_49, i_50]))), (a_8, .inl (cy 1, 90, .inl f_0)), (a_13, .inl (cy 1, 450, .inl f_1)), (a_15, .inl (cy 1, 7200, .inl f_2)), (a_16, .inl (cy 1, 3, .inl f_3)), (a_18, .inl (cy 1, 8, .inl f_4)), (a_20, .inl (cy 1, 4, .inl z25_7_51))] H) (hD : va_D A [(a_0, .inr (12, [.int i_4, .ref a_1, .ref a_2, .ref a_3, .ref a_4, .ref a_5, .int i_5, .int i_6, .int i_7, .int i_8, .int i_9, .long j_0, .int i_10, .int i_11, .int i_12, .int i_13, .ref a_6, .ref a_7, .ref a_8, .ref a_9, .ref a_10, .ref a_11, .ref a_12, .ref a_13, .ref a_14, .ref a_15, .ref a_16, .ref a_17, .ref a_18, .int i_14, .int n3, .int n4, .int i_17, .int i_18, .int i_19, .ref a_19, .int v55, .ref a_20])), (a_7, .inl (cy 1, 30, .inl (mm_g [i_21, i_22, i_23, i_24, i_25, i_26, i_27, i_28, i_29, i_30, i_31, i_32, i_33, i_34, i_35, i_36, i_37, i_38, i_39, i_40, i_41, i_42, i_43, i_44, i_45, i_46, i_47, i_48, i_49, i_50]))), (a_8, .inl (cy 1, 90, .inl f_0)), (a_13, .inl (cy 1, 450, .inl f_1)), (a_15, .inl (cy 1, 7200, .inl f_2)), (a_16, .inl (cy 1, 3, .inl f_3)), (a_18, .inl (cy 1, 8, .inl f_4)), (a_20, .inl (cy 1, 4, .inl z25_7_51))]) hS
              subst hAe
              rw [hQ]
              exact W.vret hx hb hr (fun t ht hW => ⟨⟨(n3, n4, v55, z25_7_51), rfl, trivial, by rw [ht]; exact hP, hK.warm hW, hD⟩, hS.F ht⟩) hS.2.2 dX12_rowsFrom_68
            · have q56 := mm_ltL (h := 3) (mm_nle c53) rx25_6_50 mm_k4 (by decide)
              refine lv_aload_n hx hb dX12_rowsFrom_31 rfl (lv_at hl 1 rfl) ?_
              refine va_get (D := G) (ci := 12) (v := .int i_20) (C := RX12) (T := TX12) (N := 38) hx hb hts (mm_i inlX12) hown hK.1 hP 0 rfl rfl 36 (by decide) (mm_h hts mm_w1404) (fun _ h9 => h9) rfl dX12_rowsFrom_32 ?_
              refine lv_if_ne (tgt := 58) hx hb dX12_rowsFrom_35 (by decide) (fun c57 => ?_) (fun c57 => ?_)
              · refine lv_aload_n hx hb dX12_rowsFrom_58 rfl (lv_at hl 1 rfl) ?_
                refine lv_dup hx hb dX12_rowsFrom_59 rfl ?_
                refine va_get (D := G) (ci := 12) (v := .int i_20) (C := RX12) (T := TX12) (N := 38) hx hb hts (mm_i inlX12) hown hK.1 hP 0 rfl rfl 36 (by decide) (mm_h hts mm_w1404) (fun _ h9 => h9) rfl dX12_rowsFrom_60 ?_
                refine lv_iconst (v := 1) hx hb dX12_rowsFrom_63 (by decide) ?_
                refine lv_iadd hx hb dX12_rowsFrom_64 ?_
                refine lv_topi (fun v58 ev58 => ?_)
                refine va_put (D := G) (ci := 12) (v := .int v58) (ty := tyX12 36) (C := RX12) (T := TX12) (N := 38) hx hb hts (mm_i inlX12) tyX12 tyX12_ok nmX12 hown hK.1 hP hD hS 0 rfl rfl 36 (by decide) (mm_h hts mm_w1404) (fun _ h9 => h9) rfl (tyX12_ok 36 (by decide)) rfl rfl (Nat.le_of_ble_eq_true rfl) dX12_rowsFrom_65 ?_
                clear hP hD hS
                clear H locs
                intro H locs (hP : va_P G vwCl [(a_0, .inr (12, [.int i_4, .ref a_1, .ref a_2, .ref a_3, .ref a_4, .ref a_5, .int i_5, .int i_6, .int i_7, .int i_8, .int i_9, .long j_0, .int i_10, .int i_11, .int i_12, .int i_13, .ref a_6, .ref a_7, .ref a_8, .ref a_9, .ref a_10, .ref a_11, .ref a_12, .ref a_13, .ref a_14, .ref a_15, .ref a_16, .ref a_17, .ref a_18, .int i_14, .int n3, .int n4, .int i_17, .int i_18, .int i_19, .ref a_19, .int v58, .ref a_20])), (a_7, .inl (cy 1, 30, .inl (mm_g [i_21, i_22, i_23, i_24, i_25, i_26, i_27, i_28, i_29, i_30, i_31, i_32, i_33, i_34, i_35, i_36, i_37, i_38, i_39, i_40, i_41, i_42, i_43, i_44, i_45, i_46, i_47, i_48, i_49, i_50]))), (a_8, .inl (cy 1, 90, .inl f_0)), (a_13, .inl (cy 1, 450, .inl f_1)), (a_15, .inl (cy 1, 7200, .inl f_2)), (a_16, .inl (cy 1, 3, .inl f_3)), (a_18, .inl (cy 1, 8, .inl f_4)), (a_20, .inl (cy 1, 4, .inl z25_7_51))] H) (hD : va_D A [(a_0, .inr (12, [.int i_4, .ref a_1, .ref a_2, .ref a_3, .ref a_4, .ref a_5, .int i_5, .int i_6, .int i_7, .int i_8, .int i_9, .long j_0, .int i_10, .int i_11, .int i_12, .int i_13, .ref a_6, .ref a_7, .ref a_8, .ref a_9, .ref a_10, .ref a_11, .ref a_12, .ref a_13, .ref a_14, .ref a_15, .ref a_16, .ref a_17, .ref a_18, .int i_14, .int n3, .int n4, .int i_17, .int i_18, .int i_19, .ref a_19, .int v58, .ref a_20])), (a_7, .inl (cy 1, 30, .inl (mm_g [i_21, i_22, i_23, i_24, i_25, i_26, i_27, i_28, i_29, i_30, i_31, i_32, i_33, i_34, i_35, i_36, i_37, i_38, i_39, i_40, i_41, i_42, i_43, i_44, i_45, i_46, i_47, i_48, i_49, i_50]))), (a_8, .inl (cy 1, 90, .inl f_0)), (a_13, .inl (cy 1, 450, .inl f_1)), (a_15, .inl (cy 1, 7200, .inl f_2)), (a_16, .inl (cy 1, 3, .inl f_3)), (a_18, .inl (cy 1, 8, .inl f_4)), (a_20, .inl (cy 1, 4, .inl z25_7_51))]) hS
                subst hAe
                rw [hQ]
                exact W.vret hx hb hr (fun t ht hW => ⟨⟨(n3, n4, v58, z25_7_51), rfl, trivial, by rw [ht]; exact hP, hK.warm hW, hD⟩, hS.F ht⟩) hS.2.2 dX12_rowsFrom_68
              · have q59 := mm_eqI (lo := 0) (hi := 0) c57 (mm_top i_20) mm_k0 (by decide)
                refine lv_aload_n hx hb dX12_rowsFrom_38 rfl (lv_at hl 1 rfl) ?_
                refine va_get (D := G) (ci := 12) (v := .ref a_20) (C := RX12) (T := TX12) (N := 38) hx hb hts (mm_i inlX12) hown hK.1 hP 0 rfl rfl 37 (by decide) (mm_h hts mm_w162) (fun _ h9 => h9) rfl dX12_rowsFrom_39 ?_
                refine lv_iload hx hb dX12_rowsFrom_42 (lv_at hl 0 rfl) ?_
                refine lv_aload_n hx hb dX12_rowsFrom_44 rfl (lv_at hl 1 rfl) ?_
                refine va_get (D := G) (ci := 12) (v := .ref a_18) (C := RX12) (T := TX12) (N := 38) hx hb hts (mm_i inlX12) hown hK.1 hP 0 rfl rfl 28 (by decide) (mm_h hts mm_w160) (fun _ h9 => h9) rfl dX12_rowsFrom_45 ?_
                refine lv_iload hx hb dX12_rowsFrom_48 (lv_at hl 0 rfl) ?_
                refine va_iald hx hb hK.1 hP 6 1 rfl rfl (mm_in q56 (by decide)) dX12_rowsFrom_50 ?_
                refine lv_topi (fun v60 ev60 => ?_)
                have rv60 : mm_rg v60 0 9 := mm_eqv ev60 (h39 _)
                refine va_iast hx hb hK.1 hP hD hS 7 1 rfl rfl (mm_in q56 (by decide)) dX12_rowsFrom_51 ?_
                clear hP hD hS
                clear H locs
                obtain ⟨g61, eg61⟩ : ∃ z : Nat → Int32, z = upd z25_7_51 x25_6_50.toNatClampNeg v60 := ⟨_, rfl⟩
                rw [← eg61]
                intro H locs (hP : va_P G vwCl [(a_0, .inr (12, [.int i_4, .ref a_1, .ref a_2, .ref a_3, .ref a_4, .ref a_5, .int i_5, .int i_6, .int i_7, .int i_8, .int i_9, .long j_0, .int i_10, .int i_11, .int i_12, .int i_13, .ref a_6, .ref a_7, .ref a_8, .ref a_9, .ref a_10, .ref a_11, .ref a_12, .ref a_13, .ref a_14, .ref a_15, .ref a_16, .ref a_17, .ref a_18, .int i_14, .int n3, .int n4, .int i_17, .int i_18, .int i_19, .ref a_19, .int i_20, .ref a_20])), (a_7, .inl (cy 1, 30, .inl (mm_g [i_21, i_22, i_23, i_24, i_25, i_26, i_27, i_28, i_29, i_30, i_31, i_32, i_33, i_34, i_35, i_36, i_37, i_38, i_39, i_40, i_41, i_42, i_43, i_44, i_45, i_46, i_47, i_48, i_49, i_50]))), (a_8, .inl (cy 1, 90, .inl f_0)), (a_13, .inl (cy 1, 450, .inl f_1)), (a_15, .inl (cy 1, 7200, .inl f_2)), (a_16, .inl (cy 1, 3, .inl f_3)), (a_18, .inl (cy 1, 8, .inl f_4)), (a_20, .inl (cy 1, 4, .inl g61))] H) (hD : va_D A [(a_0, .inr (12, [.int i_4, .ref a_1, .ref a_2, .ref a_3, .ref a_4, .ref a_5, .int i_5, .int i_6, .int i_7, .int i_8, .int i_9, .long j_0, .int i_10, .int i_11, .int i_12, .int i_13, .ref a_6, .ref a_7, .ref a_8, .ref a_9, .ref a_10, .ref a_11, .ref a_12, .ref a_13, .ref a_14, .ref a_15, .ref a_16, .ref a_17, .ref a_18, .int i_14, .int n3, .int n4, .int i_17, .int i_18, .int i_19, .ref a_19, .int i_20, .ref a_20])), (a_7, .inl (cy 1, 30, .inl (mm_g [i_21, i_22, i_23, i_24, i_25, i_26, i_27, i_28, i_29, i_30, i_31, i_32, i_33, i_34, i_35, i_36, i_37, i_38, i_39, i_40, i_41, i_42, i_43, i_44, i_45, i_46, i_47, i_48, i_49, i_50]))), (a_8, .inl (cy 1, 90, .inl f_0)), (a_13, .inl (cy 1, 450, .inl f_1)), (a_15, .inl (cy 1, 7200, .inl f_2)), (a_16, .inl (cy 1, 3, .inl f_3)), (a_18, .inl (cy 1, 8, .inl f_4)), (a_20, .inl (cy 1, 4, .inl g61))]) hS
                obtain ⟨v62, ev62⟩ : ∃ y : Int32, y = x25_6_50 + 1 := ⟨_, rfl⟩
                refine lv_iinc (v := v62) (lv' := [(6, .int v62), (0, .ref a_0), (1, .int 4), (2, .int i_0), (3, .int i_1), (4, .int i_2), (5, .int i_3)]) hx hb dX12_rowsFrom_52 hl (k := 0) rfl (by rw [ev62]; rfl) (by decide) rfl ?_
                clear hl
                clear ls
                intro ls hl
                have rv62 : mm_rg v62 1 4 := mm_add ev62 q56 mm_k1 (by decide) (by decide)
                have tv62 := mm_addEc ev62 q56 mm_k1 (by decide) (k := 1) (by decide)
                refine lv_goto (tgt := 25) hx hb dX12_rowsFrom_55 (by decide) ?_
                exact ih25 v62 g61 (mm_wk rv62 (by decide)) (mm_mu hm25 tv62 (by decide) (rv62).2 (by decide)) H locs hP hD hS ls (lv_sub hl [0, 1, 2, 3, 4, 5, 6] rfl)
        exact L25_51 _ 0 f_5 (mm_wk mm_k0 (by decide)) (Nat.lt_succ_self _) H locs hP hD hS ls (lv_sub hl [0, 1, 2, 3, 4, 5, 6] rfl)
      · exact mm_eqN c7.symm mm_k0 mm_k1 (by decide)

set_option maxHeartbeats 4000000 in
set_option maxRecDepth 100000 in
theorem M224_X12_rowsFrom (l : Launch) (G : va_G) (cy : Nat → ClassId) (sz : Nat) (a_0 : Nat) (i_0 : Int32) (i_1 : Int32) (i_2 : Int32) (i_3 : Int32) (i_4 : Int32) (a_1 : Nat) (a_2 : Nat) (a_3 : Nat) (a_4 : Nat) (a_5 : Nat) (i_5 : Int32) (i_6 : Int32) (i_7 : Int32) (i_8 : Int32) (i_9 : Int32) (j_0 : Int64) (i_10 : Int32) (i_11 : Int32) (i_12 : Int32) (i_13 : Int32) (a_6 : Nat) (a_7 : Nat) (a_8 : Nat) (a_9 : Nat) (a_10 : Nat) (a_11 : Nat) (a_12 : Nat) (a_13 : Nat) (a_14 : Nat) (a_15 : Nat) (a_16 : Nat) (a_17 : Nat) (a_18 : Nat) (i_14 : Int32) (i_15 : Int32) (i_16 : Int32) (i_17 : Int32) (i_18 : Int32) (i_19 : Int32) (a_19 : Nat) (i_20 : Int32) (a_20 : Nat) (i_21 : Int32) (i_22 : Int32) (i_23 : Int32) (i_24 : Int32) (i_25 : Int32) (i_26 : Int32) (i_27 : Int32) (i_28 : Int32) (i_29 : Int32) (i_30 : Int32) (i_31 : Int32) (i_32 : Int32) (i_33 : Int32) (i_34 : Int32) (i_35 : Int32) (i_36 : Int32) (i_37 : Int32) (i_38 : Int32) (i_39 : Int32) (i_40 : Int32) (i_41 : Int32) (i_42 : Int32) (i_43 : Int32) (i_44 : Int32) (i_45 : Int32) (i_46 : Int32) (i_47 : Int32) (i_48 : Int32) (i_49 : Int32) (i_50 : Int32) (i_51 : Int32) (i_52 : Int32) (i_53 : Int32) (i_54 : Int32) (i_55 : Int32) (f_0 : Nat → Int32) (f_1 : Nat → Int32) (f_2 : Nat → Int32) (f_3 : Nat → Int32) (f_4 : Nat → Int32) (f_5 : Nat → Int32) (h0 : mm_rg i_0 0 2) (h1 : mm_rg i_1 0 1000000000) (h2 : mm_rg i_2 1 7) (h3 : mm_rg i_3 0 9999) (h4 : mm_rg i_14 3 4) (h5 : mm_rg i_21 0 601) (h6 : mm_rg i_22 0 601) (h7 : mm_rg i_23 0 601) (h8 : mm_rg i_24 0 601) (h9 : mm_rg i_25 0 601) (h10 : mm_rg i_26 0 10) (h11 : mm_rg i_27 0 99) (h12 : mm_rg i_28 0 9) (h13 : mm_rg i_29 0 3) (h14 : mm_rg i_30 0 6) (h15 : mm_rg i_31 0 30) (h16 : mm_rg i_32 0 10) (h17 : mm_rg i_33 0 99) (h18 : mm_rg i_34 0 9) (h19 : mm_rg i_35 0 3) (h20 : mm_rg i_36 0 6) (h21 : mm_rg i_37 0 30) (h22 : mm_rg i_38 0 10) (h23 : mm_rg i_39 0 99) (h24 : mm_rg i_40 0 9) (h25 : mm_rg i_41 0 3) (h26 : mm_rg i_42 0 6) (h27 : mm_rg i_43 0 30) (h28 : mm_rg i_44 0 10) (h29 : mm_rg i_45 0 99) (h30 : mm_rg i_46 0 9) (h31 : mm_rg i_47 0 3) (h32 : mm_rg i_48 0 6) (h33 : mm_rg i_49 0 30) (h34 : mm_rg i_50 0 10) (h35 : mm_rg i_51 0 99) (h36 : mm_rg i_52 0 9) (h37 : mm_rg i_53 0 3) (h38 : mm_rg i_54 0 6) (h39 : mm_rg i_55 0 30) (h40 : mm_ar f_0 0 99) (h41 : mm_ar f_1 (-1) 99) (h42 : mm_ar f_2 0 9) (h43 : mm_ar f_3 0 210) (h44 : mm_ar f_4 0 9) (h45 : mm_acs f_1 0 i_28 i_29 i_31) (h46 : mm_tl i_21 i_29 i_30) (h47 : mm_acs f_1 1 i_34 i_35 i_37) (h48 : mm_tl i_22 i_35 i_36) (h49 : mm_acs f_1 2 i_40 i_41 i_43) (h50 : mm_tl i_23 i_41 i_42) (h51 : mm_acs f_1 3 i_46 i_47 i_49) (h52 : mm_tl i_24 i_47 i_48) (h53 : mm_f1 f_3 i_0)  : mm_CV l yX12_rowsFrom (mm_ws yX12_rowsFrom cX12_rowsFrom 7 (none)) ({ frames := 4, cells := 0, slots := 0, locals := 101 } : Room) G cy sz [(a_0, .inr (12, [.int i_4, .ref a_1, .ref a_2, .ref a_3, .ref a_4, .ref a_5, .int i_5, .int i_6, .int i_7, .int i_8, .int i_9, .long j_0, .int i_10, .int i_11, .int i_12, .int i_13, .ref a_6, .ref a_7, .ref a_8, .ref a_9, .ref a_10, .ref a_11, .ref a_12, .ref a_13, .ref a_14, .ref a_15, .ref a_16, .ref a_17, .ref a_18, .int i_14, .int i_15, .int i_16, .int i_17, .int i_18, .int i_19, .ref a_19, .int i_20, .ref a_20])), (a_6, .inl (cy 1, 5, .inl (mm_g [i_21, i_22, i_23, i_24, i_25]))), (a_7, .inl (cy 1, 30, .inl (mm_g [i_26, i_27, i_28, i_29, i_30, i_31, i_32, i_33, i_34, i_35, i_36, i_37, i_38, i_39, i_40, i_41, i_42, i_43, i_44, i_45, i_46, i_47, i_48, i_49, i_50, i_51, i_52, i_53, i_54, i_55]))), (a_8, .inl (cy 1, 90, .inl f_0)), (a_13, .inl (cy 1, 450, .inl f_1)), (a_15, .inl (cy 1, 7200, .inl f_2)), (a_16, .inl (cy 1, 3, .inl f_3)), (a_18, .inl (cy 1, 8, .inl f_4)), (a_20, .inl (cy 1, 4, .inl f_5))] [.ref a_0, .int 3, .int i_0, .int i_1, .int i_2, .int i_3] (fun u : Int32 × Int32 × Int32 × (Nat → Int32) × (Nat → Int32) => [(a_0, .inr (12, [.int i_4, .ref a_1, .ref a_2, .ref a_3, .ref a_4, .ref a_5, .int i_5, .int i_6, .int i_7, .int i_8, .int i_9, .long j_0, .int i_10, .int i_11, .int i_12, .int i_13, .ref a_6, .ref a_7, .ref a_8, .ref a_9, .ref a_10, .ref a_11, .ref a_12, .ref a_13, .ref a_14, .ref a_15, .ref a_16, .ref a_17, .ref a_18, .int i_14, .int u.1, .int u.2.1, .int i_17, .int i_18, .int i_19, .ref a_19, .int u.2.2.1, .ref a_20])), (a_6, .inl (cy 1, 5, .inl (mm_g [i_21, i_22, i_23, i_24, i_25]))), (a_7, .inl (cy 1, 30, .inl (mm_g [i_26, i_27, i_28, i_29, i_30, i_31, i_32, i_33, i_34, i_35, i_36, i_37, i_38, i_39, i_40, i_41, i_42, i_43, i_44, i_45, i_46, i_47, i_48, i_49, i_50, i_51, i_52, i_53, i_54, i_55]))), (a_8, .inl (cy 1, 90, .inl f_0)), (a_13, .inl (cy 1, 450, .inl f_1)), (a_15, .inl (cy 1, 7200, .inl f_2)), (a_16, .inl (cy 1, 3, .inl f_3)), (a_18, .inl (cy 1, 8, .inl u.2.2.2.1)), (a_20, .inl (cy 1, 4, .inl u.2.2.2.2))]) (fun u : Int32 × Int32 × Int32 × (Nat → Int32) × (Nat → Int32) => mm_ar u.2.2.2.1 0 9) 0 0 := by
  refine mm_begin (lv := [(0, .ref a_0), (1, .int 3), (2, .int i_0), (3, .int i_1), (4, .int i_2), (5, .int i_3)]) (by decide) (Nat.le_of_ble_eq_true rfl) rfl ?_
  intro p e s m below meth c A ls R args Q H locs hRe hQ hAe hx hb hr hlocks hml hown hnm hts hsz hA hS hP hK hD hZ hl
  have hRf : R.frames = 4 := by rw [hRe]
  have hRl : R.locals = 101 := by rw [hRe]
  have hRc : R.cells = 0 := by rw [hRe]
  have hRs : R.slots = 0 := by rw [hRe]
  refine lv_iload_n hx hb dX12_rowsFrom_0 rfl (lv_at hl 1 rfl) ?_
  refine lv_aload_n hx hb dX12_rowsFrom_1 rfl (lv_at hl 0 rfl) ?_
  refine va_get (D := G) (ci := 12) (v := .int i_14) (C := RX12) (T := TX12) (N := 38) hx hb hts (mm_i inlX12) hown hK.1 hP 0 rfl rfl 29 (by decide) (mm_h hts mm_w860) (fun _ h9 => h9) rfl dX12_rowsFrom_2 ?_
  refine lv_icmp_ne (tgt := 69) hx hb dX12_rowsFrom_5 (by decide) (fun c1 => ?_) (fun c1 => ?_)
  · have q2 := mm_neL (lo := 4) (Ne.symm (mm_ne c1)) h4 mm_k3 (by decide) (by decide)
    refine lv_iconst (v := 0) hx hb dX12_rowsFrom_69 (by decide) ?_
    refine lv_istore (lv' := [(6, .int 0), (0, .ref a_0), (1, .int 3), (2, .int i_0), (3, .int i_1), (4, .int i_2), (5, .int i_3)]) hx hb dX12_rowsFrom_70 hl (by decide) rfl ?_
    clear hl
    clear ls
    intro ls hl
    have L72_151 : ∀ (n : Nat) (x72_6_146 : Int32) (y72_0_30_147 : Int32) (y72_0_31_148 : Int32) (y72_0_36_149 : Int32) (z72_7_150 : Nat → Int32) (z72_8_151 : Nat → Int32), mm_rg x72_6_146 0 10 → mm_ar z72_7_150 0 9 → (10 - x72_6_146.toInt).toNat < n → ∀ (H : Heap) (locs : List Loc), va_P G vwCl [(a_0, .inr (12, [.int i_4, .ref a_1, .ref a_2, .ref a_3, .ref a_4, .ref a_5, .int i_5, .int i_6, .int i_7, .int i_8, .int i_9, .long j_0, .int i_10, .int i_11, .int i_12, .int i_13, .ref a_6, .ref a_7, .ref a_8, .ref a_9, .ref a_10, .ref a_11, .ref a_12, .ref a_13, .ref a_14, .ref a_15, .ref a_16, .ref a_17, .ref a_18, .int i_14, .int y72_0_30_147, .int y72_0_31_148, .int i_17, .int i_18, .int i_19, .ref a_19, .int y72_0_36_149, .ref a_20])), (a_6, .inl (cy 1, 5, .inl (mm_g [i_21, i_22, i_23, i_24, i_25]))), (a_7, .inl (cy 1, 30, .inl (mm_g [i_26, i_27, i_28, i_29, i_30, i_31, i_32, i_33, i_34, i_35, i_36, i_37, i_38, i_39, i_40, i_41, i_42, i_43, i_44, i_45, i_46, i_47, i_48, i_49, i_50, i_51, i_52, i_53, i_54, i_55]))), (a_8, .inl (cy 1, 90, .inl f_0)), (a_13, .inl (cy 1, 450, .inl f_1)), (a_15, .inl (cy 1, 7200, .inl f_2)), (a_16, .inl (cy 1, 3, .inl f_3)), (a_18, .inl (cy 1, 8, .inl z72_7_150)), (a_20, .inl (cy 1, 4, .inl z72_8_151))] H → va_D A [(a_0, .inr (12, [.int i_4, .ref a_1, .ref a_2, .ref a_3, .ref a_4, .ref a_5, .int i_5, .int i_6, .int i_7, .int i_8, .int i_9, .long j_0, .int i_10, .int i_11, .int i_12, .int i_13, .ref a_6, .ref a_7, .ref a_8, .ref a_9, .ref a_10, .ref a_11, .ref a_12, .ref a_13, .ref a_14, .ref a_15, .ref a_16, .ref a_17, .ref a_18, .int i_14, .int y72_0_30_147, .int y72_0_31_148, .int i_17, .int i_18, .int i_19, .ref a_19, .int y72_0_36_149, .ref a_20])), (a_6, .inl (cy 1, 5, .inl (mm_g [i_21, i_22, i_23, i_24, i_25]))), (a_7, .inl (cy 1, 30, .inl (mm_g [i_26, i_27, i_28, i_29, i_30, i_31, i_32, i_33, i_34, i_35, i_36, i_37, i_38, i_39, i_40, i_41, i_42, i_43, i_44, i_45, i_46, i_47, i_48, i_49, i_50, i_51, i_52, i_53, i_54, i_55]))), (a_8, .inl (cy 1, 90, .inl f_0)), (a_13, .inl (cy 1, 450, .inl f_1)), (a_15, .inl (cy 1, 7200, .inl f_2)), (a_16, .inl (cy 1, 3, .inl f_3)), (a_18, .inl (cy 1, 8, .inl z72_7_150)), (a_20, .inl (cy 1, 4, .inl z72_8_151))] → va_S A s.heap H locs → ∀ (ls : Array Slot), lv_has ls 7 [(6, .int x72_6_146), (0, .ref a_0), (1, .int 3), (2, .int i_0), (3, .int i_1), (4, .int i_2), (5, .int i_3)] → W p l e R s m args below meth c H locs 0 0 Q (F0 m 72 ls []) := by
      intro n
      induction n with
      | zero => intro x72_6_146 y72_0_30_147 y72_0_31_148 y72_0_36_149 z72_7_150 z72_8_151 rx72_6_146 rz72_7_150 hm; exact absurd hm (Nat.not_lt_zero _)
      | succ n ih72 =>
        intro x72_6_146 y72_0_30_147 y72_0_31_148 y72_0_36_149 z72_7_150 z72_8_151 rx72_6_146 rz72_7_150 hm72 H locs hP hD hS ls hl
        refine lv_iload hx hb dX12_rowsFrom_72 (lv_at hl 0 rfl) ?_
        refine lv_aload_n hx hb dX12_rowsFrom_74 rfl (lv_at hl 1 rfl) ?_
        refine mm_finir (va_runV (As := []) (rest := [.int x72_6_146]) ⟨hx, hb, hml, hown, hts⟩ (M121_X12_words l G cy H.size a_0 i_4 a_1 a_2 a_3 a_4 a_5 i_5 i_6 i_7 i_8 i_9 j_0 i_10 i_11 i_12 i_13 a_6 a_7 a_8 a_9 a_10 a_11 a_12 a_13 a_14 a_15 a_16 a_17 a_18 i_14 y72_0_30_147 y72_0_31_148 i_17 i_18 i_19 a_19 y72_0_36_149 a_20 i_21 i_22 i_23 i_24 i_25 i_26 i_27 i_28 i_29 i_30 i_31 i_32 i_33 i_34 i_35 i_36 i_37 i_38 i_39 i_40 i_41 i_42 i_43 i_44 i_45 i_46 i_47 i_48 i_49 i_50 i_51 i_52 i_53 i_54 i_55 h5 h6 h7 h8 h9 h10 h11 h12 h13 h14 h15 h16 h17 h18 h19 h20 h21 h22 h23 h24 h25 h26 h27 h28 h29 h30 h31 h32 h33 h34 h35 h36 h37 h38 h39 h46 h48 h50 h52) (cwV 0 hts (mm_gV mm_w649 mm_w650 mm_w651 mm_w5 mm_w652) rfl rfl rfl hd_X12_words ⟨by rw [hRf]; exact Nat.le_of_ble_eq_true rfl, by rw [hRl]; exact Nat.le_of_ble_eq_true rfl⟩) (mm_preV hK hZ hS hA hP hD [0, 1, 2] rfl rfl 0 rfl rfl rfl) rfl rfl hl.1 rfl (lv_room (Nat.le_of_ble_eq_true rfl)) dX12_rowsFrom_75 ⟨by rw [hRc]; exact Nat.le_of_ble_eq_true rfl, by rw [hRs]; exact Nat.le_of_ble_eq_true rfl⟩) hP hD hS hA [0, 1, 2] rfl (fun _ => rfl) ?_
        clear hP hD hS
        clear H locs
        intro v153 _u H locs hw hP hD hS
        have w154 := hw
        refine lv_icmp_ge (tgt := 108) hx hb dX12_rowsFrom_78 (by decide) (fun c155 => ?_) (fun c155 => ?_)
        · subst hAe
          rw [hQ]
          exact W.vret hx hb hr (fun t ht hW => ⟨⟨(y72_0_30_147, y72_0_31_148, y72_0_36_149, z72_7_150, z72_8_151), rfl, rz72_7_150, by rw [ht]; exact hP, hK.warm hW, hD⟩, hS.F ht⟩) hS.2.2 dX12_rowsFrom_108
        · have q156 := mm_ltL (h := 9) (mm_nle c155) rx72_6_146 w154 (by decide)
          have q157 := mm_ltR (lo := 1) (mm_nle c155) rx72_6_146 w154 (by decide)
          refine lv_aload_n hx hb dX12_rowsFrom_81 rfl (lv_at hl 1 rfl) ?_
          refine va_get (D := G) (ci := 12) (v := .ref a_18) (C := RX12) (T := TX12) (N := 38) hx hb hts (mm_i inlX12) hown hK.1 hP 0 rfl rfl 28 (by decide) (mm_h hts mm_w160) (fun _ h9 => h9) rfl dX12_rowsFrom_82 ?_
          refine lv_iload_n hx hb dX12_rowsFrom_85 rfl (lv_at hl 2 rfl) ?_
          refine lv_iload hx hb dX12_rowsFrom_86 (lv_at hl 0 rfl) ?_
          refine va_iast hx hb hK.1 hP hD hS 7 1 rfl rfl (mm_in mm_k3 (by decide)) dX12_rowsFrom_88 ?_
          clear hP hD hS
          clear H locs
          obtain ⟨g158, eg158⟩ : ∃ z : Nat → Int32, z = upd z72_7_150 (3 : Int32).toNatClampNeg x72_6_146 := ⟨_, rfl⟩
          rw [← eg158]
          intro H locs (hP : va_P G vwCl [(a_0, .inr (12, [.int i_4, .ref a_1, .ref a_2, .ref a_3, .ref a_4, .ref a_5, .int i_5, .int i_6, .int i_7, .int i_8, .int i_9, .long j_0, .int i_10, .int i_11, .int i_12, .int i_13, .ref a_6, .ref a_7, .ref a_8, .ref a_9, .ref a_10, .ref a_11, .ref a_12, .ref a_13, .ref a_14, .ref a_15, .ref a_16, .ref a_17, .ref a_18, .int i_14, .int y72_0_30_147, .int y72_0_31_148, .int i_17, .int i_18, .int i_19, .ref a_19, .int y72_0_36_149, .ref a_20])), (a_6, .inl (cy 1, 5, .inl (mm_g [i_21, i_22, i_23, i_24, i_25]))), (a_7, .inl (cy 1, 30, .inl (mm_g [i_26, i_27, i_28, i_29, i_30, i_31, i_32, i_33, i_34, i_35, i_36, i_37, i_38, i_39, i_40, i_41, i_42, i_43, i_44, i_45, i_46, i_47, i_48, i_49, i_50, i_51, i_52, i_53, i_54, i_55]))), (a_8, .inl (cy 1, 90, .inl f_0)), (a_13, .inl (cy 1, 450, .inl f_1)), (a_15, .inl (cy 1, 7200, .inl f_2)), (a_16, .inl (cy 1, 3, .inl f_3)), (a_18, .inl (cy 1, 8, .inl g158)), (a_20, .inl (cy 1, 4, .inl z72_8_151))] H) (hD : va_D A [(a_0, .inr (12, [.int i_4, .ref a_1, .ref a_2, .ref a_3, .ref a_4, .ref a_5, .int i_5, .int i_6, .int i_7, .int i_8, .int i_9, .long j_0, .int i_10, .int i_11, .int i_12, .int i_13, .ref a_6, .ref a_7, .ref a_8, .ref a_9, .ref a_10, .ref a_11, .ref a_12, .ref a_13, .ref a_14, .ref a_15, .ref a_16, .ref a_17, .ref a_18, .int i_14, .int y72_0_30_147, .int y72_0_31_148, .int i_17, .int i_18, .int i_19, .ref a_19, .int y72_0_36_149, .ref a_20])), (a_6, .inl (cy 1, 5, .inl (mm_g [i_21, i_22, i_23, i_24, i_25]))), (a_7, .inl (cy 1, 30, .inl (mm_g [i_26, i_27, i_28, i_29, i_30, i_31, i_32, i_33, i_34, i_35, i_36, i_37, i_38, i_39, i_40, i_41, i_42, i_43, i_44, i_45, i_46, i_47, i_48, i_49, i_50, i_51, i_52, i_53, i_54, i_55]))), (a_8, .inl (cy 1, 90, .inl f_0)), (a_13, .inl (cy 1, 450, .inl f_1)), (a_15, .inl (cy 1, 7200, .inl f_2)), (a_16, .inl (cy 1, 3, .inl f_3)), (a_18, .inl (cy 1, 8, .inl g158)), (a_20, .inl (cy 1, 4, .inl z72_8_151))]) hS
          have rg158 : mm_ar g158 0 9 := by rw [eg158]; exact mm_ar_upd (mm_ar_wk rz72_7_150 (by decide)) (mm_wk q156 (by decide)) _
          refine lv_aload_n hx hb dX12_rowsFrom_89 rfl (lv_at hl 1 rfl) ?_
          refine lv_iload_n hx hb dX12_rowsFrom_90 rfl (lv_at hl 2 rfl) ?_
          refine lv_iconst (v := 1) hx hb dX12_rowsFrom_91 (by decide) ?_
          refine lv_iadd hx hb dX12_rowsFrom_92 ?_
          refine lv_topi (fun v159 ev159 => ?_)
          obtain rfl : v159 = 4 := ev159.trans (by decide)
          refine lv_iload_n hx hb dX12_rowsFrom_93 rfl (lv_at hl 3 rfl) ?_
          refine lv_iload_n hx hb dX12_rowsFrom_94 rfl (lv_at hl 4 rfl) ?_
          refine lv_iload hx hb dX12_rowsFrom_95 (lv_at hl 5 rfl) ?_
          refine lv_iload hx hb dX12_rowsFrom_97 (lv_at hl 6 rfl) ?_
          refine mm_finv (va_runV (As := [.int 4, .int i_0, .int i_1, .int i_2, .int i_3]) (rest := []) ⟨hx, hb, hml, hown, hts⟩ (M223_X12_rowsFrom l G cy H.size a_0 i_0 i_1 i_2 i_3 i_4 a_1 a_2 a_3 a_4 a_5 i_5 i_6 i_7 i_8 i_9 j_0 i_10 i_11 i_12 i_13 a_6 a_7 a_8 a_9 a_10 a_11 a_12 a_13 a_14 a_15 a_16 a_17 a_18 i_14 y72_0_30_147 y72_0_31_148 i_17 i_18 i_19 a_19 y72_0_36_149 a_20 i_26 i_27 i_28 i_29 i_30 i_31 i_32 i_33 i_34 i_35 i_36 i_37 i_38 i_39 i_40 i_41 i_42 i_43 i_44 i_45 i_46 i_47 i_48 i_49 i_50 i_51 i_52 i_53 i_54 i_55 f_0 f_1 f_2 f_3 g158 z72_8_151 h0 h1 h2 h3 q2 h10 h11 h12 h13 h14 h15 h16 h17 h18 h19 h20 h21 h22 h23 h24 h25 h26 h27 h28 h29 h30 h31 h32 h33 h34 h35 h36 h37 h38 h39 h40 h41 h42 h43 rg158 h45 h47 h49 h51 h53) (cwV 5 hts (mm_gV mm_w1405 mm_w1406 mm_w1407 mm_w5 mm_w1408) rfl rfl rfl hd_X12_rowsFrom ⟨by rw [hRf]; exact Nat.le_of_ble_eq_true rfl, by rw [hRl]; exact Nat.le_of_ble_eq_true rfl⟩) (mm_preV hK hZ hS hA hP hD [0, 2, 3, 4, 5, 6, 7, 8] rfl rfl 0 rfl rfl rfl) rfl rfl hl.1 rfl (lv_room (Nat.le_of_ble_eq_true rfl)) dX12_rowsFrom_99 ⟨by rw [hRc]; exact Nat.le_of_ble_eq_true rfl, by rw [hRs]; exact Nat.le_of_ble_eq_true rfl⟩) hP hD hS hA (fun u : Int32 × Int32 × Int32 × (Nat → Int32) => [(a_0, .inr (12, [.int i_4, .ref a_1, .ref a_2, .ref a_3, .ref a_4, .ref a_5, .int i_5, .int i_6, .int i_7, .int i_8, .int i_9, .long j_0, .int i_10, .int i_11, .int i_12, .int i_13, .ref a_6, .ref a_7, .ref a_8, .ref a_9, .ref a_10, .ref a_11, .ref a_12, .ref a_13, .ref a_14, .ref a_15, .ref a_16, .ref a_17, .ref a_18, .int i_14, .int u.1, .int u.2.1, .int i_17, .int i_18, .int i_19, .ref a_19, .int u.2.2.1, .ref a_20])), (a_6, .inl (cy 1, 5, .inl (mm_g [i_21, i_22, i_23, i_24, i_25]))), (a_7, .inl (cy 1, 30, .inl (mm_g [i_26, i_27, i_28, i_29, i_30, i_31, i_32, i_33, i_34, i_35, i_36, i_37, i_38, i_39, i_40, i_41, i_42, i_43, i_44, i_45, i_46, i_47, i_48, i_49, i_50, i_51, i_52, i_53, i_54, i_55]))), (a_8, .inl (cy 1, 90, .inl f_0)), (a_13, .inl (cy 1, 450, .inl f_1)), (a_15, .inl (cy 1, 7200, .inl f_2)), (a_16, .inl (cy 1, 3, .inl f_3)), (a_18, .inl (cy 1, 8, .inl g158)), (a_20, .inl (cy 1, 4, .inl u.2.2.2))]) [0, 2, 3, 4, 5, 6, 7, 8] [1] (n := 9) (fun _ => rfl) (by decide +kernel) (by decide +kernel) rfl (fun _ => rfl) (wr := [(a_6, .inl (cy 1, 5, .inl (mm_g [i_21, i_22, i_23, i_24, i_25])))]) rfl (fun _ => rfl) (fun _ => @rfl _ ([a_0, a_7, a_8, a_13, a_15, a_16, a_18, a_20] : List Nat)) ?_
          clear hP hD hS
          clear H locs
          intro u
          obtain ⟨n160, n161, n162, n163⟩ := u
          intro H locs hw (hP : va_P G vwCl [(a_0, .inr (12, [.int i_4, .ref a_1, .ref a_2, .ref a_3, .ref a_4, .ref a_5, .int i_5, .int i_6, .int i_7, .int i_8, .int i_9, .long j_0, .int i_10, .int i_11, .int i_12, .int i_13, .ref a_6, .ref a_7, .ref a_8, .ref a_9, .ref a_10, .ref a_11, .ref a_12, .ref a_13, .ref a_14, .ref a_15, .ref a_16, .ref a_17, .ref a_18, .int i_14, .int n160, .int n161, .int i_17, .int i_18, .int i_19, .ref a_19, .int n162, .ref a_20])), (a_6, .inl (cy 1, 5, .inl (mm_g [i_21, i_22, i_23, i_24, i_25]))), (a_7, .inl (cy 1, 30, .inl (mm_g [i_26, i_27, i_28, i_29, i_30, i_31, i_32, i_33, i_34, i_35, i_36, i_37, i_38, i_39, i_40, i_41, i_42, i_43, i_44, i_45, i_46, i_47, i_48, i_49, i_50, i_51, i_52, i_53, i_54, i_55]))), (a_8, .inl (cy 1, 90, .inl f_0)), (a_13, .inl (cy 1, 450, .inl f_1)), (a_15, .inl (cy 1, 7200, .inl f_2)), (a_16, .inl (cy 1, 3, .inl f_3)), (a_18, .inl (cy 1, 8, .inl g158)), (a_20, .inl (cy 1, 4, .inl n163))] H) (hD : va_D A [(a_0, .inr (12, [.int i_4, .ref a_1, .ref a_2, .ref a_3, .ref a_4, .ref a_5, .int i_5, .int i_6, .int i_7, .int i_8, .int i_9, .long j_0, .int i_10, .int i_11, .int i_12, .int i_13, .ref a_6, .ref a_7, .ref a_8, .ref a_9, .ref a_10, .ref a_11, .ref a_12, .ref a_13, .ref a_14, .ref a_15, .ref a_16, .ref a_17, .ref a_18, .int i_14, .int n160, .int n161, .int i_17, .int i_18, .int i_19, .ref a_19, .int n162, .ref a_20])), (a_6, .inl (cy 1, 5, .inl (mm_g [i_21, i_22, i_23, i_24, i_25]))), (a_7, .inl (cy 1, 30, .inl (mm_g [i_26, i_27, i_28, i_29, i_30, i_31, i_32, i_33, i_34, i_35, i_36, i_37, i_38, i_39, i_40, i_41, i_42, i_43, i_44, i_45, i_46, i_47, i_48, i_49, i_50, i_51, i_52, i_53, i_54, i_55]))), (a_8, .inl (cy 1, 90, .inl f_0)), (a_13, .inl (cy 1, 450, .inl f_1)), (a_15, .inl (cy 1, 7200, .inl f_2)), (a_16, .inl (cy 1, 3, .inl f_3)), (a_18, .inl (cy 1, 8, .inl g158)), (a_20, .inl (cy 1, 4, .inl n163))]) hS
          obtain ⟨v164, ev164⟩ : ∃ y : Int32, y = x72_6_146 + 1 := ⟨_, rfl⟩
          refine lv_iinc (v := v164) (lv' := [(6, .int v164), (0, .ref a_0), (1, .int 3), (2, .int i_0), (3, .int i_1), (4, .int i_2), (5, .int i_3)]) hx hb dX12_rowsFrom_102 hl (k := 0) rfl (by rw [ev164]; rfl) (by decide) rfl ?_
          clear hl
          clear ls
          intro ls hl
          have rv164 : mm_rg v164 1 10 := mm_add ev164 q156 mm_k1 (by decide) (by decide)
          have tv164 := mm_addEc ev164 q156 mm_k1 (by decide) (k := 1) (by decide)
          refine lv_goto (tgt := 72) hx hb dX12_rowsFrom_105 (by decide) ?_
          exact ih72 v164 n160 n161 n162 g158 n163 (mm_wk rv164 (by decide)) rg158 (mm_mu hm72 tv164 (by decide) (rv164).2 (by decide)) H locs hP hD hS ls (lv_sub hl [0, 1, 2, 3, 4, 5, 6] rfl)
    exact L72_151 _ 0 i_15 i_16 i_20 f_4 f_5 (mm_wk mm_k0 (by decide)) h44 (Nat.lt_succ_self _) H locs hP hD hS ls (lv_sub hl [0, 1, 2, 3, 4, 5, 6] rfl)
  · have q165 := mm_eqI (lo := 3) (hi := 3) c1.symm h4 mm_k3 (by decide)
    refine lv_aload_n hx hb dX12_rowsFrom_8 rfl (lv_at hl 0 rfl) ?_
    refine lv_iload_n hx hb dX12_rowsFrom_9 rfl (lv_at hl 2 rfl) ?_
    refine lv_iload_n hx hb dX12_rowsFrom_10 rfl (lv_at hl 3 rfl) ?_
    refine lv_iload hx hb dX12_rowsFrom_11 (lv_at hl 4 rfl) ?_
    refine lv_iload hx hb dX12_rowsFrom_13 (lv_at hl 5 rfl) ?_
    refine mm_fini (va_runV (As := [.int i_0, .int i_1, .int i_2, .int i_3]) (rest := []) ⟨hx, hb, hml, hown, hts⟩ (M211_X12_isWording l G cy H.size a_0 i_0 i_1 i_2 i_3 i_4 a_1 a_2 a_3 a_4 a_5 i_5 i_6 i_7 i_8 i_9 j_0 i_10 i_11 i_12 i_13 a_6 a_7 a_8 a_9 a_10 a_11 a_12 a_13 a_14 a_15 a_16 a_17 a_18 i_14 i_15 i_16 i_17 i_18 i_19 a_19 i_20 a_20 i_26 i_27 i_28 i_29 i_30 i_31 i_32 i_33 i_34 i_35 i_36 i_37 i_38 i_39 i_40 i_41 i_42 i_43 i_44 i_45 i_46 i_47 i_48 i_49 i_50 i_51 i_52 i_53 i_54 i_55 f_0 f_1 f_2 f_3 f_4 h0 h1 h2 h3 (mm_wk q165 (by decide)) h10 h11 h12 h13 h14 h15 h16 h17 h18 h19 h20 h21 h22 h23 h24 h25 h26 h27 h28 h29 h30 h31 h32 h33 h34 h35 h36 h37 h38 h39 h40 h41 h42 h43 h44 h45 h47 h49 h51 h53) (cwV 4 hts (mm_gV mm_w1409 mm_w1410 mm_w1411 mm_w5 mm_w1412) rfl rfl rfl hd_X12_isWording ⟨by rw [hRf]; exact Nat.le_of_ble_eq_true rfl, by rw [hRl]; exact Nat.le_of_ble_eq_true rfl⟩) (mm_preV hK hZ hS hA hP hD [0, 2, 3, 4, 5, 6, 7] rfl rfl 0 rfl rfl rfl) rfl rfl hl.1 rfl (lv_room (Nat.le_of_ble_eq_true rfl)) dX12_rowsFrom_15 ⟨by rw [hRc]; exact Nat.le_of_ble_eq_true rfl, by rw [hRs]; exact Nat.le_of_ble_eq_true rfl⟩) hP hD hS hA (fun u : Int32 × Int32 => [(a_0, .inr (12, [.int i_4, .ref a_1, .ref a_2, .ref a_3, .ref a_4, .ref a_5, .int i_5, .int i_6, .int i_7, .int i_8, .int i_9, .long j_0, .int i_10, .int i_11, .int i_12, .int i_13, .ref a_6, .ref a_7, .ref a_8, .ref a_9, .ref a_10, .ref a_11, .ref a_12, .ref a_13, .ref a_14, .ref a_15, .ref a_16, .ref a_17, .ref a_18, .int i_14, .int u.1, .int u.2, .int i_17, .int i_18, .int i_19, .ref a_19, .int i_20, .ref a_20])), (a_6, .inl (cy 1, 5, .inl (mm_g [i_21, i_22, i_23, i_24, i_25]))), (a_7, .inl (cy 1, 30, .inl (mm_g [i_26, i_27, i_28, i_29, i_30, i_31, i_32, i_33, i_34, i_35, i_36, i_37, i_38, i_39, i_40, i_41, i_42, i_43, i_44, i_45, i_46, i_47, i_48, i_49, i_50, i_51, i_52, i_53, i_54, i_55]))), (a_8, .inl (cy 1, 90, .inl f_0)), (a_13, .inl (cy 1, 450, .inl f_1)), (a_15, .inl (cy 1, 7200, .inl f_2)), (a_16, .inl (cy 1, 3, .inl f_3)), (a_18, .inl (cy 1, 8, .inl f_4)), (a_20, .inl (cy 1, 4, .inl f_5))]) [0, 2, 3, 4, 5, 6, 7] [1, 8] (n := 9) (fun _ => rfl) (by decide +kernel) (by decide +kernel) rfl (fun _ => rfl) (wr := [(a_6, .inl (cy 1, 5, .inl (mm_g [i_21, i_22, i_23, i_24, i_25]))), (a_20, .inl (cy 1, 4, .inl f_5))]) rfl (fun _ => rfl) (fun _ => @rfl _ ([a_0, a_7, a_8, a_13, a_15, a_16, a_18] : List Nat)) ?_
    clear hP hD hS
    clear H locs
    intro v168 u
    obtain ⟨n166, n167⟩ := u
    intro H locs hw (hP : va_P G vwCl [(a_0, .inr (12, [.int i_4, .ref a_1, .ref a_2, .ref a_3, .ref a_4, .ref a_5, .int i_5, .int i_6, .int i_7, .int i_8, .int i_9, .long j_0, .int i_10, .int i_11, .int i_12, .int i_13, .ref a_6, .ref a_7, .ref a_8, .ref a_9, .ref a_10, .ref a_11, .ref a_12, .ref a_13, .ref a_14, .ref a_15, .ref a_16, .ref a_17, .ref a_18, .int i_14, .int n166, .int n167, .int i_17, .int i_18, .int i_19, .ref a_19, .int i_20, .ref a_20])), (a_6, .inl (cy 1, 5, .inl (mm_g [i_21, i_22, i_23, i_24, i_25]))), (a_7, .inl (cy 1, 30, .inl (mm_g [i_26, i_27, i_28, i_29, i_30, i_31, i_32, i_33, i_34, i_35, i_36, i_37, i_38, i_39, i_40, i_41, i_42, i_43, i_44, i_45, i_46, i_47, i_48, i_49, i_50, i_51, i_52, i_53, i_54, i_55]))), (a_8, .inl (cy 1, 90, .inl f_0)), (a_13, .inl (cy 1, 450, .inl f_1)), (a_15, .inl (cy 1, 7200, .inl f_2)), (a_16, .inl (cy 1, 3, .inl f_3)), (a_18, .inl (cy 1, 8, .inl f_4)), (a_20, .inl (cy 1, 4, .inl f_5))] H) (hD : va_D A [(a_0, .inr (12, [.int i_4, .ref a_1, .ref a_2, .ref a_3, .ref a_4, .ref a_5, .int i_5, .int i_6, .int i_7, .int i_8, .int i_9, .long j_0, .int i_10, .int i_11, .int i_12, .int i_13, .ref a_6, .ref a_7, .ref a_8, .ref a_9, .ref a_10, .ref a_11, .ref a_12, .ref a_13, .ref a_14, .ref a_15, .ref a_16, .ref a_17, .ref a_18, .int i_14, .int n166, .int n167, .int i_17, .int i_18, .int i_19, .ref a_19, .int i_20, .ref a_20])), (a_6, .inl (cy 1, 5, .inl (mm_g [i_21, i_22, i_23, i_24, i_25]))), (a_7, .inl (cy 1, 30, .inl (mm_g [i_26, i_27, i_28, i_29, i_30, i_31, i_32, i_33, i_34, i_35, i_36, i_37, i_38, i_39, i_40, i_41, i_42, i_43, i_44, i_45, i_46, i_47, i_48, i_49, i_50, i_51, i_52, i_53, i_54, i_55]))), (a_8, .inl (cy 1, 90, .inl f_0)), (a_13, .inl (cy 1, 450, .inl f_1)), (a_15, .inl (cy 1, 7200, .inl f_2)), (a_16, .inl (cy 1, 3, .inl f_3)), (a_18, .inl (cy 1, 8, .inl f_4)), (a_20, .inl (cy 1, 4, .inl f_5))]) hS
    rcases hw with rfl | rfl
    · refine lv_if_ne (tgt := 22) hx hb dX12_rowsFrom_18 (by decide) (fun c169 => ?_) (fun c169 => ?_)
      · exact absurd rfl (mm_ne c169)
      · subst hAe
        rw [hQ]
        exact W.vret hx hb hr (fun t ht hW => ⟨⟨(n166, n167, i_20, f_4, f_5), rfl, h44, by rw [ht]; exact hP, hK.warm hW, hD⟩, hS.F ht⟩) hS.2.2 dX12_rowsFrom_21
    · refine lv_if_ne (tgt := 22) hx hb dX12_rowsFrom_18 (by decide) (fun c170 => ?_) (fun c170 => ?_)
      · refine lv_iconst (v := 0) hx hb dX12_rowsFrom_22 (by decide) ?_
        refine lv_istore (lv' := [(6, .int 0), (0, .ref a_0), (1, .int 3), (2, .int i_0), (3, .int i_1), (4, .int i_2), (5, .int i_3)]) hx hb dX12_rowsFrom_23 hl (by decide) rfl ?_
        clear hl
        clear ls
        intro ls hl
        have L25_207 : ∀ (n : Nat) (x25_6_206 : Int32) (z25_8_207 : Nat → Int32), mm_rg x25_6_206 0 3 → (3 - x25_6_206.toInt).toNat < n → ∀ (H : Heap) (locs : List Loc), va_P G vwCl [(a_0, .inr (12, [.int i_4, .ref a_1, .ref a_2, .ref a_3, .ref a_4, .ref a_5, .int i_5, .int i_6, .int i_7, .int i_8, .int i_9, .long j_0, .int i_10, .int i_11, .int i_12, .int i_13, .ref a_6, .ref a_7, .ref a_8, .ref a_9, .ref a_10, .ref a_11, .ref a_12, .ref a_13, .ref a_14, .ref a_15, .ref a_16, .ref a_17, .ref a_18, .int i_14, .int n166, .int n167, .int i_17, .int i_18, .int i_19, .ref a_19, .int i_20, .ref a_20])), (a_6, .inl (cy 1, 5, .inl (mm_g [i_21, i_22, i_23, i_24, i_25]))), (a_7, .inl (cy 1, 30, .inl (mm_g [i_26, i_27, i_28, i_29, i_30, i_31, i_32, i_33, i_34, i_35, i_36, i_37, i_38, i_39, i_40, i_41, i_42, i_43, i_44, i_45, i_46, i_47, i_48, i_49, i_50, i_51, i_52, i_53, i_54, i_55]))), (a_8, .inl (cy 1, 90, .inl f_0)), (a_13, .inl (cy 1, 450, .inl f_1)), (a_15, .inl (cy 1, 7200, .inl f_2)), (a_16, .inl (cy 1, 3, .inl f_3)), (a_18, .inl (cy 1, 8, .inl f_4)), (a_20, .inl (cy 1, 4, .inl z25_8_207))] H → va_D A [(a_0, .inr (12, [.int i_4, .ref a_1, .ref a_2, .ref a_3, .ref a_4, .ref a_5, .int i_5, .int i_6, .int i_7, .int i_8, .int i_9, .long j_0, .int i_10, .int i_11, .int i_12, .int i_13, .ref a_6, .ref a_7, .ref a_8, .ref a_9, .ref a_10, .ref a_11, .ref a_12, .ref a_13, .ref a_14, .ref a_15, .ref a_16, .ref a_17, .ref a_18, .int i_14, .int n166, .int n167, .int i_17, .int i_18, .int i_19, .ref a_19, .int i_20, .ref a_20])), (a_6, .inl (cy 1, 5, .inl (mm_g [i_21, i_22, i_23, i_24, i_25]))), (a_7, .inl (cy 1, 30, .inl (mm_g [i_26, i_27, i_28, i_29, i_30, i_31, i_32, i_33, i_34, i_35, i_36, i_37, i_38, i_39, i_40, i_41, i_42, i_43, i_44, i_45, i_46, i_47, i_48, i_49, i_50, i_51, i_52, i_53, i_54, i_55]))), (a_8, .inl (cy 1, 90, .inl f_0)), (a_13, .inl (cy 1, 450, .inl f_1)), (a_15, .inl (cy 1, 7200, .inl f_2)), (a_16, .inl (cy 1, 3, .inl f_3)), (a_18, .inl (cy 1, 8, .inl f_4)), (a_20, .inl (cy 1, 4, .inl z25_8_207))] → va_S A s.heap H locs → ∀ (ls : Array Slot), lv_has ls 7 [(6, .int x25_6_206), (0, .ref a_0), (1, .int 3), (2, .int i_0), (3, .int i_1), (4, .int i_2), (5, .int i_3)] → W p l e R s m args below meth c H locs 0 0 Q (F0 m 25 ls []) := by
          intro n
          induction n with
          | zero => intro x25_6_206 z25_8_207 rx25_6_206 hm; exact absurd hm (Nat.not_lt_zero _)
          | succ n ih25 =>
            intro x25_6_206 z25_8_207 rx25_6_206 hm25 H locs hP hD hS ls hl
            refine lv_iload hx hb dX12_rowsFrom_25 (lv_at hl 0 rfl) ?_
            refine lv_iload_n hx hb dX12_rowsFrom_27 rfl (lv_at hl 2 rfl) ?_
            refine lv_icmp_ge (tgt := 58) hx hb dX12_rowsFrom_28 (by decide) (fun c209 => ?_) (fun c209 => ?_)
            · have q210 := mm_leR (mm_le c209) mm_k3 rx25_6_206
              refine lv_aload_n hx hb dX12_rowsFrom_58 rfl (lv_at hl 1 rfl) ?_
              refine lv_dup hx hb dX12_rowsFrom_59 rfl ?_
              refine va_get (D := G) (ci := 12) (v := .int i_20) (C := RX12) (T := TX12) (N := 38) hx hb hts (mm_i inlX12) hown hK.1 hP 0 rfl rfl 36 (by decide) (mm_h hts mm_w1404) (fun _ h9 => h9) rfl dX12_rowsFrom_60 ?_
              refine lv_iconst (v := 1) hx hb dX12_rowsFrom_63 (by decide) ?_
              refine lv_iadd hx hb dX12_rowsFrom_64 ?_
              refine lv_topi (fun v211 ev211 => ?_)
              refine va_put (D := G) (ci := 12) (v := .int v211) (ty := tyX12 36) (C := RX12) (T := TX12) (N := 38) hx hb hts (mm_i inlX12) tyX12 tyX12_ok nmX12 hown hK.1 hP hD hS 0 rfl rfl 36 (by decide) (mm_h hts mm_w1404) (fun _ h9 => h9) rfl (tyX12_ok 36 (by decide)) rfl rfl (Nat.le_of_ble_eq_true rfl) dX12_rowsFrom_65 ?_
              clear hP hD hS
              clear H locs
              intro H locs (hP : va_P G vwCl [(a_0, .inr (12, [.int i_4, .ref a_1, .ref a_2, .ref a_3, .ref a_4, .ref a_5, .int i_5, .int i_6, .int i_7, .int i_8, .int i_9, .long j_0, .int i_10, .int i_11, .int i_12, .int i_13, .ref a_6, .ref a_7, .ref a_8, .ref a_9, .ref a_10, .ref a_11, .ref a_12, .ref a_13, .ref a_14, .ref a_15, .ref a_16, .ref a_17, .ref a_18, .int i_14, .int n166, .int n167, .int i_17, .int i_18, .int i_19, .ref a_19, .int v211, .ref a_20])), (a_6, .inl (cy 1, 5, .inl (mm_g [i_21, i_22, i_23, i_24, i_25]))), (a_7, .inl (cy 1, 30, .inl (mm_g [i_26, i_27, i_28, i_29, i_30, i_31, i_32, i_33, i_34, i_35, i_36, i_37, i_38, i_39, i_40, i_41, i_42, i_43, i_44, i_45, i_46, i_47, i_48, i_49, i_50, i_51, i_52, i_53, i_54, i_55]))), (a_8, .inl (cy 1, 90, .inl f_0)), (a_13, .inl (cy 1, 450, .inl f_1)), (a_15, .inl (cy 1, 7200, .inl f_2)), (a_16, .inl (cy 1, 3, .inl f_3)), (a_18, .inl (cy 1, 8, .inl f_4)), (a_20, .inl (cy 1, 4, .inl z25_8_207))] H) (hD : va_D A [(a_0, .inr (12, [.int i_4, .ref a_1, .ref a_2, .ref a_3, .ref a_4, .ref a_5, .int i_5, .int i_6, .int i_7, .int i_8, .int i_9, .long j_0, .int i_10, .int i_11, .int i_12, .int i_13, .ref a_6, .ref a_7, .ref a_8, .ref a_9, .ref a_10, .ref a_11, .ref a_12, .ref a_13, .ref a_14, .ref a_15, .ref a_16, .ref a_17, .ref a_18, .int i_14, .int n166, .int n167, .int i_17, .int i_18, .int i_19, .ref a_19, .int v211, .ref a_20])), (a_6, .inl (cy 1, 5, .inl (mm_g [i_21, i_22, i_23, i_24, i_25]))), (a_7, .inl (cy 1, 30, .inl (mm_g [i_26, i_27, i_28, i_29, i_30, i_31, i_32, i_33, i_34, i_35, i_36, i_37, i_38, i_39, i_40, i_41, i_42, i_43, i_44, i_45, i_46, i_47, i_48, i_49, i_50, i_51, i_52, i_53, i_54, i_55]))), (a_8, .inl (cy 1, 90, .inl f_0)), (a_13, .inl (cy 1, 450, .inl f_1)), (a_15, .inl (cy 1, 7200, .inl f_2)), (a_16, .inl (cy 1, 3, .inl f_3)), (a_18, .inl (cy 1, 8, .inl f_4)), (a_20, .inl (cy 1, 4, .inl z25_8_207))]) hS
              subst hAe
              rw [hQ]
              exact W.vret hx hb hr (fun t ht hW => ⟨⟨(n166, n167, v211, f_4, z25_8_207), rfl, h44, by rw [ht]; exact hP, hK.warm hW, hD⟩, hS.F ht⟩) hS.2.2 dX12_rowsFrom_68
            · have q212 := mm_ltL (h := 2) (mm_nle c209) rx25_6_206 mm_k3 (by decide)
              refine lv_aload_n hx hb dX12_rowsFrom_31 rfl (lv_at hl 1 rfl) ?_
              refine va_get (D := G) (ci := 12) (v := .int i_20) (C := RX12) (T := TX12) (N := 38) hx hb hts (mm_i inlX12) hown hK.1 hP 0 rfl rfl 36 (by decide) (mm_h hts mm_w1404) (fun _ h9 => h9) rfl dX12_rowsFrom_32 ?_
              refine lv_if_ne (tgt := 58) hx hb dX12_rowsFrom_35 (by decide) (fun c213 => ?_) (fun c213 => ?_)
              · refine lv_aload_n hx hb dX12_rowsFrom_58 rfl (lv_at hl 1 rfl) ?_
                refine lv_dup hx hb dX12_rowsFrom_59 rfl ?_
                refine va_get (D := G) (ci := 12) (v := .int i_20) (C := RX12) (T := TX12) (N := 38) hx hb hts (mm_i inlX12) hown hK.1 hP 0 rfl rfl 36 (by decide) (mm_h hts mm_w1404) (fun _ h9 => h9) rfl dX12_rowsFrom_60 ?_
                refine lv_iconst (v := 1) hx hb dX12_rowsFrom_63 (by decide) ?_
                refine lv_iadd hx hb dX12_rowsFrom_64 ?_
                refine lv_topi (fun v214 ev214 => ?_)
                refine va_put (D := G) (ci := 12) (v := .int v214) (ty := tyX12 36) (C := RX12) (T := TX12) (N := 38) hx hb hts (mm_i inlX12) tyX12 tyX12_ok nmX12 hown hK.1 hP hD hS 0 rfl rfl 36 (by decide) (mm_h hts mm_w1404) (fun _ h9 => h9) rfl (tyX12_ok 36 (by decide)) rfl rfl (Nat.le_of_ble_eq_true rfl) dX12_rowsFrom_65 ?_
                clear hP hD hS
                clear H locs
                intro H locs (hP : va_P G vwCl [(a_0, .inr (12, [.int i_4, .ref a_1, .ref a_2, .ref a_3, .ref a_4, .ref a_5, .int i_5, .int i_6, .int i_7, .int i_8, .int i_9, .long j_0, .int i_10, .int i_11, .int i_12, .int i_13, .ref a_6, .ref a_7, .ref a_8, .ref a_9, .ref a_10, .ref a_11, .ref a_12, .ref a_13, .ref a_14, .ref a_15, .ref a_16, .ref a_17, .ref a_18, .int i_14, .int n166, .int n167, .int i_17, .int i_18, .int i_19, .ref a_19, .int v214, .ref a_20])), (a_6, .inl (cy 1, 5, .inl (mm_g [i_21, i_22, i_23, i_24, i_25]))), (a_7, .inl (cy 1, 30, .inl (mm_g [i_26, i_27, i_28, i_29, i_30, i_31, i_32, i_33, i_34, i_35, i_36, i_37, i_38, i_39, i_40, i_41, i_42, i_43, i_44, i_45, i_46, i_47, i_48, i_49, i_50, i_51, i_52, i_53, i_54, i_55]))), (a_8, .inl (cy 1, 90, .inl f_0)), (a_13, .inl (cy 1, 450, .inl f_1)), (a_15, .inl (cy 1, 7200, .inl f_2)), (a_16, .inl (cy 1, 3, .inl f_3)), (a_18, .inl (cy 1, 8, .inl f_4)), (a_20, .inl (cy 1, 4, .inl z25_8_207))] H) (hD : va_D A [(a_0, .inr (12, [.int i_4, .ref a_1, .ref a_2, .ref a_3, .ref a_4, .ref a_5, .int i_5, .int i_6, .int i_7, .int i_8, .int i_9, .long j_0, .int i_10, .int i_11, .int i_12, .int i_13, .ref a_6, .ref a_7, .ref a_8, .ref a_9, .ref a_10, .ref a_11, .ref a_12, .ref a_13, .ref a_14, .ref a_15, .ref a_16, .ref a_17, .ref a_18, .int i_14, .int n166, .int n167, .int i_17, .int i_18, .int i_19, .ref a_19, .int v214, .ref a_20])), (a_6, .inl (cy 1, 5, .inl (mm_g [i_21, i_22, i_23, i_24, i_25]))), (a_7, .inl (cy 1, 30, .inl (mm_g [i_26, i_27, i_28, i_29, i_30, i_31, i_32, i_33, i_34, i_35, i_36, i_37, i_38, i_39, i_40, i_41, i_42, i_43, i_44, i_45, i_46, i_47, i_48, i_49, i_50, i_51, i_52, i_53, i_54, i_55]))), (a_8, .inl (cy 1, 90, .inl f_0)), (a_13, .inl (cy 1, 450, .inl f_1)), (a_15, .inl (cy 1, 7200, .inl f_2)), (a_16, .inl (cy 1, 3, .inl f_3)), (a_18, .inl (cy 1, 8, .inl f_4)), (a_20, .inl (cy 1, 4, .inl z25_8_207))]) hS
                subst hAe
                rw [hQ]
                exact W.vret hx hb hr (fun t ht hW => ⟨⟨(n166, n167, v214, f_4, z25_8_207), rfl, h44, by rw [ht]; exact hP, hK.warm hW, hD⟩, hS.F ht⟩) hS.2.2 dX12_rowsFrom_68
              · have q215 := mm_eqI (lo := 0) (hi := 0) c213 (mm_top i_20) mm_k0 (by decide)
                refine lv_aload_n hx hb dX12_rowsFrom_38 rfl (lv_at hl 1 rfl) ?_
                refine va_get (D := G) (ci := 12) (v := .ref a_20) (C := RX12) (T := TX12) (N := 38) hx hb hts (mm_i inlX12) hown hK.1 hP 0 rfl rfl 37 (by decide) (mm_h hts mm_w162) (fun _ h9 => h9) rfl dX12_rowsFrom_39 ?_
                refine lv_iload hx hb dX12_rowsFrom_42 (lv_at hl 0 rfl) ?_
                refine lv_aload_n hx hb dX12_rowsFrom_44 rfl (lv_at hl 1 rfl) ?_
                refine va_get (D := G) (ci := 12) (v := .ref a_18) (C := RX12) (T := TX12) (N := 38) hx hb hts (mm_i inlX12) hown hK.1 hP 0 rfl rfl 28 (by decide) (mm_h hts mm_w160) (fun _ h9 => h9) rfl dX12_rowsFrom_45 ?_
                refine lv_iload hx hb dX12_rowsFrom_48 (lv_at hl 0 rfl) ?_
                refine va_iald hx hb hK.1 hP 7 1 rfl rfl (mm_in q212 (by decide)) dX12_rowsFrom_50 ?_
                refine lv_topi (fun v216 ev216 => ?_)
                have rv216 : mm_rg v216 0 9 := mm_eqv ev216 (h44 _)
                refine va_iast hx hb hK.1 hP hD hS 8 1 rfl rfl (mm_in q212 (by decide)) dX12_rowsFrom_51 ?_
                clear hP hD hS
                clear H locs
                obtain ⟨g217, eg217⟩ : ∃ z : Nat → Int32, z = upd z25_8_207 x25_6_206.toNatClampNeg v216 := ⟨_, rfl⟩
                rw [← eg217]
                intro H locs (hP : va_P G vwCl [(a_0, .inr (12, [.int i_4, .ref a_1, .ref a_2, .ref a_3, .ref a_4, .ref a_5, .int i_5, .int i_6, .int i_7, .int i_8, .int i_9, .long j_0, .int i_10, .int i_11, .int i_12, .int i_13, .ref a_6, .ref a_7, .ref a_8, .ref a_9, .ref a_10, .ref a_11, .ref a_12, .ref a_13, .ref a_14, .ref a_15, .ref a_16, .ref a_17, .ref a_18, .int i_14, .int n166, .int n167, .int i_17, .int i_18, .int i_19, .ref a_19, .int i_20, .ref a_20])), (a_6, .inl (cy 1, 5, .inl (mm_g [i_21, i_22, i_23, i_24, i_25]))), (a_7, .inl (cy 1, 30, .inl (mm_g [i_26, i_27, i_28, i_29, i_30, i_31, i_32, i_33, i_34, i_35, i_36, i_37, i_38, i_39, i_40, i_41, i_42, i_43, i_44, i_45, i_46, i_47, i_48, i_49, i_50, i_51, i_52, i_53, i_54, i_55]))), (a_8, .inl (cy 1, 90, .inl f_0)), (a_13, .inl (cy 1, 450, .inl f_1)), (a_15, .inl (cy 1, 7200, .inl f_2)), (a_16, .inl (cy 1, 3, .inl f_3)), (a_18, .inl (cy 1, 8, .inl f_4)), (a_20, .inl (cy 1, 4, .inl g217))] H) (hD : va_D A [(a_0, .inr (12, [.int i_4, .ref a_1, .ref a_2, .ref a_3, .ref a_4, .ref a_5, .int i_5, .int i_6, .int i_7, .int i_8, .int i_9, .long j_0, .int i_10, .int i_11, .int i_12, .int i_13, .ref a_6, .ref a_7, .ref a_8, .ref a_9, .ref a_10, .ref a_11, .ref a_12, .ref a_13, .ref a_14, .ref a_15, .ref a_16, .ref a_17, .ref a_18, .int i_14, .int n166, .int n167, .int i_17, .int i_18, .int i_19, .ref a_19, .int i_20, .ref a_20])), (a_6, .inl (cy 1, 5, .inl (mm_g [i_21, i_22, i_23, i_24, i_25]))), (a_7, .inl (cy 1, 30, .inl (mm_g [i_26, i_27, i_28, i_29, i_30, i_31, i_32, i_33, i_34, i_35, i_36, i_37, i_38, i_39, i_40, i_41, i_42, i_43, i_44, i_45, i_46, i_47, i_48, i_49, i_50, i_51, i_52, i_53, i_54, i_55]))), (a_8, .inl (cy 1, 90, .inl f_0)), (a_13, .inl (cy 1, 450, .inl f_1)), (a_15, .inl (cy 1, 7200, .inl f_2)), (a_16, .inl (cy 1, 3, .inl f_3)), (a_18, .inl (cy 1, 8, .inl f_4)), (a_20, .inl (cy 1, 4, .inl g217))]) hS
                obtain ⟨v218, ev218⟩ : ∃ y : Int32, y = x25_6_206 + 1 := ⟨_, rfl⟩
                refine lv_iinc (v := v218) (lv' := [(6, .int v218), (0, .ref a_0), (1, .int 3), (2, .int i_0), (3, .int i_1), (4, .int i_2), (5, .int i_3)]) hx hb dX12_rowsFrom_52 hl (k := 0) rfl (by rw [ev218]; rfl) (by decide) rfl ?_
                clear hl
                clear ls
                intro ls hl
                have rv218 : mm_rg v218 1 3 := mm_add ev218 q212 mm_k1 (by decide) (by decide)
                have tv218 := mm_addEc ev218 q212 mm_k1 (by decide) (k := 1) (by decide)
                refine lv_goto (tgt := 25) hx hb dX12_rowsFrom_55 (by decide) ?_
                exact ih25 v218 g217 (mm_wk rv218 (by decide)) (mm_mu hm25 tv218 (by decide) (rv218).2 (by decide)) H locs hP hD hS ls (lv_sub hl [0, 1, 2, 3, 4, 5, 6] rfl)
        exact L25_207 _ 0 f_5 (mm_wk mm_k0 (by decide)) (Nat.lt_succ_self _) H locs hP hD hS ls (lv_sub hl [0, 1, 2, 3, 4, 5, 6] rfl)
      · exact mm_eqN c170.symm mm_k0 mm_k1 (by decide)

set_option maxHeartbeats 4000000 in
set_option maxRecDepth 100000 in
theorem M225_X12_rowsFrom (l : Launch) (G : va_G) (cy : Nat → ClassId) (sz : Nat) (a_0 : Nat) (i_0 : Int32) (i_1 : Int32) (i_2 : Int32) (i_3 : Int32) (i_4 : Int32) (a_1 : Nat) (a_2 : Nat) (a_3 : Nat) (a_4 : Nat) (a_5 : Nat) (i_5 : Int32) (i_6 : Int32) (i_7 : Int32) (i_8 : Int32) (i_9 : Int32) (j_0 : Int64) (i_10 : Int32) (i_11 : Int32) (i_12 : Int32) (i_13 : Int32) (a_6 : Nat) (a_7 : Nat) (a_8 : Nat) (a_9 : Nat) (a_10 : Nat) (a_11 : Nat) (a_12 : Nat) (a_13 : Nat) (a_14 : Nat) (a_15 : Nat) (a_16 : Nat) (a_17 : Nat) (a_18 : Nat) (i_14 : Int32) (i_15 : Int32) (i_16 : Int32) (i_17 : Int32) (i_18 : Int32) (i_19 : Int32) (a_19 : Nat) (i_20 : Int32) (a_20 : Nat) (i_21 : Int32) (i_22 : Int32) (i_23 : Int32) (i_24 : Int32) (i_25 : Int32) (i_26 : Int32) (i_27 : Int32) (i_28 : Int32) (i_29 : Int32) (i_30 : Int32) (i_31 : Int32) (i_32 : Int32) (i_33 : Int32) (i_34 : Int32) (i_35 : Int32) (i_36 : Int32) (i_37 : Int32) (i_38 : Int32) (i_39 : Int32) (i_40 : Int32) (i_41 : Int32) (i_42 : Int32) (i_43 : Int32) (i_44 : Int32) (i_45 : Int32) (i_46 : Int32) (i_47 : Int32) (i_48 : Int32) (i_49 : Int32) (i_50 : Int32) (i_51 : Int32) (i_52 : Int32) (i_53 : Int32) (i_54 : Int32) (i_55 : Int32) (f_0 : Nat → Int32) (f_1 : Nat → Int32) (f_2 : Nat → Int32) (f_3 : Nat → Int32) (f_4 : Nat → Int32) (f_5 : Nat → Int32) (h0 : mm_rg i_0 0 2) (h1 : mm_rg i_1 0 1000000000) (h2 : mm_rg i_2 1 7) (h3 : mm_rg i_3 0 9999) (h4 : mm_rg i_14 2 4) (h5 : mm_rg i_21 0 601) (h6 : mm_rg i_22 0 601) (h7 : mm_rg i_23 0 601) (h8 : mm_rg i_24 0 601) (h9 : mm_rg i_25 0 601) (h10 : mm_rg i_26 0 10) (h11 : mm_rg i_27 0 99) (h12 : mm_rg i_28 0 9) (h13 : mm_rg i_29 0 3) (h14 : mm_rg i_30 0 6) (h15 : mm_rg i_31 0 30) (h16 : mm_rg i_32 0 10) (h17 : mm_rg i_33 0 99) (h18 : mm_rg i_34 0 9) (h19 : mm_rg i_35 0 3) (h20 : mm_rg i_36 0 6) (h21 : mm_rg i_37 0 30) (h22 : mm_rg i_38 0 10) (h23 : mm_rg i_39 0 99) (h24 : mm_rg i_40 0 9) (h25 : mm_rg i_41 0 3) (h26 : mm_rg i_42 0 6) (h27 : mm_rg i_43 0 30) (h28 : mm_rg i_44 0 10) (h29 : mm_rg i_45 0 99) (h30 : mm_rg i_46 0 9) (h31 : mm_rg i_47 0 3) (h32 : mm_rg i_48 0 6) (h33 : mm_rg i_49 0 30) (h34 : mm_rg i_50 0 10) (h35 : mm_rg i_51 0 99) (h36 : mm_rg i_52 0 9) (h37 : mm_rg i_53 0 3) (h38 : mm_rg i_54 0 6) (h39 : mm_rg i_55 0 30) (h40 : mm_ar f_0 0 99) (h41 : mm_ar f_1 (-1) 99) (h42 : mm_ar f_2 0 9) (h43 : mm_ar f_3 0 210) (h44 : mm_ar f_4 0 9) (h45 : mm_acs f_1 0 i_28 i_29 i_31) (h46 : mm_tl i_21 i_29 i_30) (h47 : mm_acs f_1 1 i_34 i_35 i_37) (h48 : mm_tl i_22 i_35 i_36) (h49 : mm_acs f_1 2 i_40 i_41 i_43) (h50 : mm_tl i_23 i_41 i_42) (h51 : mm_acs f_1 3 i_46 i_47 i_49) (h52 : mm_tl i_24 i_47 i_48) (h53 : mm_f1 f_3 i_0)  : mm_CV l yX12_rowsFrom (mm_ws yX12_rowsFrom cX12_rowsFrom 7 (none)) ({ frames := 5, cells := 0, slots := 0, locals := 127 } : Room) G cy sz [(a_0, .inr (12, [.int i_4, .ref a_1, .ref a_2, .ref a_3, .ref a_4, .ref a_5, .int i_5, .int i_6, .int i_7, .int i_8, .int i_9, .long j_0, .int i_10, .int i_11, .int i_12, .int i_13, .ref a_6, .ref a_7, .ref a_8, .ref a_9, .ref a_10, .ref a_11, .ref a_12, .ref a_13, .ref a_14, .ref a_15, .ref a_16, .ref a_17, .ref a_18, .int i_14, .int i_15, .int i_16, .int i_17, .int i_18, .int i_19, .ref a_19, .int i_20, .ref a_20])), (a_6, .inl (cy 1, 5, .inl (mm_g [i_21, i_22, i_23, i_24, i_25]))), (a_7, .inl (cy 1, 30, .inl (mm_g [i_26, i_27, i_28, i_29, i_30, i_31, i_32, i_33, i_34, i_35, i_36, i_37, i_38, i_39, i_40, i_41, i_42, i_43, i_44, i_45, i_46, i_47, i_48, i_49, i_50, i_51, i_52, i_53, i_54, i_55]))), (a_8, .inl (cy 1, 90, .inl f_0)), (a_13, .inl (cy 1, 450, .inl f_1)), (a_15, .inl (cy 1, 7200, .inl f_2)), (a_16, .inl (cy 1, 3, .inl f_3)), (a_18, .inl (cy 1, 8, .inl f_4)), (a_20, .inl (cy 1, 4, .inl f_5))] [.ref a_0, .int 2, .int i_0, .int i_1, .int i_2, .int i_3] (fun u : Int32 × Int32 × Int32 × (Nat → Int32) × (Nat → Int32) => [(a_0, .inr (12, [.int i_4, .ref a_1, .ref a_2, .ref a_3, .ref a_4, .ref a_5, .int i_5, .int i_6, .int i_7, .int i_8, .int i_9, .long j_0, .int i_10, .int i_11, .int i_12, .int i_13, .ref a_6, .ref a_7, .ref a_8, .ref a_9, .ref a_10, .ref a_11, .ref a_12, .ref a_13, .ref a_14, .ref a_15, .ref a_16, .ref a_17, .ref a_18, .int i_14, .int u.1, .int u.2.1, .int i_17, .int i_18, .int i_19, .ref a_19, .int u.2.2.1, .ref a_20])), (a_6, .inl (cy 1, 5, .inl (mm_g [i_21, i_22, i_23, i_24, i_25]))), (a_7, .inl (cy 1, 30, .inl (mm_g [i_26, i_27, i_28, i_29, i_30, i_31, i_32, i_33, i_34, i_35, i_36, i_37, i_38, i_39, i_40, i_41, i_42, i_43, i_44, i_45, i_46, i_47, i_48, i_49, i_50, i_51, i_52, i_53, i_54, i_55]))), (a_8, .inl (cy 1, 90, .inl f_0)), (a_13, .inl (cy 1, 450, .inl f_1)), (a_15, .inl (cy 1, 7200, .inl f_2)), (a_16, .inl (cy 1, 3, .inl f_3)), (a_18, .inl (cy 1, 8, .inl u.2.2.2.1)), (a_20, .inl (cy 1, 4, .inl u.2.2.2.2))]) (fun u : Int32 × Int32 × Int32 × (Nat → Int32) × (Nat → Int32) => mm_ar u.2.2.2.1 0 9) 0 0 := by
  refine mm_begin (lv := [(0, .ref a_0), (1, .int 2), (2, .int i_0), (3, .int i_1), (4, .int i_2), (5, .int i_3)]) (by decide) (Nat.le_of_ble_eq_true rfl) rfl ?_
  intro p e s m below meth c A ls R args Q H locs hRe hQ hAe hx hb hr hlocks hml hown hnm hts hsz hA hS hP hK hD hZ hl
  have hRf : R.frames = 5 := by rw [hRe]
  have hRl : R.locals = 127 := by rw [hRe]
  have hRc : R.cells = 0 := by rw [hRe]
  have hRs : R.slots = 0 := by rw [hRe]
  refine lv_iload_n hx hb dX12_rowsFrom_0 rfl (lv_at hl 1 rfl) ?_
  refine lv_aload_n hx hb dX12_rowsFrom_1 rfl (lv_at hl 0 rfl) ?_
  refine va_get (D := G) (ci := 12) (v := .int i_14) (C := RX12) (T := TX12) (N := 38) hx hb hts (mm_i inlX12) hown hK.1 hP 0 rfl rfl 29 (by decide) (mm_h hts mm_w860) (fun _ h9 => h9) rfl dX12_rowsFrom_2 ?_
  refine lv_icmp_ne (tgt := 69) hx hb dX12_rowsFrom_5 (by decide) (fun c1 => ?_) (fun c1 => ?_)
  · have q2 := mm_neL (lo := 3) (Ne.symm (mm_ne c1)) h4 mm_k2 (by decide) (by decide)
    refine lv_iconst (v := 0) hx hb dX12_rowsFrom_69 (by decide) ?_
    refine lv_istore (lv' := [(6, .int 0), (0, .ref a_0), (1, .int 2), (2, .int i_0), (3, .int i_1), (4, .int i_2), (5, .int i_3)]) hx hb dX12_rowsFrom_70 hl (by decide) rfl ?_
    clear hl
    clear ls
    intro ls hl
    have L72_175 : ∀ (n : Nat) (x72_6_170 : Int32) (y72_0_30_171 : Int32) (y72_0_31_172 : Int32) (y72_0_36_173 : Int32) (z72_7_174 : Nat → Int32) (z72_8_175 : Nat → Int32), mm_rg x72_6_170 0 10 → mm_ar z72_7_174 0 9 → (10 - x72_6_170.toInt).toNat < n → ∀ (H : Heap) (locs : List Loc), va_P G vwCl [(a_0, .inr (12, [.int i_4, .ref a_1, .ref a_2, .ref a_3, .ref a_4, .ref a_5, .int i_5, .int i_6, .int i_7, .int i_8, .int i_9, .long j_0, .int i_10, .int i_11, .int i_12, .int i_13, .ref a_6, .ref a_7, .ref a_8, .ref a_9, .ref a_10, .ref a_11, .ref a_12, .ref a_13, .ref a_14, .ref a_15, .ref a_16, .ref a_17, .ref a_18, .int i_14, .int y72_0_30_171, .int y72_0_31_172, .int i_17, .int i_18, .int i_19, .ref a_19, .int y72_0_36_173, .ref a_20])), (a_6, .inl (cy 1, 5, .inl (mm_g [i_21, i_22, i_23, i_24, i_25]))), (a_7, .inl (cy 1, 30, .inl (mm_g [i_26, i_27, i_28, i_29, i_30, i_31, i_32, i_33, i_34, i_35, i_36, i_37, i_38, i_39, i_40, i_41, i_42, i_43, i_44, i_45, i_46, i_47, i_48, i_49, i_50, i_51, i_52, i_53, i_54, i_55]))), (a_8, .inl (cy 1, 90, .inl f_0)), (a_13, .inl (cy 1, 450, .inl f_1)), (a_15, .inl (cy 1, 7200, .inl f_2)), (a_16, .inl (cy 1, 3, .inl f_3)), (a_18, .inl (cy 1, 8, .inl z72_7_174)), (a_20, .inl (cy 1, 4, .inl z72_8_175))] H → va_D A [(a_0, .inr (12, [.int i_4, .ref a_1, .ref a_2, .ref a_3, .ref a_4, .ref a_5, .int i_5, .int i_6, .int i_7, .int i_8, .int i_9, .long j_0, .int i_10, .int i_11, .int i_12, .int i_13, .ref a_6, .ref a_7, .ref a_8, .ref a_9, .ref a_10, .ref a_11, .ref a_12, .ref a_13, .ref a_14, .ref a_15, .ref a_16, .ref a_17, .ref a_18, .int i_14, .int y72_0_30_171, .int y72_0_31_172, .int i_17, .int i_18, .int i_19, .ref a_19, .int y72_0_36_173, .ref a_20])), (a_6, .inl (cy 1, 5, .inl (mm_g [i_21, i_22, i_23, i_24, i_25]))), (a_7, .inl (cy 1, 30, .inl (mm_g [i_26, i_27, i_28, i_29, i_30, i_31, i_32, i_33, i_34, i_35, i_36, i_37, i_38, i_39, i_40, i_41, i_42, i_43, i_44, i_45, i_46, i_47, i_48, i_49, i_50, i_51, i_52, i_53, i_54, i_55]))), (a_8, .inl (cy 1, 90, .inl f_0)), (a_13, .inl (cy 1, 450, .inl f_1)), (a_15, .inl (cy 1, 7200, .inl f_2)), (a_16, .inl (cy 1, 3, .inl f_3)), (a_18, .inl (cy 1, 8, .inl z72_7_174)), (a_20, .inl (cy 1, 4, .inl z72_8_175))] → va_S A s.heap H locs → ∀ (ls : Array Slot), lv_has ls 7 [(6, .int x72_6_170), (0, .ref a_0), (1, .int 2), (2, .int i_0), (3, .int i_1), (4, .int i_2), (5, .int i_3)] → W p l e R s m args below meth c H locs 0 0 Q (F0 m 72 ls []) := by
      intro n
      induction n with
      | zero => intro x72_6_170 y72_0_30_171 y72_0_31_172 y72_0_36_173 z72_7_174 z72_8_175 rx72_6_170 rz72_7_174 hm; exact absurd hm (Nat.not_lt_zero _)
      | succ n ih72 =>
        intro x72_6_170 y72_0_30_171 y72_0_31_172 y72_0_36_173 z72_7_174 z72_8_175 rx72_6_170 rz72_7_174 hm72 H locs hP hD hS ls hl
        refine lv_iload hx hb dX12_rowsFrom_72 (lv_at hl 0 rfl) ?_
        refine lv_aload_n hx hb dX12_rowsFrom_74 rfl (lv_at hl 1 rfl) ?_
        refine mm_finir (va_runV (As := []) (rest := [.int x72_6_170]) ⟨hx, hb, hml, hown, hts⟩ (M121_X12_words l G cy H.size a_0 i_4 a_1 a_2 a_3 a_4 a_5 i_5 i_6 i_7 i_8 i_9 j_0 i_10 i_11 i_12 i_13 a_6 a_7 a_8 a_9 a_10 a_11 a_12 a_13 a_14 a_15 a_16 a_17 a_18 i_14 y72_0_30_171 y72_0_31_172 i_17 i_18 i_19 a_19 y72_0_36_173 a_20 i_21 i_22 i_23 i_24 i_25 i_26 i_27 i_28 i_29 i_30 i_31 i_32 i_33 i_34 i_35 i_36 i_37 i_38 i_39 i_40 i_41 i_42 i_43 i_44 i_45 i_46 i_47 i_48 i_49 i_50 i_51 i_52 i_53 i_54 i_55 h5 h6 h7 h8 h9 h10 h11 h12 h13 h14 h15 h16 h17 h18 h19 h20 h21 h22 h23 h24 h25 h26 h27 h28 h29 h30 h31 h32 h33 h34 h35 h36 h37 h38 h39 h46 h48 h50 h52) (cwV 0 hts (mm_gV mm_w649 mm_w650 mm_w651 mm_w5 mm_w652) rfl rfl rfl hd_X12_words ⟨by rw [hRf]; exact Nat.le_of_ble_eq_true rfl, by rw [hRl]; exact Nat.le_of_ble_eq_true rfl⟩) (mm_preV hK hZ hS hA hP hD [0, 1, 2] rfl rfl 0 rfl rfl rfl) rfl rfl hl.1 rfl (lv_room (Nat.le_of_ble_eq_true rfl)) dX12_rowsFrom_75 ⟨by rw [hRc]; exact Nat.le_of_ble_eq_true rfl, by rw [hRs]; exact Nat.le_of_ble_eq_true rfl⟩) hP hD hS hA [0, 1, 2] rfl (fun _ => rfl) ?_
        clear hP hD hS
        clear H locs
        intro v177 _u H locs hw hP hD hS
        have w178 := hw
        refine lv_icmp_ge (tgt := 108) hx hb dX12_rowsFrom_78 (by decide) (fun c179 => ?_) (fun c179 => ?_)
        · subst hAe
          rw [hQ]
          exact W.vret hx hb hr (fun t ht hW => ⟨⟨(y72_0_30_171, y72_0_31_172, y72_0_36_173, z72_7_174, z72_8_175), rfl, rz72_7_174, by rw [ht]; exact hP, hK.warm hW, hD⟩, hS.F ht⟩) hS.2.2 dX12_rowsFrom_108
        · have q180 := mm_ltL (h := 9) (mm_nle c179) rx72_6_170 w178 (by decide)
          have q181 := mm_ltR (lo := 1) (mm_nle c179) rx72_6_170 w178 (by decide)
          refine lv_aload_n hx hb dX12_rowsFrom_81 rfl (lv_at hl 1 rfl) ?_
          refine va_get (D := G) (ci := 12) (v := .ref a_18) (C := RX12) (T := TX12) (N := 38) hx hb hts (mm_i inlX12) hown hK.1 hP 0 rfl rfl 28 (by decide) (mm_h hts mm_w160) (fun _ h9 => h9) rfl dX12_rowsFrom_82 ?_
          refine lv_iload_n hx hb dX12_rowsFrom_85 rfl (lv_at hl 2 rfl) ?_
          refine lv_iload hx hb dX12_rowsFrom_86 (lv_at hl 0 rfl) ?_
          refine va_iast hx hb hK.1 hP hD hS 7 1 rfl rfl (mm_in mm_k2 (by decide)) dX12_rowsFrom_88 ?_
          clear hP hD hS
          clear H locs
          obtain ⟨g182, eg182⟩ : ∃ z : Nat → Int32, z = upd z72_7_174 (2 : Int32).toNatClampNeg x72_6_170 := ⟨_, rfl⟩
          rw [← eg182]
          intro H locs (hP : va_P G vwCl [(a_0, .inr (12, [.int i_4, .ref a_1, .ref a_2, .ref a_3, .ref a_4, .ref a_5, .int i_5, .int i_6, .int i_7, .int i_8, .int i_9, .long j_0, .int i_10, .int i_11, .int i_12, .int i_13, .ref a_6, .ref a_7, .ref a_8, .ref a_9, .ref a_10, .ref a_11, .ref a_12, .ref a_13, .ref a_14, .ref a_15, .ref a_16, .ref a_17, .ref a_18, .int i_14, .int y72_0_30_171, .int y72_0_31_172, .int i_17, .int i_18, .int i_19, .ref a_19, .int y72_0_36_173, .ref a_20])), (a_6, .inl (cy 1, 5, .inl (mm_g [i_21, i_22, i_23, i_24, i_25]))), (a_7, .inl (cy 1, 30, .inl (mm_g [i_26, i_27, i_28, i_29, i_30, i_31, i_32, i_33, i_34, i_35, i_36, i_37, i_38, i_39, i_40, i_41, i_42, i_43, i_44, i_45, i_46, i_47, i_48, i_49, i_50, i_51, i_52, i_53, i_54, i_55]))), (a_8, .inl (cy 1, 90, .inl f_0)), (a_13, .inl (cy 1, 450, .inl f_1)), (a_15, .inl (cy 1, 7200, .inl f_2)), (a_16, .inl (cy 1, 3, .inl f_3)), (a_18, .inl (cy 1, 8, .inl g182)), (a_20, .inl (cy 1, 4, .inl z72_8_175))] H) (hD : va_D A [(a_0, .inr (12, [.int i_4, .ref a_1, .ref a_2, .ref a_3, .ref a_4, .ref a_5, .int i_5, .int i_6, .int i_7, .int i_8, .int i_9, .long j_0, .int i_10, .int i_11, .int i_12, .int i_13, .ref a_6, .ref a_7, .ref a_8, .ref a_9, .ref a_10, .ref a_11, .ref a_12, .ref a_13, .ref a_14, .ref a_15, .ref a_16, .ref a_17, .ref a_18, .int i_14, .int y72_0_30_171, .int y72_0_31_172, .int i_17, .int i_18, .int i_19, .ref a_19, .int y72_0_36_173, .ref a_20])), (a_6, .inl (cy 1, 5, .inl (mm_g [i_21, i_22, i_23, i_24, i_25]))), (a_7, .inl (cy 1, 30, .inl (mm_g [i_26, i_27, i_28, i_29, i_30, i_31, i_32, i_33, i_34, i_35, i_36, i_37, i_38, i_39, i_40, i_41, i_42, i_43, i_44, i_45, i_46, i_47, i_48, i_49, i_50, i_51, i_52, i_53, i_54, i_55]))), (a_8, .inl (cy 1, 90, .inl f_0)), (a_13, .inl (cy 1, 450, .inl f_1)), (a_15, .inl (cy 1, 7200, .inl f_2)), (a_16, .inl (cy 1, 3, .inl f_3)), (a_18, .inl (cy 1, 8, .inl g182)), (a_20, .inl (cy 1, 4, .inl z72_8_175))]) hS
          have rg182 : mm_ar g182 0 9 := by rw [eg182]; exact mm_ar_upd (mm_ar_wk rz72_7_174 (by decide)) (mm_wk q180 (by decide)) _
          refine lv_aload_n hx hb dX12_rowsFrom_89 rfl (lv_at hl 1 rfl) ?_
          refine lv_iload_n hx hb dX12_rowsFrom_90 rfl (lv_at hl 2 rfl) ?_
          refine lv_iconst (v := 1) hx hb dX12_rowsFrom_91 (by decide) ?_
          refine lv_iadd hx hb dX12_rowsFrom_92 ?_
          refine lv_topi (fun v183 ev183 => ?_)
          obtain rfl : v183 = 3 := ev183.trans (by decide)
          refine lv_iload_n hx hb dX12_rowsFrom_93 rfl (lv_at hl 3 rfl) ?_
          refine lv_iload_n hx hb dX12_rowsFrom_94 rfl (lv_at hl 4 rfl) ?_
          refine lv_iload hx hb dX12_rowsFrom_95 (lv_at hl 5 rfl) ?_
          refine lv_iload hx hb dX12_rowsFrom_97 (lv_at hl 6 rfl) ?_
          refine mm_finv (va_runV (As := [.int 3, .int i_0, .int i_1, .int i_2, .int i_3]) (rest := []) ⟨hx, hb, hml, hown, hts⟩ (M224_X12_rowsFrom l G cy H.size a_0 i_0 i_1 i_2 i_3 i_4 a_1 a_2 a_3 a_4 a_5 i_5 i_6 i_7 i_8 i_9 j_0 i_10 i_11 i_12 i_13 a_6 a_7 a_8 a_9 a_10 a_11 a_12 a_13 a_14 a_15 a_16 a_17 a_18 i_14 y72_0_30_171 y72_0_31_172 i_17 i_18 i_19 a_19 y72_0_36_173 a_20 i_21 i_22 i_23 i_24 i_25 i_26 i_27 i_28 i_29 i_30 i_31 i_32 i_33 i_34 i_35 i_36 i_37 i_38 i_39 i_40 i_41 i_42 i_43 i_44 i_45 i_46 i_47 i_48 i_49 i_50 i_51 i_52 i_53 i_54 i_55 f_0 f_1 f_2 f_3 g182 z72_8_175 h0 h1 h2 h3 q2 h5 h6 h7 h8 h9 h10 h11 h12 h13 h14 h15 h16 h17 h18 h19 h20 h21 h22 h23 h24 h25 h26 h27 h28 h29 h30 h31 h32 h33 h34 h35 h36 h37 h38 h39 h40 h41 h42 h43 rg182 h45 h46 h47 h48 h49 h50 h51 h52 h53) (cwV 5 hts (mm_gV mm_w1405 mm_w1406 mm_w1407 mm_w5 mm_w1408) rfl rfl rfl hd_X12_rowsFrom ⟨by rw [hRf]; exact Nat.le_of_ble_eq_true rfl, by rw [hRl]; exact Nat.le_of_ble_eq_true rfl⟩) (mm_preV hK hZ hS hA hP hD [0, 1, 2, 3, 4, 5, 6, 7, 8] rfl rfl 0 rfl rfl rfl) rfl rfl hl.1 rfl (lv_room (Nat.le_of_ble_eq_true rfl)) dX12_rowsFrom_99 ⟨by rw [hRc]; exact Nat.le_of_ble_eq_true rfl, by rw [hRs]; exact Nat.le_of_ble_eq_true rfl⟩) hP hD hS hA (fun u : Int32 × Int32 × Int32 × (Nat → Int32) × (Nat → Int32) => [(a_0, .inr (12, [.int i_4, .ref a_1, .ref a_2, .ref a_3, .ref a_4, .ref a_5, .int i_5, .int i_6, .int i_7, .int i_8, .int i_9, .long j_0, .int i_10, .int i_11, .int i_12, .int i_13, .ref a_6, .ref a_7, .ref a_8, .ref a_9, .ref a_10, .ref a_11, .ref a_12, .ref a_13, .ref a_14, .ref a_15, .ref a_16, .ref a_17, .ref a_18, .int i_14, .int u.1, .int u.2.1, .int i_17, .int i_18, .int i_19, .ref a_19, .int u.2.2.1, .ref a_20])), (a_6, .inl (cy 1, 5, .inl (mm_g [i_21, i_22, i_23, i_24, i_25]))), (a_7, .inl (cy 1, 30, .inl (mm_g [i_26, i_27, i_28, i_29, i_30, i_31, i_32, i_33, i_34, i_35, i_36, i_37, i_38, i_39, i_40, i_41, i_42, i_43, i_44, i_45, i_46, i_47, i_48, i_49, i_50, i_51, i_52, i_53, i_54, i_55]))), (a_8, .inl (cy 1, 90, .inl f_0)), (a_13, .inl (cy 1, 450, .inl f_1)), (a_15, .inl (cy 1, 7200, .inl f_2)), (a_16, .inl (cy 1, 3, .inl f_3)), (a_18, .inl (cy 1, 8, .inl u.2.2.2.1)), (a_20, .inl (cy 1, 4, .inl u.2.2.2.2))]) [0, 1, 2, 3, 4, 5, 6, 7, 8] [] (n := 9) (fun _ => rfl) (by decide +kernel) (by decide +kernel) rfl (fun _ => rfl) (wr := []) rfl (fun _ => rfl) (fun _ => @rfl _ ([a_0, a_6, a_7, a_8, a_13, a_15, a_16, a_18, a_20] : List Nat)) ?_
          clear hP hD hS
          clear H locs
          intro u
          obtain ⟨n184, n185, n186, n187, n188⟩ := u
          intro H locs hw (hP : va_P G vwCl [(a_0, .inr (12, [.int i_4, .ref a_1, .ref a_2, .ref a_3, .ref a_4, .ref a_5, .int i_5, .int i_6, .int i_7, .int i_8, .int i_9, .long j_0, .int i_10, .int i_11, .int i_12, .int i_13, .ref a_6, .ref a_7, .ref a_8, .ref a_9, .ref a_10, .ref a_11, .ref a_12, .ref a_13, .ref a_14, .ref a_15, .ref a_16, .ref a_17, .ref a_18, .int i_14, .int n184, .int n185, .int i_17, .int i_18, .int i_19, .ref a_19, .int n186, .ref a_20])), (a_6, .inl (cy 1, 5, .inl (mm_g [i_21, i_22, i_23, i_24, i_25]))), (a_7, .inl (cy 1, 30, .inl (mm_g [i_26, i_27, i_28, i_29, i_30, i_31, i_32, i_33, i_34, i_35, i_36, i_37, i_38, i_39, i_40, i_41, i_42, i_43, i_44, i_45, i_46, i_47, i_48, i_49, i_50, i_51, i_52, i_53, i_54, i_55]))), (a_8, .inl (cy 1, 90, .inl f_0)), (a_13, .inl (cy 1, 450, .inl f_1)), (a_15, .inl (cy 1, 7200, .inl f_2)), (a_16, .inl (cy 1, 3, .inl f_3)), (a_18, .inl (cy 1, 8, .inl n187)), (a_20, .inl (cy 1, 4, .inl n188))] H) (hD : va_D A [(a_0, .inr (12, [.int i_4, .ref a_1, .ref a_2, .ref a_3, .ref a_4, .ref a_5, .int i_5, .int i_6, .int i_7, .int i_8, .int i_9, .long j_0, .int i_10, .int i_11, .int i_12, .int i_13, .ref a_6, .ref a_7, .ref a_8, .ref a_9, .ref a_10, .ref a_11, .ref a_12, .ref a_13, .ref a_14, .ref a_15, .ref a_16, .ref a_17, .ref a_18, .int i_14, .int n184, .int n185, .int i_17, .int i_18, .int i_19, .ref a_19, .int n186, .ref a_20])), (a_6, .inl (cy 1, 5, .inl (mm_g [i_21, i_22, i_23, i_24, i_25]))), (a_7, .inl (cy 1, 30, .inl (mm_g [i_26, i_27, i_28, i_29, i_30, i_31, i_32, i_33, i_34, i_35, i_36, i_37, i_38, i_39, i_40, i_41, i_42, i_43, i_44, i_45, i_46, i_47, i_48, i_49, i_50, i_51, i_52, i_53, i_54, i_55]))), (a_8, .inl (cy 1, 90, .inl f_0)), (a_13, .inl (cy 1, 450, .inl f_1)), (a_15, .inl (cy 1, 7200, .inl f_2)), (a_16, .inl (cy 1, 3, .inl f_3)), (a_18, .inl (cy 1, 8, .inl n187)), (a_20, .inl (cy 1, 4, .inl n188))]) hS
          have w189 := hw
          obtain ⟨v190, ev190⟩ : ∃ y : Int32, y = x72_6_170 + 1 := ⟨_, rfl⟩
          refine lv_iinc (v := v190) (lv' := [(6, .int v190), (0, .ref a_0), (1, .int 2), (2, .int i_0), (3, .int i_1), (4, .int i_2), (5, .int i_3)]) hx hb dX12_rowsFrom_102 hl (k := 0) rfl (by rw [ev190]; rfl) (by decide) rfl ?_
          clear hl
          clear ls
          intro ls hl
          have rv190 : mm_rg v190 1 10 := mm_add ev190 q180 mm_k1 (by decide) (by decide)
          have tv190 := mm_addEc ev190 q180 mm_k1 (by decide) (k := 1) (by decide)
          refine lv_goto (tgt := 72) hx hb dX12_rowsFrom_105 (by decide) ?_
          exact ih72 v190 n184 n185 n186 n187 n188 (mm_wk rv190 (by decide)) w189 (mm_mu hm72 tv190 (by decide) (rv190).2 (by decide)) H locs hP hD hS ls (lv_sub hl [0, 1, 2, 3, 4, 5, 6] rfl)
    exact L72_175 _ 0 i_15 i_16 i_20 f_4 f_5 (mm_wk mm_k0 (by decide)) h44 (Nat.lt_succ_self _) H locs hP hD hS ls (lv_sub hl [0, 1, 2, 3, 4, 5, 6] rfl)
  · have q191 := mm_eqI (lo := 2) (hi := 2) c1.symm h4 mm_k2 (by decide)
    refine lv_aload_n hx hb dX12_rowsFrom_8 rfl (lv_at hl 0 rfl) ?_
    refine lv_iload_n hx hb dX12_rowsFrom_9 rfl (lv_at hl 2 rfl) ?_
    refine lv_iload_n hx hb dX12_rowsFrom_10 rfl (lv_at hl 3 rfl) ?_
    refine lv_iload hx hb dX12_rowsFrom_11 (lv_at hl 4 rfl) ?_
    refine lv_iload hx hb dX12_rowsFrom_13 (lv_at hl 5 rfl) ?_
    refine mm_fini (va_runV (As := [.int i_0, .int i_1, .int i_2, .int i_3]) (rest := []) ⟨hx, hb, hml, hown, hts⟩ (M211_X12_isWording l G cy H.size a_0 i_0 i_1 i_2 i_3 i_4 a_1 a_2 a_3 a_4 a_5 i_5 i_6 i_7 i_8 i_9 j_0 i_10 i_11 i_12 i_13 a_6 a_7 a_8 a_9 a_10 a_11 a_12 a_13 a_14 a_15 a_16 a_17 a_18 i_14 i_15 i_16 i_17 i_18 i_19 a_19 i_20 a_20 i_26 i_27 i_28 i_29 i_30 i_31 i_32 i_33 i_34 i_35 i_36 i_37 i_38 i_39 i_40 i_41 i_42 i_43 i_44 i_45 i_46 i_47 i_48 i_49 i_50 i_51 i_52 i_53 i_54 i_55 f_0 f_1 f_2 f_3 f_4 h0 h1 h2 h3 (mm_wk q191 (by decide)) h10 h11 h12 h13 h14 h15 h16 h17 h18 h19 h20 h21 h22 h23 h24 h25 h26 h27 h28 h29 h30 h31 h32 h33 h34 h35 h36 h37 h38 h39 h40 h41 h42 h43 h44 h45 h47 h49 h51 h53) (cwV 4 hts (mm_gV mm_w1409 mm_w1410 mm_w1411 mm_w5 mm_w1412) rfl rfl rfl hd_X12_isWording ⟨by rw [hRf]; exact Nat.le_of_ble_eq_true rfl, by rw [hRl]; exact Nat.le_of_ble_eq_true rfl⟩) (mm_preV hK hZ hS hA hP hD [0, 2, 3, 4, 5, 6, 7] rfl rfl 0 rfl rfl rfl) rfl rfl hl.1 rfl (lv_room (Nat.le_of_ble_eq_true rfl)) dX12_rowsFrom_15 ⟨by rw [hRc]; exact Nat.le_of_ble_eq_true rfl, by rw [hRs]; exact Nat.le_of_ble_eq_true rfl⟩) hP hD hS hA (fun u : Int32 × Int32 => [(a_0, .inr (12, [.int i_4, .ref a_1, .ref a_2, .ref a_3, .ref a_4, .ref a_5, .int i_5, .int i_6, .int i_7, .int i_8, .int i_9, .long j_0, .int i_10, .int i_11, .int i_12, .int i_13, .ref a_6, .ref a_7, .ref a_8, .ref a_9, .ref a_10, .ref a_11, .ref a_12, .ref a_13, .ref a_14, .ref a_15, .ref a_16, .ref a_17, .ref a_18, .int i_14, .int u.1, .int u.2, .int i_17, .int i_18, .int i_19, .ref a_19, .int i_20, .ref a_20])), (a_6, .inl (cy 1, 5, .inl (mm_g [i_21, i_22, i_23, i_24, i_25]))), (a_7, .inl (cy 1, 30, .inl (mm_g [i_26, i_27, i_28, i_29, i_30, i_31, i_32, i_33, i_34, i_35, i_36, i_37, i_38, i_39, i_40, i_41, i_42, i_43, i_44, i_45, i_46, i_47, i_48, i_49, i_50, i_51, i_52, i_53, i_54, i_55]))), (a_8, .inl (cy 1, 90, .inl f_0)), (a_13, .inl (cy 1, 450, .inl f_1)), (a_15, .inl (cy 1, 7200, .inl f_2)), (a_16, .inl (cy 1, 3, .inl f_3)), (a_18, .inl (cy 1, 8, .inl f_4)), (a_20, .inl (cy 1, 4, .inl f_5))]) [0, 2, 3, 4, 5, 6, 7] [1, 8] (n := 9) (fun _ => rfl) (by decide +kernel) (by decide +kernel) rfl (fun _ => rfl) (wr := [(a_6, .inl (cy 1, 5, .inl (mm_g [i_21, i_22, i_23, i_24, i_25]))), (a_20, .inl (cy 1, 4, .inl f_5))]) rfl (fun _ => rfl) (fun _ => @rfl _ ([a_0, a_7, a_8, a_13, a_15, a_16, a_18] : List Nat)) ?_
    clear hP hD hS
    clear H locs
    intro v194 u
    obtain ⟨n192, n193⟩ := u
    intro H locs hw (hP : va_P G vwCl [(a_0, .inr (12, [.int i_4, .ref a_1, .ref a_2, .ref a_3, .ref a_4, .ref a_5, .int i_5, .int i_6, .int i_7, .int i_8, .int i_9, .long j_0, .int i_10, .int i_11, .int i_12, .int i_13, .ref a_6, .ref a_7, .ref a_8, .ref a_9, .ref a_10, .ref a_11, .ref a_12, .ref a_13, .ref a_14, .ref a_15, .ref a_16, .ref a_17, .ref a_18, .int i_14, .int n192, .int n193, .int i_17, .int i_18, .int i_19, .ref a_19, .int i_20, .ref a_20])), (a_6, .inl (cy 1, 5, .inl (mm_g [i_21, i_22, i_23, i_24, i_25]))), (a_7, .inl (cy 1, 30, .inl (mm_g [i_26, i_27, i_28, i_29, i_30, i_31, i_32, i_33, i_34, i_35, i_36, i_37, i_38, i_39, i_40, i_41, i_42, i_43, i_44, i_45, i_46, i_47, i_48, i_49, i_50, i_51, i_52, i_53, i_54, i_55]))), (a_8, .inl (cy 1, 90, .inl f_0)), (a_13, .inl (cy 1, 450, .inl f_1)), (a_15, .inl (cy 1, 7200, .inl f_2)), (a_16, .inl (cy 1, 3, .inl f_3)), (a_18, .inl (cy 1, 8, .inl f_4)), (a_20, .inl (cy 1, 4, .inl f_5))] H) (hD : va_D A [(a_0, .inr (12, [.int i_4, .ref a_1, .ref a_2, .ref a_3, .ref a_4, .ref a_5, .int i_5, .int i_6, .int i_7, .int i_8, .int i_9, .long j_0, .int i_10, .int i_11, .int i_12, .int i_13, .ref a_6, .ref a_7, .ref a_8, .ref a_9, .ref a_10, .ref a_11, .ref a_12, .ref a_13, .ref a_14, .ref a_15, .ref a_16, .ref a_17, .ref a_18, .int i_14, .int n192, .int n193, .int i_17, .int i_18, .int i_19, .ref a_19, .int i_20, .ref a_20])), (a_6, .inl (cy 1, 5, .inl (mm_g [i_21, i_22, i_23, i_24, i_25]))), (a_7, .inl (cy 1, 30, .inl (mm_g [i_26, i_27, i_28, i_29, i_30, i_31, i_32, i_33, i_34, i_35, i_36, i_37, i_38, i_39, i_40, i_41, i_42, i_43, i_44, i_45, i_46, i_47, i_48, i_49, i_50, i_51, i_52, i_53, i_54, i_55]))), (a_8, .inl (cy 1, 90, .inl f_0)), (a_13, .inl (cy 1, 450, .inl f_1)), (a_15, .inl (cy 1, 7200, .inl f_2)), (a_16, .inl (cy 1, 3, .inl f_3)), (a_18, .inl (cy 1, 8, .inl f_4)), (a_20, .inl (cy 1, 4, .inl f_5))]) hS
    rcases hw with rfl | rfl
    · refine lv_if_ne (tgt := 22) hx hb dX12_rowsFrom_18 (by decide) (fun c195 => ?_) (fun c195 => ?_)
      · exact absurd rfl (mm_ne c195)
      · subst hAe
        rw [hQ]
        exact W.vret hx hb hr (fun t ht hW => ⟨⟨(n192, n193, i_20, f_4, f_5), rfl, h44, by rw [ht]; exact hP, hK.warm hW, hD⟩, hS.F ht⟩) hS.2.2 dX12_rowsFrom_21
    · refine lv_if_ne (tgt := 22) hx hb dX12_rowsFrom_18 (by decide) (fun c196 => ?_) (fun c196 => ?_)
      · refine lv_iconst (v := 0) hx hb dX12_rowsFrom_22 (by decide) ?_
        refine lv_istore (lv' := [(6, .int 0), (0, .ref a_0), (1, .int 2), (2, .int i_0), (3, .int i_1), (4, .int i_2), (5, .int i_3)]) hx hb dX12_rowsFrom_23 hl (by decide) rfl ?_
        clear hl
        clear ls
        intro ls hl
        have L25_226 : ∀ (n : Nat) (x25_6_225 : Int32) (z25_8_226 : Nat → Int32), mm_rg x25_6_225 0 2 → (2 - x25_6_225.toInt).toNat < n → ∀ (H : Heap) (locs : List Loc), va_P G vwCl [(a_0, .inr (12, [.int i_4, .ref a_1, .ref a_2, .ref a_3, .ref a_4, .ref a_5, .int i_5, .int i_6, .int i_7, .int i_8, .int i_9, .long j_0, .int i_10, .int i_11, .int i_12, .int i_13, .ref a_6, .ref a_7, .ref a_8, .ref a_9, .ref a_10, .ref a_11, .ref a_12, .ref a_13, .ref a_14, .ref a_15, .ref a_16, .ref a_17, .ref a_18, .int i_14, .int n192, .int n193, .int i_17, .int i_18, .int i_19, .ref a_19, .int i_20, .ref a_20])), (a_6, .inl (cy 1, 5, .inl (mm_g [i_21, i_22, i_23, i_24, i_25]))), (a_7, .inl (cy 1, 30, .inl (mm_g [i_26, i_27, i_28, i_29, i_30, i_31, i_32, i_33, i_34, i_35, i_36, i_37, i_38, i_39, i_40, i_41, i_42, i_43, i_44, i_45, i_46, i_47, i_48, i_49, i_50, i_51, i_52, i_53, i_54, i_55]))), (a_8, .inl (cy 1, 90, .inl f_0)), (a_13, .inl (cy 1, 450, .inl f_1)), (a_15, .inl (cy 1, 7200, .inl f_2)), (a_16, .inl (cy 1, 3, .inl f_3)), (a_18, .inl (cy 1, 8, .inl f_4)), (a_20, .inl (cy 1, 4, .inl z25_8_226))] H → va_D A [(a_0, .inr (12, [.int i_4, .ref a_1, .ref a_2, .ref a_3, .ref a_4, .ref a_5, .int i_5, .int i_6, .int i_7, .int i_8, .int i_9, .long j_0, .int i_10, .int i_11, .int i_12, .int i_13, .ref a_6, .ref a_7, .ref a_8, .ref a_9, .ref a_10, .ref a_11, .ref a_12, .ref a_13, .ref a_14, .ref a_15, .ref a_16, .ref a_17, .ref a_18, .int i_14, .int n192, .int n193, .int i_17, .int i_18, .int i_19, .ref a_19, .int i_20, .ref a_20])), (a_6, .inl (cy 1, 5, .inl (mm_g [i_21, i_22, i_23, i_24, i_25]))), (a_7, .inl (cy 1, 30, .inl (mm_g [i_26, i_27, i_28, i_29, i_30, i_31, i_32, i_33, i_34, i_35, i_36, i_37, i_38, i_39, i_40, i_41, i_42, i_43, i_44, i_45, i_46, i_47, i_48, i_49, i_50, i_51, i_52, i_53, i_54, i_55]))), (a_8, .inl (cy 1, 90, .inl f_0)), (a_13, .inl (cy 1, 450, .inl f_1)), (a_15, .inl (cy 1, 7200, .inl f_2)), (a_16, .inl (cy 1, 3, .inl f_3)), (a_18, .inl (cy 1, 8, .inl f_4)), (a_20, .inl (cy 1, 4, .inl z25_8_226))] → va_S A s.heap H locs → ∀ (ls : Array Slot), lv_has ls 7 [(6, .int x25_6_225), (0, .ref a_0), (1, .int 2), (2, .int i_0), (3, .int i_1), (4, .int i_2), (5, .int i_3)] → W p l e R s m args below meth c H locs 0 0 Q (F0 m 25 ls []) := by
          intro n
          induction n with
          | zero => intro x25_6_225 z25_8_226 rx25_6_225 hm; exact absurd hm (Nat.not_lt_zero _)
          | succ n ih25 =>
            intro x25_6_225 z25_8_226 rx25_6_225 hm25 H locs hP hD hS ls hl
            refine lv_iload hx hb dX12_rowsFrom_25 (lv_at hl 0 rfl) ?_
            refine lv_iload_n hx hb dX12_rowsFrom_27 rfl (lv_at hl 2 rfl) ?_
            refine lv_icmp_ge (tgt := 58) hx hb dX12_rowsFrom_28 (by decide) (fun c228 => ?_) (fun c228 => ?_)
            · have q229 := mm_leR (mm_le c228) mm_k2 rx25_6_225
              refine lv_aload_n hx hb dX12_rowsFrom_58 rfl (lv_at hl 1 rfl) ?_
              refine lv_dup hx hb dX12_rowsFrom_59 rfl ?_
              refine va_get (D := G) (ci := 12) (v := .int i_20) (C := RX12) (T := TX12) (N := 38) hx hb hts (mm_i inlX12) hown hK.1 hP 0 rfl rfl 36 (by decide) (mm_h hts mm_w1404) (fun _ h9 => h9) rfl dX12_rowsFrom_60 ?_
              refine lv_iconst (v := 1) hx hb dX12_rowsFrom_63 (by decide) ?_
              refine lv_iadd hx hb dX12_rowsFrom_64 ?_
              refine lv_topi (fun v230 ev230 => ?_)
              refine va_put (D := G) (ci := 12) (v := .int v230) (ty := tyX12 36) (C := RX12) (T := TX12) (N := 38) hx hb hts (mm_i inlX12) tyX12 tyX12_ok nmX12 hown hK.1 hP hD hS 0 rfl rfl 36 (by decide) (mm_h hts mm_w1404) (fun _ h9 => h9) rfl (tyX12_ok 36 (by decide)) rfl rfl (Nat.le_of_ble_eq_true rfl) dX12_rowsFrom_65 ?_
              clear hP hD hS
              clear H locs
              intro H locs (hP : va_P G vwCl [(a_0, .inr (12, [.int i_4, .ref a_1, .ref a_2, .ref a_3, .ref a_4, .ref a_5, .int i_5, .int i_6, .int i_7, .int i_8, .int i_9, .long j_0, .int i_10, .int i_11, .int i_12, .int i_13, .ref a_6, .ref a_7, .ref a_8, .ref a_9, .ref a_10, .ref a_11, .ref a_12, .ref a_13, .ref a_14, .ref a_15, .ref a_16, .ref a_17, .ref a_18, .int i_14, .int n192, .int n193, .int i_17, .int i_18, .int i_19, .ref a_19, .int v230, .ref a_20])), (a_6, .inl (cy 1, 5, .inl (mm_g [i_21, i_22, i_23, i_24, i_25]))), (a_7, .inl (cy 1, 30, .inl (mm_g [i_26, i_27, i_28, i_29, i_30, i_31, i_32, i_33, i_34, i_35, i_36, i_37, i_38, i_39, i_40, i_41, i_42, i_43, i_44, i_45, i_46, i_47, i_48, i_49, i_50, i_51, i_52, i_53, i_54, i_55]))), (a_8, .inl (cy 1, 90, .inl f_0)), (a_13, .inl (cy 1, 450, .inl f_1)), (a_15, .inl (cy 1, 7200, .inl f_2)), (a_16, .inl (cy 1, 3, .inl f_3)), (a_18, .inl (cy 1, 8, .inl f_4)), (a_20, .inl (cy 1, 4, .inl z25_8_226))] H) (hD : va_D A [(a_0, .inr (12, [.int i_4, .ref a_1, .ref a_2, .ref a_3, .ref a_4, .ref a_5, .int i_5, .int i_6, .int i_7, .int i_8, .int i_9, .long j_0, .int i_10, .int i_11, .int i_12, .int i_13, .ref a_6, .ref a_7, .ref a_8, .ref a_9, .ref a_10, .ref a_11, .ref a_12, .ref a_13, .ref a_14, .ref a_15, .ref a_16, .ref a_17, .ref a_18, .int i_14, .int n192, .int n193, .int i_17, .int i_18, .int i_19, .ref a_19, .int v230, .ref a_20])), (a_6, .inl (cy 1, 5, .inl (mm_g [i_21, i_22, i_23, i_24, i_25]))), (a_7, .inl (cy 1, 30, .inl (mm_g [i_26, i_27, i_28, i_29, i_30, i_31, i_32, i_33, i_34, i_35, i_36, i_37, i_38, i_39, i_40, i_41, i_42, i_43, i_44, i_45, i_46, i_47, i_48, i_49, i_50, i_51, i_52, i_53, i_54, i_55]))), (a_8, .inl (cy 1, 90, .inl f_0)), (a_13, .inl (cy 1, 450, .inl f_1)), (a_15, .inl (cy 1, 7200, .inl f_2)), (a_16, .inl (cy 1, 3, .inl f_3)), (a_18, .inl (cy 1, 8, .inl f_4)), (a_20, .inl (cy 1, 4, .inl z25_8_226))]) hS
              subst hAe
              rw [hQ]
              exact W.vret hx hb hr (fun t ht hW => ⟨⟨(n192, n193, v230, f_4, z25_8_226), rfl, h44, by rw [ht]; exact hP, hK.warm hW, hD⟩, hS.F ht⟩) hS.2.2 dX12_rowsFrom_68
            · have q231 := mm_ltL (h := 1) (mm_nle c228) rx25_6_225 mm_k2 (by decide)
              refine lv_aload_n hx hb dX12_rowsFrom_31 rfl (lv_at hl 1 rfl) ?_
              refine va_get (D := G) (ci := 12) (v := .int i_20) (C := RX12) (T := TX12) (N := 38) hx hb hts (mm_i inlX12) hown hK.1 hP 0 rfl rfl 36 (by decide) (mm_h hts mm_w1404) (fun _ h9 => h9) rfl dX12_rowsFrom_32 ?_
              refine lv_if_ne (tgt := 58) hx hb dX12_rowsFrom_35 (by decide) (fun c232 => ?_) (fun c232 => ?_)
              · refine lv_aload_n hx hb dX12_rowsFrom_58 rfl (lv_at hl 1 rfl) ?_
                refine lv_dup hx hb dX12_rowsFrom_59 rfl ?_
                refine va_get (D := G) (ci := 12) (v := .int i_20) (C := RX12) (T := TX12) (N := 38) hx hb hts (mm_i inlX12) hown hK.1 hP 0 rfl rfl 36 (by decide) (mm_h hts mm_w1404) (fun _ h9 => h9) rfl dX12_rowsFrom_60 ?_
                refine lv_iconst (v := 1) hx hb dX12_rowsFrom_63 (by decide) ?_
                refine lv_iadd hx hb dX12_rowsFrom_64 ?_
                refine lv_topi (fun v233 ev233 => ?_)
                refine va_put (D := G) (ci := 12) (v := .int v233) (ty := tyX12 36) (C := RX12) (T := TX12) (N := 38) hx hb hts (mm_i inlX12) tyX12 tyX12_ok nmX12 hown hK.1 hP hD hS 0 rfl rfl 36 (by decide) (mm_h hts mm_w1404) (fun _ h9 => h9) rfl (tyX12_ok 36 (by decide)) rfl rfl (Nat.le_of_ble_eq_true rfl) dX12_rowsFrom_65 ?_
                clear hP hD hS
                clear H locs
                intro H locs (hP : va_P G vwCl [(a_0, .inr (12, [.int i_4, .ref a_1, .ref a_2, .ref a_3, .ref a_4, .ref a_5, .int i_5, .int i_6, .int i_7, .int i_8, .int i_9, .long j_0, .int i_10, .int i_11, .int i_12, .int i_13, .ref a_6, .ref a_7, .ref a_8, .ref a_9, .ref a_10, .ref a_11, .ref a_12, .ref a_13, .ref a_14, .ref a_15, .ref a_16, .ref a_17, .ref a_18, .int i_14, .int n192, .int n193, .int i_17, .int i_18, .int i_19, .ref a_19, .int v233, .ref a_20])), (a_6, .inl (cy 1, 5, .inl (mm_g [i_21, i_22, i_23, i_24, i_25]))), (a_7, .inl (cy 1, 30, .inl (mm_g [i_26, i_27, i_28, i_29, i_30, i_31, i_32, i_33, i_34, i_35, i_36, i_37, i_38, i_39, i_40, i_41, i_42, i_43, i_44, i_45, i_46, i_47, i_48, i_49, i_50, i_51, i_52, i_53, i_54, i_55]))), (a_8, .inl (cy 1, 90, .inl f_0)), (a_13, .inl (cy 1, 450, .inl f_1)), (a_15, .inl (cy 1, 7200, .inl f_2)), (a_16, .inl (cy 1, 3, .inl f_3)), (a_18, .inl (cy 1, 8, .inl f_4)), (a_20, .inl (cy 1, 4, .inl z25_8_226))] H) (hD : va_D A [(a_0, .inr (12, [.int i_4, .ref a_1, .ref a_2, .ref a_3, .ref a_4, .ref a_5, .int i_5, .int i_6, .int i_7, .int i_8, .int i_9, .long j_0, .int i_10, .int i_11, .int i_12, .int i_13, .ref a_6, .ref a_7, .ref a_8, .ref a_9, .ref a_10, .ref a_11, .ref a_12, .ref a_13, .ref a_14, .ref a_15, .ref a_16, .ref a_17, .ref a_18, .int i_14, .int n192, .int n193, .int i_17, .int i_18, .int i_19, .ref a_19, .int v233, .ref a_20])), (a_6, .inl (cy 1, 5, .inl (mm_g [i_21, i_22, i_23, i_24, i_25]))), (a_7, .inl (cy 1, 30, .inl (mm_g [i_26, i_27, i_28, i_29, i_30, i_31, i_32, i_33, i_34, i_35, i_36, i_37, i_38, i_39, i_40, i_41, i_42, i_43, i_44, i_45, i_46, i_47, i_48, i_49, i_50, i_51, i_52, i_53, i_54, i_55]))), (a_8, .inl (cy 1, 90, .inl f_0)), (a_13, .inl (cy 1, 450, .inl f_1)), (a_15, .inl (cy 1, 7200, .inl f_2)), (a_16, .inl (cy 1, 3, .inl f_3)), (a_18, .inl (cy 1, 8, .inl f_4)), (a_20, .inl (cy 1, 4, .inl z25_8_226))]) hS
                subst hAe
                rw [hQ]
                exact W.vret hx hb hr (fun t ht hW => ⟨⟨(n192, n193, v233, f_4, z25_8_226), rfl, h44, by rw [ht]; exact hP, hK.warm hW, hD⟩, hS.F ht⟩) hS.2.2 dX12_rowsFrom_68
              · have q234 := mm_eqI (lo := 0) (hi := 0) c232 (mm_top i_20) mm_k0 (by decide)
                refine lv_aload_n hx hb dX12_rowsFrom_38 rfl (lv_at hl 1 rfl) ?_
                refine va_get (D := G) (ci := 12) (v := .ref a_20) (C := RX12) (T := TX12) (N := 38) hx hb hts (mm_i inlX12) hown hK.1 hP 0 rfl rfl 37 (by decide) (mm_h hts mm_w162) (fun _ h9 => h9) rfl dX12_rowsFrom_39 ?_
                refine lv_iload hx hb dX12_rowsFrom_42 (lv_at hl 0 rfl) ?_
                refine lv_aload_n hx hb dX12_rowsFrom_44 rfl (lv_at hl 1 rfl) ?_
                refine va_get (D := G) (ci := 12) (v := .ref a_18) (C := RX12) (T := TX12) (N := 38) hx hb hts (mm_i inlX12) hown hK.1 hP 0 rfl rfl 28 (by decide) (mm_h hts mm_w160) (fun _ h9 => h9) rfl dX12_rowsFrom_45 ?_
                refine lv_iload hx hb dX12_rowsFrom_48 (lv_at hl 0 rfl) ?_
                refine va_iald hx hb hK.1 hP 7 1 rfl rfl (mm_in q231 (by decide)) dX12_rowsFrom_50 ?_
                refine lv_topi (fun v235 ev235 => ?_)
                have rv235 : mm_rg v235 0 9 := mm_eqv ev235 (h44 _)
                refine va_iast hx hb hK.1 hP hD hS 8 1 rfl rfl (mm_in q231 (by decide)) dX12_rowsFrom_51 ?_
                clear hP hD hS
                clear H locs
                obtain ⟨g236, eg236⟩ : ∃ z : Nat → Int32, z = upd z25_8_226 x25_6_225.toNatClampNeg v235 := ⟨_, rfl⟩
                rw [← eg236]
                intro H locs (hP : va_P G vwCl [(a_0, .inr (12, [.int i_4, .ref a_1, .ref a_2, .ref a_3, .ref a_4, .ref a_5, .int i_5, .int i_6, .int i_7, .int i_8, .int i_9, .long j_0, .int i_10, .int i_11, .int i_12, .int i_13, .ref a_6, .ref a_7, .ref a_8, .ref a_9, .ref a_10, .ref a_11, .ref a_12, .ref a_13, .ref a_14, .ref a_15, .ref a_16, .ref a_17, .ref a_18, .int i_14, .int n192, .int n193, .int i_17, .int i_18, .int i_19, .ref a_19, .int i_20, .ref a_20])), (a_6, .inl (cy 1, 5, .inl (mm_g [i_21, i_22, i_23, i_24, i_25]))), (a_7, .inl (cy 1, 30, .inl (mm_g [i_26, i_27, i_28, i_29, i_30, i_31, i_32, i_33, i_34, i_35, i_36, i_37, i_38, i_39, i_40, i_41, i_42, i_43, i_44, i_45, i_46, i_47, i_48, i_49, i_50, i_51, i_52, i_53, i_54, i_55]))), (a_8, .inl (cy 1, 90, .inl f_0)), (a_13, .inl (cy 1, 450, .inl f_1)), (a_15, .inl (cy 1, 7200, .inl f_2)), (a_16, .inl (cy 1, 3, .inl f_3)), (a_18, .inl (cy 1, 8, .inl f_4)), (a_20, .inl (cy 1, 4, .inl g236))] H) (hD : va_D A [(a_0, .inr (12, [.int i_4, .ref a_1, .ref a_2, .ref a_3, .ref a_4, .ref a_5, .int i_5, .int i_6, .int i_7, .int i_8, .int i_9, .long j_0, .int i_10, .int i_11, .int i_12, .int i_13, .ref a_6, .ref a_7, .ref a_8, .ref a_9, .ref a_10, .ref a_11, .ref a_12, .ref a_13, .ref a_14, .ref a_15, .ref a_16, .ref a_17, .ref a_18, .int i_14, .int n192, .int n193, .int i_17, .int i_18, .int i_19, .ref a_19, .int i_20, .ref a_20])), (a_6, .inl (cy 1, 5, .inl (mm_g [i_21, i_22, i_23, i_24, i_25]))), (a_7, .inl (cy 1, 30, .inl (mm_g [i_26, i_27, i_28, i_29, i_30, i_31, i_32, i_33, i_34, i_35, i_36, i_37, i_38, i_39, i_40, i_41, i_42, i_43, i_44, i_45, i_46, i_47, i_48, i_49, i_50, i_51, i_52, i_53, i_54, i_55]))), (a_8, .inl (cy 1, 90, .inl f_0)), (a_13, .inl (cy 1, 450, .inl f_1)), (a_15, .inl (cy 1, 7200, .inl f_2)), (a_16, .inl (cy 1, 3, .inl f_3)), (a_18, .inl (cy 1, 8, .inl f_4)), (a_20, .inl (cy 1, 4, .inl g236))]) hS
                obtain ⟨v237, ev237⟩ : ∃ y : Int32, y = x25_6_225 + 1 := ⟨_, rfl⟩
                refine lv_iinc (v := v237) (lv' := [(6, .int v237), (0, .ref a_0), (1, .int 2), (2, .int i_0), (3, .int i_1), (4, .int i_2), (5, .int i_3)]) hx hb dX12_rowsFrom_52 hl (k := 0) rfl (by rw [ev237]; rfl) (by decide) rfl ?_
                clear hl
                clear ls
                intro ls hl
                have rv237 : mm_rg v237 1 2 := mm_add ev237 q231 mm_k1 (by decide) (by decide)
                have tv237 := mm_addEc ev237 q231 mm_k1 (by decide) (k := 1) (by decide)
                refine lv_goto (tgt := 25) hx hb dX12_rowsFrom_55 (by decide) ?_
                exact ih25 v237 g236 (mm_wk rv237 (by decide)) (mm_mu hm25 tv237 (by decide) (rv237).2 (by decide)) H locs hP hD hS ls (lv_sub hl [0, 1, 2, 3, 4, 5, 6] rfl)
        exact L25_226 _ 0 f_5 (mm_wk mm_k0 (by decide)) (Nat.lt_succ_self _) H locs hP hD hS ls (lv_sub hl [0, 1, 2, 3, 4, 5, 6] rfl)
      · exact mm_eqN c196.symm mm_k0 mm_k1 (by decide)

set_option maxHeartbeats 4000000 in
set_option maxRecDepth 100000 in
theorem M226_X12_rowsFrom (l : Launch) (G : va_G) (cy : Nat → ClassId) (sz : Nat) (a_0 : Nat) (i_0 : Int32) (i_1 : Int32) (i_2 : Int32) (i_3 : Int32) (i_4 : Int32) (a_1 : Nat) (a_2 : Nat) (a_3 : Nat) (a_4 : Nat) (a_5 : Nat) (i_5 : Int32) (i_6 : Int32) (i_7 : Int32) (i_8 : Int32) (i_9 : Int32) (j_0 : Int64) (i_10 : Int32) (i_11 : Int32) (i_12 : Int32) (i_13 : Int32) (a_6 : Nat) (a_7 : Nat) (a_8 : Nat) (a_9 : Nat) (a_10 : Nat) (a_11 : Nat) (a_12 : Nat) (a_13 : Nat) (a_14 : Nat) (a_15 : Nat) (a_16 : Nat) (a_17 : Nat) (a_18 : Nat) (i_14 : Int32) (i_15 : Int32) (i_16 : Int32) (i_17 : Int32) (i_18 : Int32) (i_19 : Int32) (a_19 : Nat) (i_20 : Int32) (a_20 : Nat) (i_21 : Int32) (i_22 : Int32) (i_23 : Int32) (i_24 : Int32) (i_25 : Int32) (i_26 : Int32) (i_27 : Int32) (i_28 : Int32) (i_29 : Int32) (i_30 : Int32) (i_31 : Int32) (i_32 : Int32) (i_33 : Int32) (i_34 : Int32) (i_35 : Int32) (i_36 : Int32) (i_37 : Int32) (i_38 : Int32) (i_39 : Int32) (i_40 : Int32) (i_41 : Int32) (i_42 : Int32) (i_43 : Int32) (i_44 : Int32) (i_45 : Int32) (i_46 : Int32) (i_47 : Int32) (i_48 : Int32) (i_49 : Int32) (i_50 : Int32) (i_51 : Int32) (i_52 : Int32) (i_53 : Int32) (i_54 : Int32) (i_55 : Int32) (f_0 : Nat → Int32) (f_1 : Nat → Int32) (f_2 : Nat → Int32) (f_3 : Nat → Int32) (f_4 : Nat → Int32) (f_5 : Nat → Int32) (h0 : mm_rg i_0 0 2) (h1 : mm_rg i_1 0 1000000000) (h2 : mm_rg i_2 1 7) (h3 : mm_rg i_3 0 9999) (h4 : mm_rg i_14 1 4) (h5 : mm_rg i_21 0 601) (h6 : mm_rg i_22 0 601) (h7 : mm_rg i_23 0 601) (h8 : mm_rg i_24 0 601) (h9 : mm_rg i_25 0 601) (h10 : mm_rg i_26 0 10) (h11 : mm_rg i_27 0 99) (h12 : mm_rg i_28 0 9) (h13 : mm_rg i_29 0 3) (h14 : mm_rg i_30 0 6) (h15 : mm_rg i_31 0 30) (h16 : mm_rg i_32 0 10) (h17 : mm_rg i_33 0 99) (h18 : mm_rg i_34 0 9) (h19 : mm_rg i_35 0 3) (h20 : mm_rg i_36 0 6) (h21 : mm_rg i_37 0 30) (h22 : mm_rg i_38 0 10) (h23 : mm_rg i_39 0 99) (h24 : mm_rg i_40 0 9) (h25 : mm_rg i_41 0 3) (h26 : mm_rg i_42 0 6) (h27 : mm_rg i_43 0 30) (h28 : mm_rg i_44 0 10) (h29 : mm_rg i_45 0 99) (h30 : mm_rg i_46 0 9) (h31 : mm_rg i_47 0 3) (h32 : mm_rg i_48 0 6) (h33 : mm_rg i_49 0 30) (h34 : mm_rg i_50 0 10) (h35 : mm_rg i_51 0 99) (h36 : mm_rg i_52 0 9) (h37 : mm_rg i_53 0 3) (h38 : mm_rg i_54 0 6) (h39 : mm_rg i_55 0 30) (h40 : mm_ar f_0 0 99) (h41 : mm_ar f_1 (-1) 99) (h42 : mm_ar f_2 0 9) (h43 : mm_ar f_3 0 210) (h44 : mm_ar f_4 0 9) (h45 : mm_acs f_1 0 i_28 i_29 i_31) (h46 : mm_tl i_21 i_29 i_30) (h47 : mm_acs f_1 1 i_34 i_35 i_37) (h48 : mm_tl i_22 i_35 i_36) (h49 : mm_acs f_1 2 i_40 i_41 i_43) (h50 : mm_tl i_23 i_41 i_42) (h51 : mm_acs f_1 3 i_46 i_47 i_49) (h52 : mm_tl i_24 i_47 i_48) (h53 : mm_f1 f_3 i_0)  : mm_CV l yX12_rowsFrom (mm_ws yX12_rowsFrom cX12_rowsFrom 7 (none)) ({ frames := 6, cells := 0, slots := 0, locals := 153 } : Room) G cy sz [(a_0, .inr (12, [.int i_4, .ref a_1, .ref a_2, .ref a_3, .ref a_4, .ref a_5, .int i_5, .int i_6, .int i_7, .int i_8, .int i_9, .long j_0, .int i_10, .int i_11, .int i_12, .int i_13, .ref a_6, .ref a_7, .ref a_8, .ref a_9, .ref a_10, .ref a_11, .ref a_12, .ref a_13, .ref a_14, .ref a_15, .ref a_16, .ref a_17, .ref a_18, .int i_14, .int i_15, .int i_16, .int i_17, .int i_18, .int i_19, .ref a_19, .int i_20, .ref a_20])), (a_6, .inl (cy 1, 5, .inl (mm_g [i_21, i_22, i_23, i_24, i_25]))), (a_7, .inl (cy 1, 30, .inl (mm_g [i_26, i_27, i_28, i_29, i_30, i_31, i_32, i_33, i_34, i_35, i_36, i_37, i_38, i_39, i_40, i_41, i_42, i_43, i_44, i_45, i_46, i_47, i_48, i_49, i_50, i_51, i_52, i_53, i_54, i_55]))), (a_8, .inl (cy 1, 90, .inl f_0)), (a_13, .inl (cy 1, 450, .inl f_1)), (a_15, .inl (cy 1, 7200, .inl f_2)), (a_16, .inl (cy 1, 3, .inl f_3)), (a_18, .inl (cy 1, 8, .inl f_4)), (a_20, .inl (cy 1, 4, .inl f_5))] [.ref a_0, .int 1, .int i_0, .int i_1, .int i_2, .int i_3] (fun u : Int32 × Int32 × Int32 × (Nat → Int32) × (Nat → Int32) => [(a_0, .inr (12, [.int i_4, .ref a_1, .ref a_2, .ref a_3, .ref a_4, .ref a_5, .int i_5, .int i_6, .int i_7, .int i_8, .int i_9, .long j_0, .int i_10, .int i_11, .int i_12, .int i_13, .ref a_6, .ref a_7, .ref a_8, .ref a_9, .ref a_10, .ref a_11, .ref a_12, .ref a_13, .ref a_14, .ref a_15, .ref a_16, .ref a_17, .ref a_18, .int i_14, .int u.1, .int u.2.1, .int i_17, .int i_18, .int i_19, .ref a_19, .int u.2.2.1, .ref a_20])), (a_6, .inl (cy 1, 5, .inl (mm_g [i_21, i_22, i_23, i_24, i_25]))), (a_7, .inl (cy 1, 30, .inl (mm_g [i_26, i_27, i_28, i_29, i_30, i_31, i_32, i_33, i_34, i_35, i_36, i_37, i_38, i_39, i_40, i_41, i_42, i_43, i_44, i_45, i_46, i_47, i_48, i_49, i_50, i_51, i_52, i_53, i_54, i_55]))), (a_8, .inl (cy 1, 90, .inl f_0)), (a_13, .inl (cy 1, 450, .inl f_1)), (a_15, .inl (cy 1, 7200, .inl f_2)), (a_16, .inl (cy 1, 3, .inl f_3)), (a_18, .inl (cy 1, 8, .inl u.2.2.2.1)), (a_20, .inl (cy 1, 4, .inl u.2.2.2.2))]) (fun u : Int32 × Int32 × Int32 × (Nat → Int32) × (Nat → Int32) => mm_ar u.2.2.2.1 0 9) 0 0 := by
  refine mm_begin (lv := [(0, .ref a_0), (1, .int 1), (2, .int i_0), (3, .int i_1), (4, .int i_2), (5, .int i_3)]) (by decide) (Nat.le_of_ble_eq_true rfl) rfl ?_
  intro p e s m below meth c A ls R args Q H locs hRe hQ hAe hx hb hr hlocks hml hown hnm hts hsz hA hS hP hK hD hZ hl
  have hRf : R.frames = 6 := by rw [hRe]
  have hRl : R.locals = 153 := by rw [hRe]
  have hRc : R.cells = 0 := by rw [hRe]
  have hRs : R.slots = 0 := by rw [hRe]
  refine lv_iload_n hx hb dX12_rowsFrom_0 rfl (lv_at hl 1 rfl) ?_
  refine lv_aload_n hx hb dX12_rowsFrom_1 rfl (lv_at hl 0 rfl) ?_
  refine va_get (D := G) (ci := 12) (v := .int i_14) (C := RX12) (T := TX12) (N := 38) hx hb hts (mm_i inlX12) hown hK.1 hP 0 rfl rfl 29 (by decide) (mm_h hts mm_w860) (fun _ h9 => h9) rfl dX12_rowsFrom_2 ?_
  refine lv_icmp_ne (tgt := 69) hx hb dX12_rowsFrom_5 (by decide) (fun c1 => ?_) (fun c1 => ?_)
  · have q2 := mm_neL (lo := 2) (Ne.symm (mm_ne c1)) h4 mm_k1 (by decide) (by decide)
    refine lv_iconst (v := 0) hx hb dX12_rowsFrom_69 (by decide) ?_
    refine lv_istore (lv' := [(6, .int 0), (0, .ref a_0), (1, .int 1), (2, .int i_0), (3, .int i_1), (4, .int i_2), (5, .int i_3)]) hx hb dX12_rowsFrom_70 hl (by decide) rfl ?_
    clear hl
    clear ls
    intro ls hl
    have L72_175 : ∀ (n : Nat) (x72_6_170 : Int32) (y72_0_30_171 : Int32) (y72_0_31_172 : Int32) (y72_0_36_173 : Int32) (z72_7_174 : Nat → Int32) (z72_8_175 : Nat → Int32), mm_rg x72_6_170 0 10 → mm_ar z72_7_174 0 9 → (10 - x72_6_170.toInt).toNat < n → ∀ (H : Heap) (locs : List Loc), va_P G vwCl [(a_0, .inr (12, [.int i_4, .ref a_1, .ref a_2, .ref a_3, .ref a_4, .ref a_5, .int i_5, .int i_6, .int i_7, .int i_8, .int i_9, .long j_0, .int i_10, .int i_11, .int i_12, .int i_13, .ref a_6, .ref a_7, .ref a_8, .ref a_9, .ref a_10, .ref a_11, .ref a_12, .ref a_13, .ref a_14, .ref a_15, .ref a_16, .ref a_17, .ref a_18, .int i_14, .int y72_0_30_171, .int y72_0_31_172, .int i_17, .int i_18, .int i_19, .ref a_19, .int y72_0_36_173, .ref a_20])), (a_6, .inl (cy 1, 5, .inl (mm_g [i_21, i_22, i_23, i_24, i_25]))), (a_7, .inl (cy 1, 30, .inl (mm_g [i_26, i_27, i_28, i_29, i_30, i_31, i_32, i_33, i_34, i_35, i_36, i_37, i_38, i_39, i_40, i_41, i_42, i_43, i_44, i_45, i_46, i_47, i_48, i_49, i_50, i_51, i_52, i_53, i_54, i_55]))), (a_8, .inl (cy 1, 90, .inl f_0)), (a_13, .inl (cy 1, 450, .inl f_1)), (a_15, .inl (cy 1, 7200, .inl f_2)), (a_16, .inl (cy 1, 3, .inl f_3)), (a_18, .inl (cy 1, 8, .inl z72_7_174)), (a_20, .inl (cy 1, 4, .inl z72_8_175))] H → va_D A [(a_0, .inr (12, [.int i_4, .ref a_1, .ref a_2, .ref a_3, .ref a_4, .ref a_5, .int i_5, .int i_6, .int i_7, .int i_8, .int i_9, .long j_0, .int i_10, .int i_11, .int i_12, .int i_13, .ref a_6, .ref a_7, .ref a_8, .ref a_9, .ref a_10, .ref a_11, .ref a_12, .ref a_13, .ref a_14, .ref a_15, .ref a_16, .ref a_17, .ref a_18, .int i_14, .int y72_0_30_171, .int y72_0_31_172, .int i_17, .int i_18, .int i_19, .ref a_19, .int y72_0_36_173, .ref a_20])), (a_6, .inl (cy 1, 5, .inl (mm_g [i_21, i_22, i_23, i_24, i_25]))), (a_7, .inl (cy 1, 30, .inl (mm_g [i_26, i_27, i_28, i_29, i_30, i_31, i_32, i_33, i_34, i_35, i_36, i_37, i_38, i_39, i_40, i_41, i_42, i_43, i_44, i_45, i_46, i_47, i_48, i_49, i_50, i_51, i_52, i_53, i_54, i_55]))), (a_8, .inl (cy 1, 90, .inl f_0)), (a_13, .inl (cy 1, 450, .inl f_1)), (a_15, .inl (cy 1, 7200, .inl f_2)), (a_16, .inl (cy 1, 3, .inl f_3)), (a_18, .inl (cy 1, 8, .inl z72_7_174)), (a_20, .inl (cy 1, 4, .inl z72_8_175))] → va_S A s.heap H locs → ∀ (ls : Array Slot), lv_has ls 7 [(6, .int x72_6_170), (0, .ref a_0), (1, .int 1), (2, .int i_0), (3, .int i_1), (4, .int i_2), (5, .int i_3)] → W p l e R s m args below meth c H locs 0 0 Q (F0 m 72 ls []) := by
      intro n
      induction n with
      | zero => intro x72_6_170 y72_0_30_171 y72_0_31_172 y72_0_36_173 z72_7_174 z72_8_175 rx72_6_170 rz72_7_174 hm; exact absurd hm (Nat.not_lt_zero _)
      | succ n ih72 =>
        intro x72_6_170 y72_0_30_171 y72_0_31_172 y72_0_36_173 z72_7_174 z72_8_175 rx72_6_170 rz72_7_174 hm72 H locs hP hD hS ls hl
        refine lv_iload hx hb dX12_rowsFrom_72 (lv_at hl 0 rfl) ?_
        refine lv_aload_n hx hb dX12_rowsFrom_74 rfl (lv_at hl 1 rfl) ?_
        refine mm_finir (va_runV (As := []) (rest := [.int x72_6_170]) ⟨hx, hb, hml, hown, hts⟩ (M121_X12_words l G cy H.size a_0 i_4 a_1 a_2 a_3 a_4 a_5 i_5 i_6 i_7 i_8 i_9 j_0 i_10 i_11 i_12 i_13 a_6 a_7 a_8 a_9 a_10 a_11 a_12 a_13 a_14 a_15 a_16 a_17 a_18 i_14 y72_0_30_171 y72_0_31_172 i_17 i_18 i_19 a_19 y72_0_36_173 a_20 i_21 i_22 i_23 i_24 i_25 i_26 i_27 i_28 i_29 i_30 i_31 i_32 i_33 i_34 i_35 i_36 i_37 i_38 i_39 i_40 i_41 i_42 i_43 i_44 i_45 i_46 i_47 i_48 i_49 i_50 i_51 i_52 i_53 i_54 i_55 h5 h6 h7 h8 h9 h10 h11 h12 h13 h14 h15 h16 h17 h18 h19 h20 h21 h22 h23 h24 h25 h26 h27 h28 h29 h30 h31 h32 h33 h34 h35 h36 h37 h38 h39 h46 h48 h50 h52) (cwV 0 hts (mm_gV mm_w649 mm_w650 mm_w651 mm_w5 mm_w652) rfl rfl rfl hd_X12_words ⟨by rw [hRf]; exact Nat.le_of_ble_eq_true rfl, by rw [hRl]; exact Nat.le_of_ble_eq_true rfl⟩) (mm_preV hK hZ hS hA hP hD [0, 1, 2] rfl rfl 0 rfl rfl rfl) rfl rfl hl.1 rfl (lv_room (Nat.le_of_ble_eq_true rfl)) dX12_rowsFrom_75 ⟨by rw [hRc]; exact Nat.le_of_ble_eq_true rfl, by rw [hRs]; exact Nat.le_of_ble_eq_true rfl⟩) hP hD hS hA [0, 1, 2] rfl (fun _ => rfl) ?_
        clear hP hD hS
        clear H locs
        intro v177 _u H locs hw hP hD hS
        have w178 := hw
        refine lv_icmp_ge (tgt := 108) hx hb dX12_rowsFrom_78 (by decide) (fun c179 => ?_) (fun c179 => ?_)
        · subst hAe
          rw [hQ]
          exact W.vret hx hb hr (fun t ht hW => ⟨⟨(y72_0_30_171, y72_0_31_172, y72_0_36_173, z72_7_174, z72_8_175), rfl, rz72_7_174, by rw [ht]; exact hP, hK.warm hW, hD⟩, hS.F ht⟩) hS.2.2 dX12_rowsFrom_108
        · have q180 := mm_ltL (h := 9) (mm_nle c179) rx72_6_170 w178 (by decide)
          have q181 := mm_ltR (lo := 1) (mm_nle c179) rx72_6_170 w178 (by decide)
          refine lv_aload_n hx hb dX12_rowsFrom_81 rfl (lv_at hl 1 rfl) ?_
          refine va_get (D := G) (ci := 12) (v := .ref a_18) (C := RX12) (T := TX12) (N := 38) hx hb hts (mm_i inlX12) hown hK.1 hP 0 rfl rfl 28 (by decide) (mm_h hts mm_w160) (fun _ h9 => h9) rfl dX12_rowsFrom_82 ?_
          refine lv_iload_n hx hb dX12_rowsFrom_85 rfl (lv_at hl 2 rfl) ?_
          refine lv_iload hx hb dX12_rowsFrom_86 (lv_at hl 0 rfl) ?_
          refine va_iast hx hb hK.1 hP hD hS 7 1 rfl rfl (mm_in mm_k1 (by decide)) dX12_rowsFrom_88 ?_
          clear hP hD hS
          clear H locs
          obtain ⟨g182, eg182⟩ : ∃ z : Nat → Int32, z = upd z72_7_174 (1 : Int32).toNatClampNeg x72_6_170 := ⟨_, rfl⟩
          rw [← eg182]
          intro H locs (hP : va_P G vwCl [(a_0, .inr (12, [.int i_4, .ref a_1, .ref a_2, .ref a_3, .ref a_4, .ref a_5, .int i_5, .int i_6, .int i_7, .int i_8, .int i_9, .long j_0, .int i_10, .int i_11, .int i_12, .int i_13, .ref a_6, .ref a_7, .ref a_8, .ref a_9, .ref a_10, .ref a_11, .ref a_12, .ref a_13, .ref a_14, .ref a_15, .ref a_16, .ref a_17, .ref a_18, .int i_14, .int y72_0_30_171, .int y72_0_31_172, .int i_17, .int i_18, .int i_19, .ref a_19, .int y72_0_36_173, .ref a_20])), (a_6, .inl (cy 1, 5, .inl (mm_g [i_21, i_22, i_23, i_24, i_25]))), (a_7, .inl (cy 1, 30, .inl (mm_g [i_26, i_27, i_28, i_29, i_30, i_31, i_32, i_33, i_34, i_35, i_36, i_37, i_38, i_39, i_40, i_41, i_42, i_43, i_44, i_45, i_46, i_47, i_48, i_49, i_50, i_51, i_52, i_53, i_54, i_55]))), (a_8, .inl (cy 1, 90, .inl f_0)), (a_13, .inl (cy 1, 450, .inl f_1)), (a_15, .inl (cy 1, 7200, .inl f_2)), (a_16, .inl (cy 1, 3, .inl f_3)), (a_18, .inl (cy 1, 8, .inl g182)), (a_20, .inl (cy 1, 4, .inl z72_8_175))] H) (hD : va_D A [(a_0, .inr (12, [.int i_4, .ref a_1, .ref a_2, .ref a_3, .ref a_4, .ref a_5, .int i_5, .int i_6, .int i_7, .int i_8, .int i_9, .long j_0, .int i_10, .int i_11, .int i_12, .int i_13, .ref a_6, .ref a_7, .ref a_8, .ref a_9, .ref a_10, .ref a_11, .ref a_12, .ref a_13, .ref a_14, .ref a_15, .ref a_16, .ref a_17, .ref a_18, .int i_14, .int y72_0_30_171, .int y72_0_31_172, .int i_17, .int i_18, .int i_19, .ref a_19, .int y72_0_36_173, .ref a_20])), (a_6, .inl (cy 1, 5, .inl (mm_g [i_21, i_22, i_23, i_24, i_25]))), (a_7, .inl (cy 1, 30, .inl (mm_g [i_26, i_27, i_28, i_29, i_30, i_31, i_32, i_33, i_34, i_35, i_36, i_37, i_38, i_39, i_40, i_41, i_42, i_43, i_44, i_45, i_46, i_47, i_48, i_49, i_50, i_51, i_52, i_53, i_54, i_55]))), (a_8, .inl (cy 1, 90, .inl f_0)), (a_13, .inl (cy 1, 450, .inl f_1)), (a_15, .inl (cy 1, 7200, .inl f_2)), (a_16, .inl (cy 1, 3, .inl f_3)), (a_18, .inl (cy 1, 8, .inl g182)), (a_20, .inl (cy 1, 4, .inl z72_8_175))]) hS
          have rg182 : mm_ar g182 0 9 := by rw [eg182]; exact mm_ar_upd (mm_ar_wk rz72_7_174 (by decide)) (mm_wk q180 (by decide)) _
          refine lv_aload_n hx hb dX12_rowsFrom_89 rfl (lv_at hl 1 rfl) ?_
          refine lv_iload_n hx hb dX12_rowsFrom_90 rfl (lv_at hl 2 rfl) ?_
          refine lv_iconst (v := 1) hx hb dX12_rowsFrom_91 (by decide) ?_
          refine lv_iadd hx hb dX12_rowsFrom_92 ?_
          refine lv_topi (fun v183 ev183 => ?_)
          obtain rfl : v183 = 2 := ev183.trans (by decide)
          refine lv_iload_n hx hb dX12_rowsFrom_93 rfl (lv_at hl 3 rfl) ?_
          refine lv_iload_n hx hb dX12_rowsFrom_94 rfl (lv_at hl 4 rfl) ?_
          refine lv_iload hx hb dX12_rowsFrom_95 (lv_at hl 5 rfl) ?_
          refine lv_iload hx hb dX12_rowsFrom_97 (lv_at hl 6 rfl) ?_
          refine mm_finv (va_runV (As := [.int 2, .int i_0, .int i_1, .int i_2, .int i_3]) (rest := []) ⟨hx, hb, hml, hown, hts⟩ (M225_X12_rowsFrom l G cy H.size a_0 i_0 i_1 i_2 i_3 i_4 a_1 a_2 a_3 a_4 a_5 i_5 i_6 i_7 i_8 i_9 j_0 i_10 i_11 i_12 i_13 a_6 a_7 a_8 a_9 a_10 a_11 a_12 a_13 a_14 a_15 a_16 a_17 a_18 i_14 y72_0_30_171 y72_0_31_172 i_17 i_18 i_19 a_19 y72_0_36_173 a_20 i_21 i_22 i_23 i_24 i_25 i_26 i_27 i_28 i_29 i_30 i_31 i_32 i_33 i_34 i_35 i_36 i_37 i_38 i_39 i_40 i_41 i_42 i_43 i_44 i_45 i_46 i_47 i_48 i_49 i_50 i_51 i_52 i_53 i_54 i_55 f_0 f_1 f_2 f_3 g182 z72_8_175 h0 h1 h2 h3 q2 h5 h6 h7 h8 h9 h10 h11 h12 h13 h14 h15 h16 h17 h18 h19 h20 h21 h22 h23 h24 h25 h26 h27 h28 h29 h30 h31 h32 h33 h34 h35 h36 h37 h38 h39 h40 h41 h42 h43 rg182 h45 h46 h47 h48 h49 h50 h51 h52 h53) (cwV 5 hts (mm_gV mm_w1405 mm_w1406 mm_w1407 mm_w5 mm_w1408) rfl rfl rfl hd_X12_rowsFrom ⟨by rw [hRf]; exact Nat.le_of_ble_eq_true rfl, by rw [hRl]; exact Nat.le_of_ble_eq_true rfl⟩) (mm_preV hK hZ hS hA hP hD [0, 1, 2, 3, 4, 5, 6, 7, 8] rfl rfl 0 rfl rfl rfl) rfl rfl hl.1 rfl (lv_room (Nat.le_of_ble_eq_true rfl)) dX12_rowsFrom_99 ⟨by rw [hRc]; exact Nat.le_of_ble_eq_true rfl, by rw [hRs]; exact Nat.le_of_ble_eq_true rfl⟩) hP hD hS hA (fun u : Int32 × Int32 × Int32 × (Nat → Int32) × (Nat → Int32) => [(a_0, .inr (12, [.int i_4, .ref a_1, .ref a_2, .ref a_3, .ref a_4, .ref a_5, .int i_5, .int i_6, .int i_7, .int i_8, .int i_9, .long j_0, .int i_10, .int i_11, .int i_12, .int i_13, .ref a_6, .ref a_7, .ref a_8, .ref a_9, .ref a_10, .ref a_11, .ref a_12, .ref a_13, .ref a_14, .ref a_15, .ref a_16, .ref a_17, .ref a_18, .int i_14, .int u.1, .int u.2.1, .int i_17, .int i_18, .int i_19, .ref a_19, .int u.2.2.1, .ref a_20])), (a_6, .inl (cy 1, 5, .inl (mm_g [i_21, i_22, i_23, i_24, i_25]))), (a_7, .inl (cy 1, 30, .inl (mm_g [i_26, i_27, i_28, i_29, i_30, i_31, i_32, i_33, i_34, i_35, i_36, i_37, i_38, i_39, i_40, i_41, i_42, i_43, i_44, i_45, i_46, i_47, i_48, i_49, i_50, i_51, i_52, i_53, i_54, i_55]))), (a_8, .inl (cy 1, 90, .inl f_0)), (a_13, .inl (cy 1, 450, .inl f_1)), (a_15, .inl (cy 1, 7200, .inl f_2)), (a_16, .inl (cy 1, 3, .inl f_3)), (a_18, .inl (cy 1, 8, .inl u.2.2.2.1)), (a_20, .inl (cy 1, 4, .inl u.2.2.2.2))]) [0, 1, 2, 3, 4, 5, 6, 7, 8] [] (n := 9) (fun _ => rfl) (by decide +kernel) (by decide +kernel) rfl (fun _ => rfl) (wr := []) rfl (fun _ => rfl) (fun _ => @rfl _ ([a_0, a_6, a_7, a_8, a_13, a_15, a_16, a_18, a_20] : List Nat)) ?_
          clear hP hD hS
          clear H locs
          intro u
          obtain ⟨n184, n185, n186, n187, n188⟩ := u
          intro H locs hw (hP : va_P G vwCl [(a_0, .inr (12, [.int i_4, .ref a_1, .ref a_2, .ref a_3, .ref a_4, .ref a_5, .int i_5, .int i_6, .int i_7, .int i_8, .int i_9, .long j_0, .int i_10, .int i_11, .int i_12, .int i_13, .ref a_6, .ref a_7, .ref a_8, .ref a_9, .ref a_10, .ref a_11, .ref a_12, .ref a_13, .ref a_14, .ref a_15, .ref a_16, .ref a_17, .ref a_18, .int i_14, .int n184, .int n185, .int i_17, .int i_18, .int i_19, .ref a_19, .int n186, .ref a_20])), (a_6, .inl (cy 1, 5, .inl (mm_g [i_21, i_22, i_23, i_24, i_25]))), (a_7, .inl (cy 1, 30, .inl (mm_g [i_26, i_27, i_28, i_29, i_30, i_31, i_32, i_33, i_34, i_35, i_36, i_37, i_38, i_39, i_40, i_41, i_42, i_43, i_44, i_45, i_46, i_47, i_48, i_49, i_50, i_51, i_52, i_53, i_54, i_55]))), (a_8, .inl (cy 1, 90, .inl f_0)), (a_13, .inl (cy 1, 450, .inl f_1)), (a_15, .inl (cy 1, 7200, .inl f_2)), (a_16, .inl (cy 1, 3, .inl f_3)), (a_18, .inl (cy 1, 8, .inl n187)), (a_20, .inl (cy 1, 4, .inl n188))] H) (hD : va_D A [(a_0, .inr (12, [.int i_4, .ref a_1, .ref a_2, .ref a_3, .ref a_4, .ref a_5, .int i_5, .int i_6, .int i_7, .int i_8, .int i_9, .long j_0, .int i_10, .int i_11, .int i_12, .int i_13, .ref a_6, .ref a_7, .ref a_8, .ref a_9, .ref a_10, .ref a_11, .ref a_12, .ref a_13, .ref a_14, .ref a_15, .ref a_16, .ref a_17, .ref a_18, .int i_14, .int n184, .int n185, .int i_17, .int i_18, .int i_19, .ref a_19, .int n186, .ref a_20])), (a_6, .inl (cy 1, 5, .inl (mm_g [i_21, i_22, i_23, i_24, i_25]))), (a_7, .inl (cy 1, 30, .inl (mm_g [i_26, i_27, i_28, i_29, i_30, i_31, i_32, i_33, i_34, i_35, i_36, i_37, i_38, i_39, i_40, i_41, i_42, i_43, i_44, i_45, i_46, i_47, i_48, i_49, i_50, i_51, i_52, i_53, i_54, i_55]))), (a_8, .inl (cy 1, 90, .inl f_0)), (a_13, .inl (cy 1, 450, .inl f_1)), (a_15, .inl (cy 1, 7200, .inl f_2)), (a_16, .inl (cy 1, 3, .inl f_3)), (a_18, .inl (cy 1, 8, .inl n187)), (a_20, .inl (cy 1, 4, .inl n188))]) hS
          have w189 := hw
          obtain ⟨v190, ev190⟩ : ∃ y : Int32, y = x72_6_170 + 1 := ⟨_, rfl⟩
          refine lv_iinc (v := v190) (lv' := [(6, .int v190), (0, .ref a_0), (1, .int 1), (2, .int i_0), (3, .int i_1), (4, .int i_2), (5, .int i_3)]) hx hb dX12_rowsFrom_102 hl (k := 0) rfl (by rw [ev190]; rfl) (by decide) rfl ?_
          clear hl
          clear ls
          intro ls hl
          have rv190 : mm_rg v190 1 10 := mm_add ev190 q180 mm_k1 (by decide) (by decide)
          have tv190 := mm_addEc ev190 q180 mm_k1 (by decide) (k := 1) (by decide)
          refine lv_goto (tgt := 72) hx hb dX12_rowsFrom_105 (by decide) ?_
          exact ih72 v190 n184 n185 n186 n187 n188 (mm_wk rv190 (by decide)) w189 (mm_mu hm72 tv190 (by decide) (rv190).2 (by decide)) H locs hP hD hS ls (lv_sub hl [0, 1, 2, 3, 4, 5, 6] rfl)
    exact L72_175 _ 0 i_15 i_16 i_20 f_4 f_5 (mm_wk mm_k0 (by decide)) h44 (Nat.lt_succ_self _) H locs hP hD hS ls (lv_sub hl [0, 1, 2, 3, 4, 5, 6] rfl)
  · have q191 := mm_eqI (lo := 1) (hi := 1) c1.symm h4 mm_k1 (by decide)
    refine lv_aload_n hx hb dX12_rowsFrom_8 rfl (lv_at hl 0 rfl) ?_
    refine lv_iload_n hx hb dX12_rowsFrom_9 rfl (lv_at hl 2 rfl) ?_
    refine lv_iload_n hx hb dX12_rowsFrom_10 rfl (lv_at hl 3 rfl) ?_
    refine lv_iload hx hb dX12_rowsFrom_11 (lv_at hl 4 rfl) ?_
    refine lv_iload hx hb dX12_rowsFrom_13 (lv_at hl 5 rfl) ?_
    refine mm_fini (va_runV (As := [.int i_0, .int i_1, .int i_2, .int i_3]) (rest := []) ⟨hx, hb, hml, hown, hts⟩ (M211_X12_isWording l G cy H.size a_0 i_0 i_1 i_2 i_3 i_4 a_1 a_2 a_3 a_4 a_5 i_5 i_6 i_7 i_8 i_9 j_0 i_10 i_11 i_12 i_13 a_6 a_7 a_8 a_9 a_10 a_11 a_12 a_13 a_14 a_15 a_16 a_17 a_18 i_14 i_15 i_16 i_17 i_18 i_19 a_19 i_20 a_20 i_26 i_27 i_28 i_29 i_30 i_31 i_32 i_33 i_34 i_35 i_36 i_37 i_38 i_39 i_40 i_41 i_42 i_43 i_44 i_45 i_46 i_47 i_48 i_49 i_50 i_51 i_52 i_53 i_54 i_55 f_0 f_1 f_2 f_3 f_4 h0 h1 h2 h3 (mm_wk q191 (by decide)) h10 h11 h12 h13 h14 h15 h16 h17 h18 h19 h20 h21 h22 h23 h24 h25 h26 h27 h28 h29 h30 h31 h32 h33 h34 h35 h36 h37 h38 h39 h40 h41 h42 h43 h44 h45 h47 h49 h51 h53) (cwV 4 hts (mm_gV mm_w1409 mm_w1410 mm_w1411 mm_w5 mm_w1412) rfl rfl rfl hd_X12_isWording ⟨by rw [hRf]; exact Nat.le_of_ble_eq_true rfl, by rw [hRl]; exact Nat.le_of_ble_eq_true rfl⟩) (mm_preV hK hZ hS hA hP hD [0, 2, 3, 4, 5, 6, 7] rfl rfl 0 rfl rfl rfl) rfl rfl hl.1 rfl (lv_room (Nat.le_of_ble_eq_true rfl)) dX12_rowsFrom_15 ⟨by rw [hRc]; exact Nat.le_of_ble_eq_true rfl, by rw [hRs]; exact Nat.le_of_ble_eq_true rfl⟩) hP hD hS hA (fun u : Int32 × Int32 => [(a_0, .inr (12, [.int i_4, .ref a_1, .ref a_2, .ref a_3, .ref a_4, .ref a_5, .int i_5, .int i_6, .int i_7, .int i_8, .int i_9, .long j_0, .int i_10, .int i_11, .int i_12, .int i_13, .ref a_6, .ref a_7, .ref a_8, .ref a_9, .ref a_10, .ref a_11, .ref a_12, .ref a_13, .ref a_14, .ref a_15, .ref a_16, .ref a_17, .ref a_18, .int i_14, .int u.1, .int u.2, .int i_17, .int i_18, .int i_19, .ref a_19, .int i_20, .ref a_20])), (a_6, .inl (cy 1, 5, .inl (mm_g [i_21, i_22, i_23, i_24, i_25]))), (a_7, .inl (cy 1, 30, .inl (mm_g [i_26, i_27, i_28, i_29, i_30, i_31, i_32, i_33, i_34, i_35, i_36, i_37, i_38, i_39, i_40, i_41, i_42, i_43, i_44, i_45, i_46, i_47, i_48, i_49, i_50, i_51, i_52, i_53, i_54, i_55]))), (a_8, .inl (cy 1, 90, .inl f_0)), (a_13, .inl (cy 1, 450, .inl f_1)), (a_15, .inl (cy 1, 7200, .inl f_2)), (a_16, .inl (cy 1, 3, .inl f_3)), (a_18, .inl (cy 1, 8, .inl f_4)), (a_20, .inl (cy 1, 4, .inl f_5))]) [0, 2, 3, 4, 5, 6, 7] [1, 8] (n := 9) (fun _ => rfl) (by decide +kernel) (by decide +kernel) rfl (fun _ => rfl) (wr := [(a_6, .inl (cy 1, 5, .inl (mm_g [i_21, i_22, i_23, i_24, i_25]))), (a_20, .inl (cy 1, 4, .inl f_5))]) rfl (fun _ => rfl) (fun _ => @rfl _ ([a_0, a_7, a_8, a_13, a_15, a_16, a_18] : List Nat)) ?_
    clear hP hD hS
    clear H locs
    intro v194 u
    obtain ⟨n192, n193⟩ := u
    intro H locs hw (hP : va_P G vwCl [(a_0, .inr (12, [.int i_4, .ref a_1, .ref a_2, .ref a_3, .ref a_4, .ref a_5, .int i_5, .int i_6, .int i_7, .int i_8, .int i_9, .long j_0, .int i_10, .int i_11, .int i_12, .int i_13, .ref a_6, .ref a_7, .ref a_8, .ref a_9, .ref a_10, .ref a_11, .ref a_12, .ref a_13, .ref a_14, .ref a_15, .ref a_16, .ref a_17, .ref a_18, .int i_14, .int n192, .int n193, .int i_17, .int i_18, .int i_19, .ref a_19, .int i_20, .ref a_20])), (a_6, .inl (cy 1, 5, .inl (mm_g [i_21, i_22, i_23, i_24, i_25]))), (a_7, .inl (cy 1, 30, .inl (mm_g [i_26, i_27, i_28, i_29, i_30, i_31, i_32, i_33, i_34, i_35, i_36, i_37, i_38, i_39, i_40, i_41, i_42, i_43, i_44, i_45, i_46, i_47, i_48, i_49, i_50, i_51, i_52, i_53, i_54, i_55]))), (a_8, .inl (cy 1, 90, .inl f_0)), (a_13, .inl (cy 1, 450, .inl f_1)), (a_15, .inl (cy 1, 7200, .inl f_2)), (a_16, .inl (cy 1, 3, .inl f_3)), (a_18, .inl (cy 1, 8, .inl f_4)), (a_20, .inl (cy 1, 4, .inl f_5))] H) (hD : va_D A [(a_0, .inr (12, [.int i_4, .ref a_1, .ref a_2, .ref a_3, .ref a_4, .ref a_5, .int i_5, .int i_6, .int i_7, .int i_8, .int i_9, .long j_0, .int i_10, .int i_11, .int i_12, .int i_13, .ref a_6, .ref a_7, .ref a_8, .ref a_9, .ref a_10, .ref a_11, .ref a_12, .ref a_13, .ref a_14, .ref a_15, .ref a_16, .ref a_17, .ref a_18, .int i_14, .int n192, .int n193, .int i_17, .int i_18, .int i_19, .ref a_19, .int i_20, .ref a_20])), (a_6, .inl (cy 1, 5, .inl (mm_g [i_21, i_22, i_23, i_24, i_25]))), (a_7, .inl (cy 1, 30, .inl (mm_g [i_26, i_27, i_28, i_29, i_30, i_31, i_32, i_33, i_34, i_35, i_36, i_37, i_38, i_39, i_40, i_41, i_42, i_43, i_44, i_45, i_46, i_47, i_48, i_49, i_50, i_51, i_52, i_53, i_54, i_55]))), (a_8, .inl (cy 1, 90, .inl f_0)), (a_13, .inl (cy 1, 450, .inl f_1)), (a_15, .inl (cy 1, 7200, .inl f_2)), (a_16, .inl (cy 1, 3, .inl f_3)), (a_18, .inl (cy 1, 8, .inl f_4)), (a_20, .inl (cy 1, 4, .inl f_5))]) hS
    rcases hw with rfl | rfl
    · refine lv_if_ne (tgt := 22) hx hb dX12_rowsFrom_18 (by decide) (fun c195 => ?_) (fun c195 => ?_)
      · exact absurd rfl (mm_ne c195)
      · subst hAe
        rw [hQ]
        exact W.vret hx hb hr (fun t ht hW => ⟨⟨(n192, n193, i_20, f_4, f_5), rfl, h44, by rw [ht]; exact hP, hK.warm hW, hD⟩, hS.F ht⟩) hS.2.2 dX12_rowsFrom_21
    · refine lv_if_ne (tgt := 22) hx hb dX12_rowsFrom_18 (by decide) (fun c196 => ?_) (fun c196 => ?_)
      · refine lv_iconst (v := 0) hx hb dX12_rowsFrom_22 (by decide) ?_
        refine lv_istore (lv' := [(6, .int 0), (0, .ref a_0), (1, .int 1), (2, .int i_0), (3, .int i_1), (4, .int i_2), (5, .int i_3)]) hx hb dX12_rowsFrom_23 hl (by decide) rfl ?_
        clear hl
        clear ls
        intro ls hl
        have L25_219 : ∀ (n : Nat) (x25_6_218 : Int32) (z25_8_219 : Nat → Int32), mm_rg x25_6_218 0 1 → (1 - x25_6_218.toInt).toNat < n → ∀ (H : Heap) (locs : List Loc), va_P G vwCl [(a_0, .inr (12, [.int i_4, .ref a_1, .ref a_2, .ref a_3, .ref a_4, .ref a_5, .int i_5, .int i_6, .int i_7, .int i_8, .int i_9, .long j_0, .int i_10, .int i_11, .int i_12, .int i_13, .ref a_6, .ref a_7, .ref a_8, .ref a_9, .ref a_10, .ref a_11, .ref a_12, .ref a_13, .ref a_14, .ref a_15, .ref a_16, .ref a_17, .ref a_18, .int i_14, .int n192, .int n193, .int i_17, .int i_18, .int i_19, .ref a_19, .int i_20, .ref a_20])), (a_6, .inl (cy 1, 5, .inl (mm_g [i_21, i_22, i_23, i_24, i_25]))), (a_7, .inl (cy 1, 30, .inl (mm_g [i_26, i_27, i_28, i_29, i_30, i_31, i_32, i_33, i_34, i_35, i_36, i_37, i_38, i_39, i_40, i_41, i_42, i_43, i_44, i_45, i_46, i_47, i_48, i_49, i_50, i_51, i_52, i_53, i_54, i_55]))), (a_8, .inl (cy 1, 90, .inl f_0)), (a_13, .inl (cy 1, 450, .inl f_1)), (a_15, .inl (cy 1, 7200, .inl f_2)), (a_16, .inl (cy 1, 3, .inl f_3)), (a_18, .inl (cy 1, 8, .inl f_4)), (a_20, .inl (cy 1, 4, .inl z25_8_219))] H → va_D A [(a_0, .inr (12, [.int i_4, .ref a_1, .ref a_2, .ref a_3, .ref a_4, .ref a_5, .int i_5, .int i_6, .int i_7, .int i_8, .int i_9, .long j_0, .int i_10, .int i_11, .int i_12, .int i_13, .ref a_6, .ref a_7, .ref a_8, .ref a_9, .ref a_10, .ref a_11, .ref a_12, .ref a_13, .ref a_14, .ref a_15, .ref a_16, .ref a_17, .ref a_18, .int i_14, .int n192, .int n193, .int i_17, .int i_18, .int i_19, .ref a_19, .int i_20, .ref a_20])), (a_6, .inl (cy 1, 5, .inl (mm_g [i_21, i_22, i_23, i_24, i_25]))), (a_7, .inl (cy 1, 30, .inl (mm_g [i_26, i_27, i_28, i_29, i_30, i_31, i_32, i_33, i_34, i_35, i_36, i_37, i_38, i_39, i_40, i_41, i_42, i_43, i_44, i_45, i_46, i_47, i_48, i_49, i_50, i_51, i_52, i_53, i_54, i_55]))), (a_8, .inl (cy 1, 90, .inl f_0)), (a_13, .inl (cy 1, 450, .inl f_1)), (a_15, .inl (cy 1, 7200, .inl f_2)), (a_16, .inl (cy 1, 3, .inl f_3)), (a_18, .inl (cy 1, 8, .inl f_4)), (a_20, .inl (cy 1, 4, .inl z25_8_219))] → va_S A s.heap H locs → ∀ (ls : Array Slot), lv_has ls 7 [(6, .int x25_6_218), (0, .ref a_0), (1, .int 1), (2, .int i_0), (3, .int i_1), (4, .int i_2), (5, .int i_3)] → W p l e R s m args below meth c H locs 0 0 Q (F0 m 25 ls []) := by
          intro n
          induction n with
          | zero => intro x25_6_218 z25_8_219 rx25_6_218 hm; exact absurd hm (Nat.not_lt_zero _)
          | succ n ih25 =>
            intro x25_6_218 z25_8_219 rx25_6_218 hm25 H locs hP hD hS ls hl
            refine lv_iload hx hb dX12_rowsFrom_25 (lv_at hl 0 rfl) ?_
            refine lv_iload_n hx hb dX12_rowsFrom_27 rfl (lv_at hl 2 rfl) ?_
            refine lv_icmp_ge (tgt := 58) hx hb dX12_rowsFrom_28 (by decide) (fun c221 => ?_) (fun c221 => ?_)
            · have q222 := mm_leR (mm_le c221) mm_k1 rx25_6_218
              refine lv_aload_n hx hb dX12_rowsFrom_58 rfl (lv_at hl 1 rfl) ?_
              refine lv_dup hx hb dX12_rowsFrom_59 rfl ?_
              refine va_get (D := G) (ci := 12) (v := .int i_20) (C := RX12) (T := TX12) (N := 38) hx hb hts (mm_i inlX12) hown hK.1 hP 0 rfl rfl 36 (by decide) (mm_h hts mm_w1404) (fun _ h9 => h9) rfl dX12_rowsFrom_60 ?_
              refine lv_iconst (v := 1) hx hb dX12_rowsFrom_63 (by decide) ?_
              refine lv_iadd hx hb dX12_rowsFrom_64 ?_
              refine lv_topi (fun v223 ev223 => ?_)
              refine va_put (D := G) (ci := 12) (v := .int v223) (ty := tyX12 36) (C := RX12) (T := TX12) (N := 38) hx hb hts (mm_i inlX12) tyX12 tyX12_ok nmX12 hown hK.1 hP hD hS 0 rfl rfl 36 (by decide) (mm_h hts mm_w1404) (fun _ h9 => h9) rfl (tyX12_ok 36 (by decide)) rfl rfl (Nat.le_of_ble_eq_true rfl) dX12_rowsFrom_65 ?_
              clear hP hD hS
              clear H locs
              intro H locs (hP : va_P G vwCl [(a_0, .inr (12, [.int i_4, .ref a_1, .ref a_2, .ref a_3, .ref a_4, .ref a_5, .int i_5, .int i_6, .int i_7, .int i_8, .int i_9, .long j_0, .int i_10, .int i_11, .int i_12, .int i_13, .ref a_6, .ref a_7, .ref a_8, .ref a_9, .ref a_10, .ref a_11, .ref a_12, .ref a_13, .ref a_14, .ref a_15, .ref a_16, .ref a_17, .ref a_18, .int i_14, .int n192, .int n193, .int i_17, .int i_18, .int i_19, .ref a_19, .int v223, .ref a_20])), (a_6, .inl (cy 1, 5, .inl (mm_g [i_21, i_22, i_23, i_24, i_25]))), (a_7, .inl (cy 1, 30, .inl (mm_g [i_26, i_27, i_28, i_29, i_30, i_31, i_32, i_33, i_34, i_35, i_36, i_37, i_38, i_39, i_40, i_41, i_42, i_43, i_44, i_45, i_46, i_47, i_48, i_49, i_50, i_51, i_52, i_53, i_54, i_55]))), (a_8, .inl (cy 1, 90, .inl f_0)), (a_13, .inl (cy 1, 450, .inl f_1)), (a_15, .inl (cy 1, 7200, .inl f_2)), (a_16, .inl (cy 1, 3, .inl f_3)), (a_18, .inl (cy 1, 8, .inl f_4)), (a_20, .inl (cy 1, 4, .inl z25_8_219))] H) (hD : va_D A [(a_0, .inr (12, [.int i_4, .ref a_1, .ref a_2, .ref a_3, .ref a_4, .ref a_5, .int i_5, .int i_6, .int i_7, .int i_8, .int i_9, .long j_0, .int i_10, .int i_11, .int i_12, .int i_13, .ref a_6, .ref a_7, .ref a_8, .ref a_9, .ref a_10, .ref a_11, .ref a_12, .ref a_13, .ref a_14, .ref a_15, .ref a_16, .ref a_17, .ref a_18, .int i_14, .int n192, .int n193, .int i_17, .int i_18, .int i_19, .ref a_19, .int v223, .ref a_20])), (a_6, .inl (cy 1, 5, .inl (mm_g [i_21, i_22, i_23, i_24, i_25]))), (a_7, .inl (cy 1, 30, .inl (mm_g [i_26, i_27, i_28, i_29, i_30, i_31, i_32, i_33, i_34, i_35, i_36, i_37, i_38, i_39, i_40, i_41, i_42, i_43, i_44, i_45, i_46, i_47, i_48, i_49, i_50, i_51, i_52, i_53, i_54, i_55]))), (a_8, .inl (cy 1, 90, .inl f_0)), (a_13, .inl (cy 1, 450, .inl f_1)), (a_15, .inl (cy 1, 7200, .inl f_2)), (a_16, .inl (cy 1, 3, .inl f_3)), (a_18, .inl (cy 1, 8, .inl f_4)), (a_20, .inl (cy 1, 4, .inl z25_8_219))]) hS
              subst hAe
              rw [hQ]
              exact W.vret hx hb hr (fun t ht hW => ⟨⟨(n192, n193, v223, f_4, z25_8_219), rfl, h44, by rw [ht]; exact hP, hK.warm hW, hD⟩, hS.F ht⟩) hS.2.2 dX12_rowsFrom_68
            · have q224 := mm_ltL (h := 0) (mm_nle c221) rx25_6_218 mm_k1 (by decide)
              refine lv_aload_n hx hb dX12_rowsFrom_31 rfl (lv_at hl 1 rfl) ?_
              refine va_get (D := G) (ci := 12) (v := .int i_20) (C := RX12) (T := TX12) (N := 38) hx hb hts (mm_i inlX12) hown hK.1 hP 0 rfl rfl 36 (by decide) (mm_h hts mm_w1404) (fun _ h9 => h9) rfl dX12_rowsFrom_32 ?_
              refine lv_if_ne (tgt := 58) hx hb dX12_rowsFrom_35 (by decide) (fun c225 => ?_) (fun c225 => ?_)
              · refine lv_aload_n hx hb dX12_rowsFrom_58 rfl (lv_at hl 1 rfl) ?_
                refine lv_dup hx hb dX12_rowsFrom_59 rfl ?_
                refine va_get (D := G) (ci := 12) (v := .int i_20) (C := RX12) (T := TX12) (N := 38) hx hb hts (mm_i inlX12) hown hK.1 hP 0 rfl rfl 36 (by decide) (mm_h hts mm_w1404) (fun _ h9 => h9) rfl dX12_rowsFrom_60 ?_
                refine lv_iconst (v := 1) hx hb dX12_rowsFrom_63 (by decide) ?_
                refine lv_iadd hx hb dX12_rowsFrom_64 ?_
                refine lv_topi (fun v226 ev226 => ?_)
                refine va_put (D := G) (ci := 12) (v := .int v226) (ty := tyX12 36) (C := RX12) (T := TX12) (N := 38) hx hb hts (mm_i inlX12) tyX12 tyX12_ok nmX12 hown hK.1 hP hD hS 0 rfl rfl 36 (by decide) (mm_h hts mm_w1404) (fun _ h9 => h9) rfl (tyX12_ok 36 (by decide)) rfl rfl (Nat.le_of_ble_eq_true rfl) dX12_rowsFrom_65 ?_
                clear hP hD hS
                clear H locs
                intro H locs (hP : va_P G vwCl [(a_0, .inr (12, [.int i_4, .ref a_1, .ref a_2, .ref a_3, .ref a_4, .ref a_5, .int i_5, .int i_6, .int i_7, .int i_8, .int i_9, .long j_0, .int i_10, .int i_11, .int i_12, .int i_13, .ref a_6, .ref a_7, .ref a_8, .ref a_9, .ref a_10, .ref a_11, .ref a_12, .ref a_13, .ref a_14, .ref a_15, .ref a_16, .ref a_17, .ref a_18, .int i_14, .int n192, .int n193, .int i_17, .int i_18, .int i_19, .ref a_19, .int v226, .ref a_20])), (a_6, .inl (cy 1, 5, .inl (mm_g [i_21, i_22, i_23, i_24, i_25]))), (a_7, .inl (cy 1, 30, .inl (mm_g [i_26, i_27, i_28, i_29, i_30, i_31, i_32, i_33, i_34, i_35, i_36, i_37, i_38, i_39, i_40, i_41, i_42, i_43, i_44, i_45, i_46, i_47, i_48, i_49, i_50, i_51, i_52, i_53, i_54, i_55]))), (a_8, .inl (cy 1, 90, .inl f_0)), (a_13, .inl (cy 1, 450, .inl f_1)), (a_15, .inl (cy 1, 7200, .inl f_2)), (a_16, .inl (cy 1, 3, .inl f_3)), (a_18, .inl (cy 1, 8, .inl f_4)), (a_20, .inl (cy 1, 4, .inl z25_8_219))] H) (hD : va_D A [(a_0, .inr (12, [.int i_4, .ref a_1, .ref a_2, .ref a_3, .ref a_4, .ref a_5, .int i_5, .int i_6, .int i_7, .int i_8, .int i_9, .long j_0, .int i_10, .int i_11, .int i_12, .int i_13, .ref a_6, .ref a_7, .ref a_8, .ref a_9, .ref a_10, .ref a_11, .ref a_12, .ref a_13, .ref a_14, .ref a_15, .ref a_16, .ref a_17, .ref a_18, .int i_14, .int n192, .int n193, .int i_17, .int i_18, .int i_19, .ref a_19, .int v226, .ref a_20])), (a_6, .inl (cy 1, 5, .inl (mm_g [i_21, i_22, i_23, i_24, i_25]))), (a_7, .inl (cy 1, 30, .inl (mm_g [i_26, i_27, i_28, i_29, i_30, i_31, i_32, i_33, i_34, i_35, i_36, i_37, i_38, i_39, i_40, i_41, i_42, i_43, i_44, i_45, i_46, i_47, i_48, i_49, i_50, i_51, i_52, i_53, i_54, i_55]))), (a_8, .inl (cy 1, 90, .inl f_0)), (a_13, .inl (cy 1, 450, .inl f_1)), (a_15, .inl (cy 1, 7200, .inl f_2)), (a_16, .inl (cy 1, 3, .inl f_3)), (a_18, .inl (cy 1, 8, .inl f_4)), (a_20, .inl (cy 1, 4, .inl z25_8_219))]) hS
                subst hAe
                rw [hQ]
                exact W.vret hx hb hr (fun t ht hW => ⟨⟨(n192, n193, v226, f_4, z25_8_219), rfl, h44, by rw [ht]; exact hP, hK.warm hW, hD⟩, hS.F ht⟩) hS.2.2 dX12_rowsFrom_68
              · have q227 := mm_eqI (lo := 0) (hi := 0) c225 (mm_top i_20) mm_k0 (by decide)
                refine lv_aload_n hx hb dX12_rowsFrom_38 rfl (lv_at hl 1 rfl) ?_
                refine va_get (D := G) (ci := 12) (v := .ref a_20) (C := RX12) (T := TX12) (N := 38) hx hb hts (mm_i inlX12) hown hK.1 hP 0 rfl rfl 37 (by decide) (mm_h hts mm_w162) (fun _ h9 => h9) rfl dX12_rowsFrom_39 ?_
                refine lv_iload hx hb dX12_rowsFrom_42 (lv_at hl 0 rfl) ?_
                refine lv_aload_n hx hb dX12_rowsFrom_44 rfl (lv_at hl 1 rfl) ?_
                refine va_get (D := G) (ci := 12) (v := .ref a_18) (C := RX12) (T := TX12) (N := 38) hx hb hts (mm_i inlX12) hown hK.1 hP 0 rfl rfl 28 (by decide) (mm_h hts mm_w160) (fun _ h9 => h9) rfl dX12_rowsFrom_45 ?_
                refine lv_iload hx hb dX12_rowsFrom_48 (lv_at hl 0 rfl) ?_
                refine va_iald hx hb hK.1 hP 7 1 rfl rfl (mm_in q224 (by decide)) dX12_rowsFrom_50 ?_
                refine lv_topi (fun v228 ev228 => ?_)
                have rv228 : mm_rg v228 0 9 := mm_eqv ev228 (h44 _)
                refine va_iast hx hb hK.1 hP hD hS 8 1 rfl rfl (mm_in q224 (by decide)) dX12_rowsFrom_51 ?_
                clear hP hD hS
                clear H locs
                obtain ⟨g229, eg229⟩ : ∃ z : Nat → Int32, z = upd z25_8_219 x25_6_218.toNatClampNeg v228 := ⟨_, rfl⟩
                rw [← eg229]
                intro H locs (hP : va_P G vwCl [(a_0, .inr (12, [.int i_4, .ref a_1, .ref a_2, .ref a_3, .ref a_4, .ref a_5, .int i_5, .int i_6, .int i_7, .int i_8, .int i_9, .long j_0, .int i_10, .int i_11, .int i_12, .int i_13, .ref a_6, .ref a_7, .ref a_8, .ref a_9, .ref a_10, .ref a_11, .ref a_12, .ref a_13, .ref a_14, .ref a_15, .ref a_16, .ref a_17, .ref a_18, .int i_14, .int n192, .int n193, .int i_17, .int i_18, .int i_19, .ref a_19, .int i_20, .ref a_20])), (a_6, .inl (cy 1, 5, .inl (mm_g [i_21, i_22, i_23, i_24, i_25]))), (a_7, .inl (cy 1, 30, .inl (mm_g [i_26, i_27, i_28, i_29, i_30, i_31, i_32, i_33, i_34, i_35, i_36, i_37, i_38, i_39, i_40, i_41, i_42, i_43, i_44, i_45, i_46, i_47, i_48, i_49, i_50, i_51, i_52, i_53, i_54, i_55]))), (a_8, .inl (cy 1, 90, .inl f_0)), (a_13, .inl (cy 1, 450, .inl f_1)), (a_15, .inl (cy 1, 7200, .inl f_2)), (a_16, .inl (cy 1, 3, .inl f_3)), (a_18, .inl (cy 1, 8, .inl f_4)), (a_20, .inl (cy 1, 4, .inl g229))] H) (hD : va_D A [(a_0, .inr (12, [.int i_4, .ref a_1, .ref a_2, .ref a_3, .ref a_4, .ref a_5, .int i_5, .int i_6, .int i_7, .int i_8, .int i_9, .long j_0, .int i_10, .int i_11, .int i_12, .int i_13, .ref a_6, .ref a_7, .ref a_8, .ref a_9, .ref a_10, .ref a_11, .ref a_12, .ref a_13, .ref a_14, .ref a_15, .ref a_16, .ref a_17, .ref a_18, .int i_14, .int n192, .int n193, .int i_17, .int i_18, .int i_19, .ref a_19, .int i_20, .ref a_20])), (a_6, .inl (cy 1, 5, .inl (mm_g [i_21, i_22, i_23, i_24, i_25]))), (a_7, .inl (cy 1, 30, .inl (mm_g [i_26, i_27, i_28, i_29, i_30, i_31, i_32, i_33, i_34, i_35, i_36, i_37, i_38, i_39, i_40, i_41, i_42, i_43, i_44, i_45, i_46, i_47, i_48, i_49, i_50, i_51, i_52, i_53, i_54, i_55]))), (a_8, .inl (cy 1, 90, .inl f_0)), (a_13, .inl (cy 1, 450, .inl f_1)), (a_15, .inl (cy 1, 7200, .inl f_2)), (a_16, .inl (cy 1, 3, .inl f_3)), (a_18, .inl (cy 1, 8, .inl f_4)), (a_20, .inl (cy 1, 4, .inl g229))]) hS
                obtain ⟨v230, ev230⟩ : ∃ y : Int32, y = x25_6_218 + 1 := ⟨_, rfl⟩
                refine lv_iinc (v := v230) (lv' := [(6, .int v230), (0, .ref a_0), (1, .int 1), (2, .int i_0), (3, .int i_1), (4, .int i_2), (5, .int i_3)]) hx hb dX12_rowsFrom_52 hl (k := 0) rfl (by rw [ev230]; rfl) (by decide) rfl ?_
                clear hl
                clear ls
                intro ls hl
                have rv230 : mm_rg v230 1 1 := mm_add ev230 q224 mm_k1 (by decide) (by decide)
                have tv230 := mm_addEc ev230 q224 mm_k1 (by decide) (k := 1) (by decide)
                refine lv_goto (tgt := 25) hx hb dX12_rowsFrom_55 (by decide) ?_
                exact ih25 v230 g229 (mm_wk rv230 (by decide)) (mm_mu hm25 tv230 (by decide) (rv230).2 (by decide)) H locs hP hD hS ls (lv_sub hl [0, 1, 2, 3, 4, 5, 6] rfl)
        exact L25_219 _ 0 f_5 (mm_wk mm_k0 (by decide)) (Nat.lt_succ_self _) H locs hP hD hS ls (lv_sub hl [0, 1, 2, 3, 4, 5, 6] rfl)
      · exact mm_eqN c196.symm mm_k0 mm_k1 (by decide)

set_option maxHeartbeats 4000000 in
set_option maxRecDepth 100000 in
theorem M227_X12_rowsFrom (l : Launch) (G : va_G) (cy : Nat → ClassId) (sz : Nat) (a_0 : Nat) (i_0 : Int32) (i_1 : Int32) (i_2 : Int32) (i_3 : Int32) (i_4 : Int32) (a_1 : Nat) (a_2 : Nat) (a_3 : Nat) (a_4 : Nat) (a_5 : Nat) (i_5 : Int32) (i_6 : Int32) (i_7 : Int32) (i_8 : Int32) (i_9 : Int32) (j_0 : Int64) (i_10 : Int32) (i_11 : Int32) (i_12 : Int32) (i_13 : Int32) (a_6 : Nat) (a_7 : Nat) (a_8 : Nat) (a_9 : Nat) (a_10 : Nat) (a_11 : Nat) (a_12 : Nat) (a_13 : Nat) (a_14 : Nat) (a_15 : Nat) (a_16 : Nat) (a_17 : Nat) (a_18 : Nat) (i_14 : Int32) (i_15 : Int32) (i_16 : Int32) (i_17 : Int32) (i_18 : Int32) (i_19 : Int32) (a_19 : Nat) (i_20 : Int32) (a_20 : Nat) (i_21 : Int32) (i_22 : Int32) (i_23 : Int32) (i_24 : Int32) (i_25 : Int32) (i_26 : Int32) (i_27 : Int32) (i_28 : Int32) (i_29 : Int32) (i_30 : Int32) (i_31 : Int32) (i_32 : Int32) (i_33 : Int32) (i_34 : Int32) (i_35 : Int32) (i_36 : Int32) (i_37 : Int32) (i_38 : Int32) (i_39 : Int32) (i_40 : Int32) (i_41 : Int32) (i_42 : Int32) (i_43 : Int32) (i_44 : Int32) (i_45 : Int32) (i_46 : Int32) (i_47 : Int32) (i_48 : Int32) (i_49 : Int32) (i_50 : Int32) (i_51 : Int32) (i_52 : Int32) (i_53 : Int32) (i_54 : Int32) (i_55 : Int32) (f_0 : Nat → Int32) (f_1 : Nat → Int32) (f_2 : Nat → Int32) (f_3 : Nat → Int32) (f_4 : Nat → Int32) (f_5 : Nat → Int32) (h0 : mm_rg i_0 0 2) (h1 : mm_rg i_1 0 1000000000) (h2 : mm_rg i_2 1 7) (h3 : mm_rg i_3 0 9999) (h4 : mm_rg i_14 1 4) (h5 : mm_rg i_21 0 601) (h6 : mm_rg i_22 0 601) (h7 : mm_rg i_23 0 601) (h8 : mm_rg i_24 0 601) (h9 : mm_rg i_25 0 601) (h10 : mm_rg i_26 0 10) (h11 : mm_rg i_27 0 99) (h12 : mm_rg i_28 0 9) (h13 : mm_rg i_29 0 3) (h14 : mm_rg i_30 0 6) (h15 : mm_rg i_31 0 30) (h16 : mm_rg i_32 0 10) (h17 : mm_rg i_33 0 99) (h18 : mm_rg i_34 0 9) (h19 : mm_rg i_35 0 3) (h20 : mm_rg i_36 0 6) (h21 : mm_rg i_37 0 30) (h22 : mm_rg i_38 0 10) (h23 : mm_rg i_39 0 99) (h24 : mm_rg i_40 0 9) (h25 : mm_rg i_41 0 3) (h26 : mm_rg i_42 0 6) (h27 : mm_rg i_43 0 30) (h28 : mm_rg i_44 0 10) (h29 : mm_rg i_45 0 99) (h30 : mm_rg i_46 0 9) (h31 : mm_rg i_47 0 3) (h32 : mm_rg i_48 0 6) (h33 : mm_rg i_49 0 30) (h34 : mm_rg i_50 0 10) (h35 : mm_rg i_51 0 99) (h36 : mm_rg i_52 0 9) (h37 : mm_rg i_53 0 3) (h38 : mm_rg i_54 0 6) (h39 : mm_rg i_55 0 30) (h40 : mm_ar f_0 0 99) (h41 : mm_ar f_1 (-1) 99) (h42 : mm_ar f_2 0 9) (h43 : mm_ar f_3 0 210) (h44 : mm_ar f_4 0 9) (h45 : mm_acs f_1 0 i_28 i_29 i_31) (h46 : mm_tl i_21 i_29 i_30) (h47 : mm_acs f_1 1 i_34 i_35 i_37) (h48 : mm_tl i_22 i_35 i_36) (h49 : mm_acs f_1 2 i_40 i_41 i_43) (h50 : mm_tl i_23 i_41 i_42) (h51 : mm_acs f_1 3 i_46 i_47 i_49) (h52 : mm_tl i_24 i_47 i_48) (h53 : mm_f1 f_3 i_0)  : mm_CV l yX12_rowsFrom (mm_ws yX12_rowsFrom cX12_rowsFrom 7 (none)) ({ frames := 7, cells := 0, slots := 0, locals := 179 } : Room) G cy sz [(a_0, .inr (12, [.int i_4, .ref a_1, .ref a_2, .ref a_3, .ref a_4, .ref a_5, .int i_5, .int i_6, .int i_7, .int i_8, .int i_9, .long j_0, .int i_10, .int i_11, .int i_12, .int i_13, .ref a_6, .ref a_7, .ref a_8, .ref a_9, .ref a_10, .ref a_11, .ref a_12, .ref a_13, .ref a_14, .ref a_15, .ref a_16, .ref a_17, .ref a_18, .int i_14, .int i_15, .int i_16, .int i_17, .int i_18, .int i_19, .ref a_19, .int i_20, .ref a_20])), (a_6, .inl (cy 1, 5, .inl (mm_g [i_21, i_22, i_23, i_24, i_25]))), (a_7, .inl (cy 1, 30, .inl (mm_g [i_26, i_27, i_28, i_29, i_30, i_31, i_32, i_33, i_34, i_35, i_36, i_37, i_38, i_39, i_40, i_41, i_42, i_43, i_44, i_45, i_46, i_47, i_48, i_49, i_50, i_51, i_52, i_53, i_54, i_55]))), (a_8, .inl (cy 1, 90, .inl f_0)), (a_13, .inl (cy 1, 450, .inl f_1)), (a_15, .inl (cy 1, 7200, .inl f_2)), (a_16, .inl (cy 1, 3, .inl f_3)), (a_18, .inl (cy 1, 8, .inl f_4)), (a_20, .inl (cy 1, 4, .inl f_5))] [.ref a_0, .int 0, .int i_0, .int i_1, .int i_2, .int i_3] (fun u : Int32 × Int32 × Int32 × (Nat → Int32) × (Nat → Int32) => [(a_0, .inr (12, [.int i_4, .ref a_1, .ref a_2, .ref a_3, .ref a_4, .ref a_5, .int i_5, .int i_6, .int i_7, .int i_8, .int i_9, .long j_0, .int i_10, .int i_11, .int i_12, .int i_13, .ref a_6, .ref a_7, .ref a_8, .ref a_9, .ref a_10, .ref a_11, .ref a_12, .ref a_13, .ref a_14, .ref a_15, .ref a_16, .ref a_17, .ref a_18, .int i_14, .int u.1, .int u.2.1, .int i_17, .int i_18, .int i_19, .ref a_19, .int u.2.2.1, .ref a_20])), (a_6, .inl (cy 1, 5, .inl (mm_g [i_21, i_22, i_23, i_24, i_25]))), (a_7, .inl (cy 1, 30, .inl (mm_g [i_26, i_27, i_28, i_29, i_30, i_31, i_32, i_33, i_34, i_35, i_36, i_37, i_38, i_39, i_40, i_41, i_42, i_43, i_44, i_45, i_46, i_47, i_48, i_49, i_50, i_51, i_52, i_53, i_54, i_55]))), (a_8, .inl (cy 1, 90, .inl f_0)), (a_13, .inl (cy 1, 450, .inl f_1)), (a_15, .inl (cy 1, 7200, .inl f_2)), (a_16, .inl (cy 1, 3, .inl f_3)), (a_18, .inl (cy 1, 8, .inl u.2.2.2.1)), (a_20, .inl (cy 1, 4, .inl u.2.2.2.2))]) (fun u : Int32 × Int32 × Int32 × (Nat → Int32) × (Nat → Int32) => mm_ar u.2.2.2.1 0 9) 0 0 := by
  refine mm_begin (lv := [(0, .ref a_0), (1, .int 0), (2, .int i_0), (3, .int i_1), (4, .int i_2), (5, .int i_3)]) (by decide) (Nat.le_of_ble_eq_true rfl) rfl ?_
  intro p e s m below meth c A ls R args Q H locs hRe hQ hAe hx hb hr hlocks hml hown hnm hts hsz hA hS hP hK hD hZ hl
  have hRf : R.frames = 7 := by rw [hRe]
  have hRl : R.locals = 179 := by rw [hRe]
  have hRc : R.cells = 0 := by rw [hRe]
  have hRs : R.slots = 0 := by rw [hRe]
  refine lv_iload_n hx hb dX12_rowsFrom_0 rfl (lv_at hl 1 rfl) ?_
  refine lv_aload_n hx hb dX12_rowsFrom_1 rfl (lv_at hl 0 rfl) ?_
  refine va_get (D := G) (ci := 12) (v := .int i_14) (C := RX12) (T := TX12) (N := 38) hx hb hts (mm_i inlX12) hown hK.1 hP 0 rfl rfl 29 (by decide) (mm_h hts mm_w860) (fun _ h9 => h9) rfl dX12_rowsFrom_2 ?_
  refine lv_icmp_ne (tgt := 69) hx hb dX12_rowsFrom_5 (by decide) (fun c1 => ?_) (fun c1 => ?_)
  · refine lv_iconst (v := 0) hx hb dX12_rowsFrom_69 (by decide) ?_
    refine lv_istore (lv' := [(6, .int 0), (0, .ref a_0), (1, .int 0), (2, .int i_0), (3, .int i_1), (4, .int i_2), (5, .int i_3)]) hx hb dX12_rowsFrom_70 hl (by decide) rfl ?_
    clear hl
    clear ls
    intro ls hl
    have L72_174 : ∀ (n : Nat) (x72_6_169 : Int32) (y72_0_30_170 : Int32) (y72_0_31_171 : Int32) (y72_0_36_172 : Int32) (z72_7_173 : Nat → Int32) (z72_8_174 : Nat → Int32), mm_rg x72_6_169 0 10 → mm_ar z72_7_173 0 9 → (10 - x72_6_169.toInt).toNat < n → ∀ (H : Heap) (locs : List Loc), va_P G vwCl [(a_0, .inr (12, [.int i_4, .ref a_1, .ref a_2, .ref a_3, .ref a_4, .ref a_5, .int i_5, .int i_6, .int i_7, .int i_8, .int i_9, .long j_0, .int i_10, .int i_11, .int i_12, .int i_13, .ref a_6, .ref a_7, .ref a_8, .ref a_9, .ref a_10, .ref a_11, .ref a_12, .ref a_13, .ref a_14, .ref a_15, .ref a_16, .ref a_17, .ref a_18, .int i_14, .int y72_0_30_170, .int y72_0_31_171, .int i_17, .int i_18, .int i_19, .ref a_19, .int y72_0_36_172, .ref a_20])), (a_6, .inl (cy 1, 5, .inl (mm_g [i_21, i_22, i_23, i_24, i_25]))), (a_7, .inl (cy 1, 30, .inl (mm_g [i_26, i_27, i_28, i_29, i_30, i_31, i_32, i_33, i_34, i_35, i_36, i_37, i_38, i_39, i_40, i_41, i_42, i_43, i_44, i_45, i_46, i_47, i_48, i_49, i_50, i_51, i_52, i_53, i_54, i_55]))), (a_8, .inl (cy 1, 90, .inl f_0)), (a_13, .inl (cy 1, 450, .inl f_1)), (a_15, .inl (cy 1, 7200, .inl f_2)), (a_16, .inl (cy 1, 3, .inl f_3)), (a_18, .inl (cy 1, 8, .inl z72_7_173)), (a_20, .inl (cy 1, 4, .inl z72_8_174))] H → va_D A [(a_0, .inr (12, [.int i_4, .ref a_1, .ref a_2, .ref a_3, .ref a_4, .ref a_5, .int i_5, .int i_6, .int i_7, .int i_8, .int i_9, .long j_0, .int i_10, .int i_11, .int i_12, .int i_13, .ref a_6, .ref a_7, .ref a_8, .ref a_9, .ref a_10, .ref a_11, .ref a_12, .ref a_13, .ref a_14, .ref a_15, .ref a_16, .ref a_17, .ref a_18, .int i_14, .int y72_0_30_170, .int y72_0_31_171, .int i_17, .int i_18, .int i_19, .ref a_19, .int y72_0_36_172, .ref a_20])), (a_6, .inl (cy 1, 5, .inl (mm_g [i_21, i_22, i_23, i_24, i_25]))), (a_7, .inl (cy 1, 30, .inl (mm_g [i_26, i_27, i_28, i_29, i_30, i_31, i_32, i_33, i_34, i_35, i_36, i_37, i_38, i_39, i_40, i_41, i_42, i_43, i_44, i_45, i_46, i_47, i_48, i_49, i_50, i_51, i_52, i_53, i_54, i_55]))), (a_8, .inl (cy 1, 90, .inl f_0)), (a_13, .inl (cy 1, 450, .inl f_1)), (a_15, .inl (cy 1, 7200, .inl f_2)), (a_16, .inl (cy 1, 3, .inl f_3)), (a_18, .inl (cy 1, 8, .inl z72_7_173)), (a_20, .inl (cy 1, 4, .inl z72_8_174))] → va_S A s.heap H locs → ∀ (ls : Array Slot), lv_has ls 7 [(6, .int x72_6_169), (0, .ref a_0), (1, .int 0), (2, .int i_0), (3, .int i_1), (4, .int i_2), (5, .int i_3)] → W p l e R s m args below meth c H locs 0 0 Q (F0 m 72 ls []) := by
      intro n
      induction n with
      | zero => intro x72_6_169 y72_0_30_170 y72_0_31_171 y72_0_36_172 z72_7_173 z72_8_174 rx72_6_169 rz72_7_173 hm; exact absurd hm (Nat.not_lt_zero _)
      | succ n ih72 =>
        intro x72_6_169 y72_0_30_170 y72_0_31_171 y72_0_36_172 z72_7_173 z72_8_174 rx72_6_169 rz72_7_173 hm72 H locs hP hD hS ls hl
        refine lv_iload hx hb dX12_rowsFrom_72 (lv_at hl 0 rfl) ?_
        refine lv_aload_n hx hb dX12_rowsFrom_74 rfl (lv_at hl 1 rfl) ?_
        refine mm_finir (va_runV (As := []) (rest := [.int x72_6_169]) ⟨hx, hb, hml, hown, hts⟩ (M121_X12_words l G cy H.size a_0 i_4 a_1 a_2 a_3 a_4 a_5 i_5 i_6 i_7 i_8 i_9 j_0 i_10 i_11 i_12 i_13 a_6 a_7 a_8 a_9 a_10 a_11 a_12 a_13 a_14 a_15 a_16 a_17 a_18 i_14 y72_0_30_170 y72_0_31_171 i_17 i_18 i_19 a_19 y72_0_36_172 a_20 i_21 i_22 i_23 i_24 i_25 i_26 i_27 i_28 i_29 i_30 i_31 i_32 i_33 i_34 i_35 i_36 i_37 i_38 i_39 i_40 i_41 i_42 i_43 i_44 i_45 i_46 i_47 i_48 i_49 i_50 i_51 i_52 i_53 i_54 i_55 h5 h6 h7 h8 h9 h10 h11 h12 h13 h14 h15 h16 h17 h18 h19 h20 h21 h22 h23 h24 h25 h26 h27 h28 h29 h30 h31 h32 h33 h34 h35 h36 h37 h38 h39 h46 h48 h50 h52) (cwV 0 hts (mm_gV mm_w649 mm_w650 mm_w651 mm_w5 mm_w652) rfl rfl rfl hd_X12_words ⟨by rw [hRf]; exact Nat.le_of_ble_eq_true rfl, by rw [hRl]; exact Nat.le_of_ble_eq_true rfl⟩) (mm_preV hK hZ hS hA hP hD [0, 1, 2] rfl rfl 0 rfl rfl rfl) rfl rfl hl.1 rfl (lv_room (Nat.le_of_ble_eq_true rfl)) dX12_rowsFrom_75 ⟨by rw [hRc]; exact Nat.le_of_ble_eq_true rfl, by rw [hRs]; exact Nat.le_of_ble_eq_true rfl⟩) hP hD hS hA [0, 1, 2] rfl (fun _ => rfl) ?_
        clear hP hD hS
        clear H locs
        intro v176 _u H locs hw hP hD hS
        have w177 := hw
        refine lv_icmp_ge (tgt := 108) hx hb dX12_rowsFrom_78 (by decide) (fun c178 => ?_) (fun c178 => ?_)
        · subst hAe
          rw [hQ]
          exact W.vret hx hb hr (fun t ht hW => ⟨⟨(y72_0_30_170, y72_0_31_171, y72_0_36_172, z72_7_173, z72_8_174), rfl, rz72_7_173, by rw [ht]; exact hP, hK.warm hW, hD⟩, hS.F ht⟩) hS.2.2 dX12_rowsFrom_108
        · have q179 := mm_ltL (h := 9) (mm_nle c178) rx72_6_169 w177 (by decide)
          have q180 := mm_ltR (lo := 1) (mm_nle c178) rx72_6_169 w177 (by decide)
          refine lv_aload_n hx hb dX12_rowsFrom_81 rfl (lv_at hl 1 rfl) ?_
          refine va_get (D := G) (ci := 12) (v := .ref a_18) (C := RX12) (T := TX12) (N := 38) hx hb hts (mm_i inlX12) hown hK.1 hP 0 rfl rfl 28 (by decide) (mm_h hts mm_w160) (fun _ h9 => h9) rfl dX12_rowsFrom_82 ?_
          refine lv_iload_n hx hb dX12_rowsFrom_85 rfl (lv_at hl 2 rfl) ?_
          refine lv_iload hx hb dX12_rowsFrom_86 (lv_at hl 0 rfl) ?_
          refine va_iast hx hb hK.1 hP hD hS 7 1 rfl rfl (mm_in mm_k0 (by decide)) dX12_rowsFrom_88 ?_
          clear hP hD hS
          clear H locs
          obtain ⟨g181, eg181⟩ : ∃ z : Nat → Int32, z = upd z72_7_173 (0 : Int32).toNatClampNeg x72_6_169 := ⟨_, rfl⟩
          rw [← eg181]
          intro H locs (hP : va_P G vwCl [(a_0, .inr (12, [.int i_4, .ref a_1, .ref a_2, .ref a_3, .ref a_4, .ref a_5, .int i_5, .int i_6, .int i_7, .int i_8, .int i_9, .long j_0, .int i_10, .int i_11, .int i_12, .int i_13, .ref a_6, .ref a_7, .ref a_8, .ref a_9, .ref a_10, .ref a_11, .ref a_12, .ref a_13, .ref a_14, .ref a_15, .ref a_16, .ref a_17, .ref a_18, .int i_14, .int y72_0_30_170, .int y72_0_31_171, .int i_17, .int i_18, .int i_19, .ref a_19, .int y72_0_36_172, .ref a_20])), (a_6, .inl (cy 1, 5, .inl (mm_g [i_21, i_22, i_23, i_24, i_25]))), (a_7, .inl (cy 1, 30, .inl (mm_g [i_26, i_27, i_28, i_29, i_30, i_31, i_32, i_33, i_34, i_35, i_36, i_37, i_38, i_39, i_40, i_41, i_42, i_43, i_44, i_45, i_46, i_47, i_48, i_49, i_50, i_51, i_52, i_53, i_54, i_55]))), (a_8, .inl (cy 1, 90, .inl f_0)), (a_13, .inl (cy 1, 450, .inl f_1)), (a_15, .inl (cy 1, 7200, .inl f_2)), (a_16, .inl (cy 1, 3, .inl f_3)), (a_18, .inl (cy 1, 8, .inl g181)), (a_20, .inl (cy 1, 4, .inl z72_8_174))] H) (hD : va_D A [(a_0, .inr (12, [.int i_4, .ref a_1, .ref a_2, .ref a_3, .ref a_4, .ref a_5, .int i_5, .int i_6, .int i_7, .int i_8, .int i_9, .long j_0, .int i_10, .int i_11, .int i_12, .int i_13, .ref a_6, .ref a_7, .ref a_8, .ref a_9, .ref a_10, .ref a_11, .ref a_12, .ref a_13, .ref a_14, .ref a_15, .ref a_16, .ref a_17, .ref a_18, .int i_14, .int y72_0_30_170, .int y72_0_31_171, .int i_17, .int i_18, .int i_19, .ref a_19, .int y72_0_36_172, .ref a_20])), (a_6, .inl (cy 1, 5, .inl (mm_g [i_21, i_22, i_23, i_24, i_25]))), (a_7, .inl (cy 1, 30, .inl (mm_g [i_26, i_27, i_28, i_29, i_30, i_31, i_32, i_33, i_34, i_35, i_36, i_37, i_38, i_39, i_40, i_41, i_42, i_43, i_44, i_45, i_46, i_47, i_48, i_49, i_50, i_51, i_52, i_53, i_54, i_55]))), (a_8, .inl (cy 1, 90, .inl f_0)), (a_13, .inl (cy 1, 450, .inl f_1)), (a_15, .inl (cy 1, 7200, .inl f_2)), (a_16, .inl (cy 1, 3, .inl f_3)), (a_18, .inl (cy 1, 8, .inl g181)), (a_20, .inl (cy 1, 4, .inl z72_8_174))]) hS
          have rg181 : mm_ar g181 0 9 := by rw [eg181]; exact mm_ar_upd (mm_ar_wk rz72_7_173 (by decide)) (mm_wk q179 (by decide)) _
          refine lv_aload_n hx hb dX12_rowsFrom_89 rfl (lv_at hl 1 rfl) ?_
          refine lv_iload_n hx hb dX12_rowsFrom_90 rfl (lv_at hl 2 rfl) ?_
          refine lv_iconst (v := 1) hx hb dX12_rowsFrom_91 (by decide) ?_
          refine lv_iadd hx hb dX12_rowsFrom_92 ?_
          refine lv_topi (fun v182 ev182 => ?_)
          obtain rfl : v182 = 1 := ev182.trans (by decide)
          refine lv_iload_n hx hb dX12_rowsFrom_93 rfl (lv_at hl 3 rfl) ?_
          refine lv_iload_n hx hb dX12_rowsFrom_94 rfl (lv_at hl 4 rfl) ?_
          refine lv_iload hx hb dX12_rowsFrom_95 (lv_at hl 5 rfl) ?_
          refine lv_iload hx hb dX12_rowsFrom_97 (lv_at hl 6 rfl) ?_
          refine mm_finv (va_runV (As := [.int 1, .int i_0, .int i_1, .int i_2, .int i_3]) (rest := []) ⟨hx, hb, hml, hown, hts⟩ (M226_X12_rowsFrom l G cy H.size a_0 i_0 i_1 i_2 i_3 i_4 a_1 a_2 a_3 a_4 a_5 i_5 i_6 i_7 i_8 i_9 j_0 i_10 i_11 i_12 i_13 a_6 a_7 a_8 a_9 a_10 a_11 a_12 a_13 a_14 a_15 a_16 a_17 a_18 i_14 y72_0_30_170 y72_0_31_171 i_17 i_18 i_19 a_19 y72_0_36_172 a_20 i_21 i_22 i_23 i_24 i_25 i_26 i_27 i_28 i_29 i_30 i_31 i_32 i_33 i_34 i_35 i_36 i_37 i_38 i_39 i_40 i_41 i_42 i_43 i_44 i_45 i_46 i_47 i_48 i_49 i_50 i_51 i_52 i_53 i_54 i_55 f_0 f_1 f_2 f_3 g181 z72_8_174 h0 h1 h2 h3 h4 h5 h6 h7 h8 h9 h10 h11 h12 h13 h14 h15 h16 h17 h18 h19 h20 h21 h22 h23 h24 h25 h26 h27 h28 h29 h30 h31 h32 h33 h34 h35 h36 h37 h38 h39 h40 h41 h42 h43 rg181 h45 h46 h47 h48 h49 h50 h51 h52 h53) (cwV 5 hts (mm_gV mm_w1405 mm_w1406 mm_w1407 mm_w5 mm_w1408) rfl rfl rfl hd_X12_rowsFrom ⟨by rw [hRf]; exact Nat.le_of_ble_eq_true rfl, by rw [hRl]; exact Nat.le_of_ble_eq_true rfl⟩) (mm_preV hK hZ hS hA hP hD [0, 1, 2, 3, 4, 5, 6, 7, 8] rfl rfl 0 rfl rfl rfl) rfl rfl hl.1 rfl (lv_room (Nat.le_of_ble_eq_true rfl)) dX12_rowsFrom_99 ⟨by rw [hRc]; exact Nat.le_of_ble_eq_true rfl, by rw [hRs]; exact Nat.le_of_ble_eq_true rfl⟩) hP hD hS hA (fun u : Int32 × Int32 × Int32 × (Nat → Int32) × (Nat → Int32) => [(a_0, .inr (12, [.int i_4, .ref a_1, .ref a_2, .ref a_3, .ref a_4, .ref a_5, .int i_5, .int i_6, .int i_7, .int i_8, .int i_9, .long j_0, .int i_10, .int i_11, .int i_12, .int i_13, .ref a_6, .ref a_7, .ref a_8, .ref a_9, .ref a_10, .ref a_11, .ref a_12, .ref a_13, .ref a_14, .ref a_15, .ref a_16, .ref a_17, .ref a_18, .int i_14, .int u.1, .int u.2.1, .int i_17, .int i_18, .int i_19, .ref a_19, .int u.2.2.1, .ref a_20])), (a_6, .inl (cy 1, 5, .inl (mm_g [i_21, i_22, i_23, i_24, i_25]))), (a_7, .inl (cy 1, 30, .inl (mm_g [i_26, i_27, i_28, i_29, i_30, i_31, i_32, i_33, i_34, i_35, i_36, i_37, i_38, i_39, i_40, i_41, i_42, i_43, i_44, i_45, i_46, i_47, i_48, i_49, i_50, i_51, i_52, i_53, i_54, i_55]))), (a_8, .inl (cy 1, 90, .inl f_0)), (a_13, .inl (cy 1, 450, .inl f_1)), (a_15, .inl (cy 1, 7200, .inl f_2)), (a_16, .inl (cy 1, 3, .inl f_3)), (a_18, .inl (cy 1, 8, .inl u.2.2.2.1)), (a_20, .inl (cy 1, 4, .inl u.2.2.2.2))]) [0, 1, 2, 3, 4, 5, 6, 7, 8] [] (n := 9) (fun _ => rfl) (by decide +kernel) (by decide +kernel) rfl (fun _ => rfl) (wr := []) rfl (fun _ => rfl) (fun _ => @rfl _ ([a_0, a_6, a_7, a_8, a_13, a_15, a_16, a_18, a_20] : List Nat)) ?_
          clear hP hD hS
          clear H locs
          intro u
          obtain ⟨n183, n184, n185, n186, n187⟩ := u
          intro H locs hw (hP : va_P G vwCl [(a_0, .inr (12, [.int i_4, .ref a_1, .ref a_2, .ref a_3, .ref a_4, .ref a_5, .int i_5, .int i_6, .int i_7, .int i_8, .int i_9, .long j_0, .int i_10, .int i_11, .int i_12, .int i_13, .ref a_6, .ref a_7, .ref a_8, .ref a_9, .ref a_10, .ref a_11, .ref a_12, .ref a_13, .ref a_14, .ref a_15, .ref a_16, .ref a_17, .ref a_18, .int i_14, .int n183, .int n184, .int i_17, .int i_18, .int i_19, .ref a_19, .int n185, .ref a_20])), (a_6, .inl (cy 1, 5, .inl (mm_g [i_21, i_22, i_23, i_24, i_25]))), (a_7, .inl (cy 1, 30, .inl (mm_g [i_26, i_27, i_28, i_29, i_30, i_31, i_32, i_33, i_34, i_35, i_36, i_37, i_38, i_39, i_40, i_41, i_42, i_43, i_44, i_45, i_46, i_47, i_48, i_49, i_50, i_51, i_52, i_53, i_54, i_55]))), (a_8, .inl (cy 1, 90, .inl f_0)), (a_13, .inl (cy 1, 450, .inl f_1)), (a_15, .inl (cy 1, 7200, .inl f_2)), (a_16, .inl (cy 1, 3, .inl f_3)), (a_18, .inl (cy 1, 8, .inl n186)), (a_20, .inl (cy 1, 4, .inl n187))] H) (hD : va_D A [(a_0, .inr (12, [.int i_4, .ref a_1, .ref a_2, .ref a_3, .ref a_4, .ref a_5, .int i_5, .int i_6, .int i_7, .int i_8, .int i_9, .long j_0, .int i_10, .int i_11, .int i_12, .int i_13, .ref a_6, .ref a_7, .ref a_8, .ref a_9, .ref a_10, .ref a_11, .ref a_12, .ref a_13, .ref a_14, .ref a_15, .ref a_16, .ref a_17, .ref a_18, .int i_14, .int n183, .int n184, .int i_17, .int i_18, .int i_19, .ref a_19, .int n185, .ref a_20])), (a_6, .inl (cy 1, 5, .inl (mm_g [i_21, i_22, i_23, i_24, i_25]))), (a_7, .inl (cy 1, 30, .inl (mm_g [i_26, i_27, i_28, i_29, i_30, i_31, i_32, i_33, i_34, i_35, i_36, i_37, i_38, i_39, i_40, i_41, i_42, i_43, i_44, i_45, i_46, i_47, i_48, i_49, i_50, i_51, i_52, i_53, i_54, i_55]))), (a_8, .inl (cy 1, 90, .inl f_0)), (a_13, .inl (cy 1, 450, .inl f_1)), (a_15, .inl (cy 1, 7200, .inl f_2)), (a_16, .inl (cy 1, 3, .inl f_3)), (a_18, .inl (cy 1, 8, .inl n186)), (a_20, .inl (cy 1, 4, .inl n187))]) hS
          have w188 := hw
          obtain ⟨v189, ev189⟩ : ∃ y : Int32, y = x72_6_169 + 1 := ⟨_, rfl⟩
          refine lv_iinc (v := v189) (lv' := [(6, .int v189), (0, .ref a_0), (1, .int 0), (2, .int i_0), (3, .int i_1), (4, .int i_2), (5, .int i_3)]) hx hb dX12_rowsFrom_102 hl (k := 0) rfl (by rw [ev189]; rfl) (by decide) rfl ?_
          clear hl
          clear ls
          intro ls hl
          have rv189 : mm_rg v189 1 10 := mm_add ev189 q179 mm_k1 (by decide) (by decide)
          have tv189 := mm_addEc ev189 q179 mm_k1 (by decide) (k := 1) (by decide)
          refine lv_goto (tgt := 72) hx hb dX12_rowsFrom_105 (by decide) ?_
          exact ih72 v189 n183 n184 n185 n186 n187 (mm_wk rv189 (by decide)) w188 (mm_mu hm72 tv189 (by decide) (rv189).2 (by decide)) H locs hP hD hS ls (lv_sub hl [0, 1, 2, 3, 4, 5, 6] rfl)
    exact L72_174 _ 0 i_15 i_16 i_20 f_4 f_5 (mm_wk mm_k0 (by decide)) h44 (Nat.lt_succ_self _) H locs hP hD hS ls (lv_sub hl [0, 1, 2, 3, 4, 5, 6] rfl)
  · exact mm_eqN c1 mm_k0 h4 (by decide)

set_option maxHeartbeats 4000000 in
set_option maxRecDepth 100000 in
theorem M228_X12_wordingOf (l : Launch) (G : va_G) (cy : Nat → ClassId) (sz : Nat) (a_0 : Nat) (i_0 : Int32) (i_1 : Int32) (i_2 : Int32) (i_3 : Int32) (i_4 : Int32) (a_1 : Nat) (a_2 : Nat) (a_3 : Nat) (a_4 : Nat) (a_5 : Nat) (i_5 : Int32) (i_6 : Int32) (i_7 : Int32) (i_8 : Int32) (i_9 : Int32) (j_0 : Int64) (i_10 : Int32) (i_11 : Int32) (i_12 : Int32) (i_13 : Int32) (a_6 : Nat) (a_7 : Nat) (a_8 : Nat) (a_9 : Nat) (a_10 : Nat) (a_11 : Nat) (a_12 : Nat) (a_13 : Nat) (a_14 : Nat) (a_15 : Nat) (a_16 : Nat) (a_17 : Nat) (a_18 : Nat) (i_14 : Int32) (i_15 : Int32) (i_16 : Int32) (i_17 : Int32) (i_18 : Int32) (i_19 : Int32) (a_19 : Nat) (i_20 : Int32) (a_20 : Nat) (i_21 : Int32) (i_22 : Int32) (i_23 : Int32) (i_24 : Int32) (i_25 : Int32) (i_26 : Int32) (i_27 : Int32) (i_28 : Int32) (i_29 : Int32) (i_30 : Int32) (i_31 : Int32) (i_32 : Int32) (i_33 : Int32) (i_34 : Int32) (i_35 : Int32) (i_36 : Int32) (i_37 : Int32) (i_38 : Int32) (i_39 : Int32) (i_40 : Int32) (i_41 : Int32) (i_42 : Int32) (i_43 : Int32) (i_44 : Int32) (i_45 : Int32) (i_46 : Int32) (i_47 : Int32) (i_48 : Int32) (i_49 : Int32) (i_50 : Int32) (i_51 : Int32) (i_52 : Int32) (i_53 : Int32) (i_54 : Int32) (i_55 : Int32) (f_0 : Nat → Int32) (f_1 : Nat → Int32) (f_2 : Nat → Int32) (f_3 : Nat → Int32) (f_4 : Nat → Int32) (f_5 : Nat → Int32) (f_6 : Nat → Int32) (f_7 : Nat → Int32) (f_8 : Nat → Int32) (h0 : mm_rg i_0 0 2) (h1 : mm_rg i_1 0 1000000000) (h2 : mm_rg i_2 1 7) (h3 : mm_rg i_3 0 9999) (h4 : mm_rg i_14 0 8) (h5 : mm_rg i_21 0 601) (h6 : mm_rg i_22 0 601) (h7 : mm_rg i_23 0 601) (h8 : mm_rg i_24 0 601) (h9 : mm_rg i_25 0 601) (h10 : mm_rg i_26 0 10) (h11 : mm_rg i_27 0 99) (h12 : mm_rg i_28 0 9) (h13 : mm_rg i_29 0 3) (h14 : mm_rg i_30 0 6) (h15 : mm_rg i_31 0 30) (h16 : mm_rg i_32 0 10) (h17 : mm_rg i_33 0 99) (h18 : mm_rg i_34 0 9) (h19 : mm_rg i_35 0 3) (h20 : mm_rg i_36 0 6) (h21 : mm_rg i_37 0 30) (h22 : mm_rg i_38 0 10) (h23 : mm_rg i_39 0 99) (h24 : mm_rg i_40 0 9) (h25 : mm_rg i_41 0 3) (h26 : mm_rg i_42 0 6) (h27 : mm_rg i_43 0 30) (h28 : mm_rg i_44 0 10) (h29 : mm_rg i_45 0 99) (h30 : mm_rg i_46 0 9) (h31 : mm_rg i_47 0 3) (h32 : mm_rg i_48 0 6) (h33 : mm_rg i_49 0 30) (h34 : mm_rg i_50 0 10) (h35 : mm_rg i_51 0 99) (h36 : mm_rg i_52 0 9) (h37 : mm_rg i_53 0 3) (h38 : mm_rg i_54 0 6) (h39 : mm_rg i_55 0 30) (h40 : mm_ar f_0 0 99) (h41 : mm_ar f_1 0 7) (h42 : mm_ar f_2 0 9) (h43 : mm_ar f_3 (-1) 99) (h44 : mm_ar f_4 0 9) (h45 : mm_ar f_5 0 210) (h46 : mm_ar f_6 0 210) (h47 : mm_ar f_7 0 9) (h48 : mm_rls f_1 f_2 0 i_28 i_29) (h49 : mm_acs f_3 0 i_28 i_29 i_31) (h50 : mm_tl i_21 i_29 i_30) (h51 : mm_rls f_1 f_2 1 i_34 i_35) (h52 : mm_acs f_3 1 i_34 i_35 i_37) (h53 : mm_tl i_22 i_35 i_36) (h54 : mm_rls f_1 f_2 2 i_40 i_41) (h55 : mm_acs f_3 2 i_40 i_41 i_43) (h56 : mm_tl i_23 i_41 i_42) (h57 : mm_rls f_1 f_2 3 i_46 i_47) (h58 : mm_acs f_3 3 i_46 i_47 i_49) (h59 : mm_tl i_24 i_47 i_48) (h60 : (i_0 : Int32).toInt < (i_29 : Int32).toInt)  : mm_CI l yX12_wordingOf (mm_ws yX12_wordingOf cX12_wordingOf 6 (some .int)) ({ frames := 14, cells := 0, slots := 0, locals := 300 } : Room) G cy sz [(a_0, .inr (12, [.int i_4, .ref a_1, .ref a_2, .ref a_3, .ref a_4, .ref a_5, .int i_5, .int i_6, .int i_7, .int i_8, .int i_9, .long j_0, .int i_10, .int i_11, .int i_12, .int i_13, .ref a_6, .ref a_7, .ref a_8, .ref a_9, .ref a_10, .ref a_11, .ref a_12, .ref a_13, .ref a_14, .ref a_15, .ref a_16, .ref a_17, .ref a_18, .int i_14, .int i_15, .int i_16, .int i_17, .int i_18, .int i_19, .ref a_19, .int i_20, .ref a_20])), (a_6, .inl (cy 1, 5, .inl (mm_g [i_21, i_22, i_23, i_24, i_25]))), (a_7, .inl (cy 1, 30, .inl (mm_g [i_26, i_27, i_28, i_29, i_30, i_31, i_32, i_33, i_34, i_35, i_36, i_37, i_38, i_39, i_40, i_41, i_42, i_43, i_44, i_45, i_46, i_47, i_48, i_49, i_50, i_51, i_52, i_53, i_54, i_55]))), (a_8, .inl (cy 1, 90, .inl f_0)), (a_9, .inl (cy 1, 15, .inl f_1)), (a_10, .inl (cy 1, 1050, .inl f_2)), (a_13, .inl (cy 1, 450, .inl f_3)), (a_15, .inl (cy 1, 7200, .inl f_4)), (a_16, .inl (cy 1, 3, .inl f_5)), (a_17, .inl (cy 1, 3, .inl f_6)), (a_18, .inl (cy 1, 8, .inl f_7)), (a_20, .inl (cy 1, 4, .inl f_8))] [.ref a_0, .int i_0, .int i_1, .int i_2, .int i_3] (fun u : Int32 × Int32 × Int32 × Int32 × (Nat → Int32) × (Nat → Int32) × (Nat → Int32) × (Nat → Int32) × (Nat → Int32) => [(a_0, .inr (12, [.int i_4, .ref a_1, .ref a_2, .ref a_3, .ref a_4, .ref a_5, .int i_5, .int i_6, .int i_7, .int i_8, .int i_9, .long j_0, .int i_10, .int i_11, .int i_12, .int i_13, .ref a_6, .ref a_7, .ref a_8, .ref a_9, .ref a_10, .ref a_11, .ref a_12, .ref a_13, .ref a_14, .ref a_15, .ref a_16, .ref a_17, .ref a_18, .int u.1, .int u.2.1, .int u.2.2.1, .int i_17, .int i_18, .int i_19, .ref a_19, .int u.2.2.2.1, .ref a_20])), (a_6, .inl (cy 1, 5, .inl (mm_g [i_21, i_22, i_23, i_24, i_25]))), (a_7, .inl (cy 1, 30, .inl (mm_g [i_26, i_27, i_28, i_29, i_30, i_31, i_32, i_33, i_34, i_35, i_36, i_37, i_38, i_39, i_40, i_41, i_42, i_43, i_44, i_45, i_46, i_47, i_48, i_49, i_50, i_51, i_52, i_53, i_54, i_55]))), (a_8, .inl (cy 1, 90, .inl f_0)), (a_9, .inl (cy 1, 15, .inl f_1)), (a_10, .inl (cy 1, 1050, .inl f_2)), (a_13, .inl (cy 1, 450, .inl f_3)), (a_15, .inl (cy 1, 7200, .inl u.2.2.2.2.1)), (a_16, .inl (cy 1, 3, .inl u.2.2.2.2.2.1)), (a_17, .inl (cy 1, 3, .inl u.2.2.2.2.2.2.1)), (a_18, .inl (cy 1, 8, .inl u.2.2.2.2.2.2.2.1)), (a_20, .inl (cy 1, 4, .inl u.2.2.2.2.2.2.2.2))]) (fun (r : Int32) (u : Int32 × Int32 × Int32 × Int32 × (Nat → Int32) × (Nat → Int32) × (Nat → Int32) × (Nat → Int32) × (Nat → Int32)) => mm_rg u.1 0 8 ∧ mm_ar u.2.2.2.2.1 0 9 ∧ mm_ar u.2.2.2.2.2.1 0 210 ∧ mm_ar u.2.2.2.2.2.2.1 0 210 ∧ mm_ar u.2.2.2.2.2.2.2.1 0 9 ∧ mm_rg r 0 4) 0 0 := by
  refine mm_begin (lv := [(0, .ref a_0), (1, .int i_0), (2, .int i_1), (3, .int i_2), (4, .int i_3)]) (by decide) (Nat.le_of_ble_eq_true rfl) rfl ?_
  intro p e s m below meth c A ls R args Q H locs hRe hQ hAe hx hb hr hlocks hml hown hnm hts hsz hA hS hP hK hD hZ hl
  have hRf : R.frames = 14 := by rw [hRe]
  have hRl : R.locals = 300 := by rw [hRe]
  have hRc : R.cells = 0 := by rw [hRe]
  have hRs : R.slots = 0 := by rw [hRe]
  have q1 := mm_ltR (lo := 1) h60 h0 h13 (by decide)
  have q2 : mm_rg i_21 1 601 := mm_tl_3 h50 q1 h5 (by decide)
  refine lv_aload_n hx hb dX12_wordingOf_0 rfl (lv_at hl 0 rfl) ?_
  refine mm_finv (va_runV (As := []) (rest := []) ⟨hx, hb, hml, hown, hts⟩ (M125_X12_lays l G cy H.size a_0 i_4 a_1 a_2 a_3 a_4 a_5 i_5 i_6 i_7 i_8 i_9 j_0 i_10 i_11 i_12 i_13 a_6 a_7 a_8 a_9 a_10 a_11 a_12 a_13 a_14 a_15 a_16 a_17 a_18 i_14 i_15 i_16 i_17 i_18 i_19 a_19 i_20 a_20 i_21 i_22 i_23 i_24 i_25 i_26 i_27 i_28 i_29 i_30 i_31 i_32 i_33 i_34 i_35 i_36 i_37 i_38 i_39 i_40 i_41 i_42 i_43 i_44 i_45 i_46 i_47 i_48 i_49 i_50 i_51 i_52 i_53 i_54 i_55 f_1 f_2 f_3 f_4 f_5 f_6 (mm_wk q2 (by decide)) h6 h7 h8 h9 h10 h11 h12 (mm_wk q1 (by decide)) h14 h15 h16 h17 h18 h19 h20 h21 h22 h23 h24 h25 h26 h27 h28 h29 h30 h31 h32 h33 h34 h35 h36 h37 h38 h39 h41 h42 h43 h44 h45 h46 h48 h49 h50 h51 h52 h53 h54 h55 h56 h57 h58 h59) (cwV 0 hts (mm_gV mm_w686 mm_w687 mm_w688 mm_w5 mm_w689) rfl rfl rfl hd_X12_lays ⟨by rw [hRf]; exact Nat.le_of_ble_eq_true rfl, by rw [hRl]; exact Nat.le_of_ble_eq_true rfl⟩) (mm_preV hK hZ hS hA hP hD [0, 1, 2, 4, 5, 6, 7, 8, 9] rfl rfl 0 rfl rfl rfl) rfl rfl hl.1 rfl (lv_room (Nat.le_of_ble_eq_true rfl)) dX12_wordingOf_1 ⟨by rw [hRc]; exact Nat.le_of_ble_eq_true rfl, by rw [hRs]; exact Nat.le_of_ble_eq_true rfl⟩) hP hD hS hA (fun u : (Nat → Int32) × (Nat → Int32) × (Nat → Int32) => [(a_0, .inr (12, [.int i_4, .ref a_1, .ref a_2, .ref a_3, .ref a_4, .ref a_5, .int i_5, .int i_6, .int i_7, .int i_8, .int i_9, .long j_0, .int i_10, .int i_11, .int i_12, .int i_13, .ref a_6, .ref a_7, .ref a_8, .ref a_9, .ref a_10, .ref a_11, .ref a_12, .ref a_13, .ref a_14, .ref a_15, .ref a_16, .ref a_17, .ref a_18, .int i_14, .int i_15, .int i_16, .int i_17, .int i_18, .int i_19, .ref a_19, .int i_20, .ref a_20])), (a_6, .inl (cy 1, 5, .inl (mm_g [i_21, i_22, i_23, i_24, i_25]))), (a_7, .inl (cy 1, 30, .inl (mm_g [i_26, i_27, i_28, i_29, i_30, i_31, i_32, i_33, i_34, i_35, i_36, i_37, i_38, i_39, i_40, i_41, i_42, i_43, i_44, i_45, i_46, i_47, i_48, i_49, i_50, i_51, i_52, i_53, i_54, i_55]))), (a_8, .inl (cy 1, 90, .inl f_0)), (a_9, .inl (cy 1, 15, .inl f_1)), (a_10, .inl (cy 1, 1050, .inl f_2)), (a_13, .inl (cy 1, 450, .inl f_3)), (a_15, .inl (cy 1, 7200, .inl u.1)), (a_16, .inl (cy 1, 3, .inl u.2.1)), (a_17, .inl (cy 1, 3, .inl u.2.2)), (a_18, .inl (cy 1, 8, .inl f_7)), (a_20, .inl (cy 1, 4, .inl f_8))]) [0, 1, 2, 4, 5, 6, 7, 8, 9] [3, 10, 11] (n := 12) (fun _ => rfl) (by decide +kernel) (by decide +kernel) rfl (fun _ => rfl) (wr := [(a_8, .inl (cy 1, 90, .inl f_0)), (a_18, .inl (cy 1, 8, .inl f_7)), (a_20, .inl (cy 1, 4, .inl f_8))]) rfl (fun _ => rfl) (fun _ => @rfl _ ([a_0, a_6, a_7, a_9, a_10, a_13, a_15, a_16, a_17] : List Nat)) ?_
  clear hP hD hS
  clear H locs
  intro u
  obtain ⟨n3, n4, n5⟩ := u
  intro H locs hw (hP : va_P G vwCl [(a_0, .inr (12, [.int i_4, .ref a_1, .ref a_2, .ref a_3, .ref a_4, .ref a_5, .int i_5, .int i_6, .int i_7, .int i_8, .int i_9, .long j_0, .int i_10, .int i_11, .int i_12, .int i_13, .ref a_6, .ref a_7, .ref a_8, .ref a_9, .ref a_10, .ref a_11, .ref a_12, .ref a_13, .ref a_14, .ref a_15, .ref a_16, .ref a_17, .ref a_18, .int i_14, .int i_15, .int i_16, .int i_17, .int i_18, .int i_19, .ref a_19, .int i_20, .ref a_20])), (a_6, .inl (cy 1, 5, .inl (mm_g [i_21, i_22, i_23, i_24, i_25]))), (a_7, .inl (cy 1, 30, .inl (mm_g [i_26, i_27, i_28, i_29, i_30, i_31, i_32, i_33, i_34, i_35, i_36, i_37, i_38, i_39, i_40, i_41, i_42, i_43, i_44, i_45, i_46, i_47, i_48, i_49, i_50, i_51, i_52, i_53, i_54, i_55]))), (a_8, .inl (cy 1, 90, .inl f_0)), (a_9, .inl (cy 1, 15, .inl f_1)), (a_10, .inl (cy 1, 1050, .inl f_2)), (a_13, .inl (cy 1, 450, .inl f_3)), (a_15, .inl (cy 1, 7200, .inl n3)), (a_16, .inl (cy 1, 3, .inl n4)), (a_17, .inl (cy 1, 3, .inl n5)), (a_18, .inl (cy 1, 8, .inl f_7)), (a_20, .inl (cy 1, 4, .inl f_8))] H) (hD : va_D A [(a_0, .inr (12, [.int i_4, .ref a_1, .ref a_2, .ref a_3, .ref a_4, .ref a_5, .int i_5, .int i_6, .int i_7, .int i_8, .int i_9, .long j_0, .int i_10, .int i_11, .int i_12, .int i_13, .ref a_6, .ref a_7, .ref a_8, .ref a_9, .ref a_10, .ref a_11, .ref a_12, .ref a_13, .ref a_14, .ref a_15, .ref a_16, .ref a_17, .ref a_18, .int i_14, .int i_15, .int i_16, .int i_17, .int i_18, .int i_19, .ref a_19, .int i_20, .ref a_20])), (a_6, .inl (cy 1, 5, .inl (mm_g [i_21, i_22, i_23, i_24, i_25]))), (a_7, .inl (cy 1, 30, .inl (mm_g [i_26, i_27, i_28, i_29, i_30, i_31, i_32, i_33, i_34, i_35, i_36, i_37, i_38, i_39, i_40, i_41, i_42, i_43, i_44, i_45, i_46, i_47, i_48, i_49, i_50, i_51, i_52, i_53, i_54, i_55]))), (a_8, .inl (cy 1, 90, .inl f_0)), (a_9, .inl (cy 1, 15, .inl f_1)), (a_10, .inl (cy 1, 1050, .inl f_2)), (a_13, .inl (cy 1, 450, .inl f_3)), (a_15, .inl (cy 1, 7200, .inl n3)), (a_16, .inl (cy 1, 3, .inl n4)), (a_17, .inl (cy 1, 3, .inl n5)), (a_18, .inl (cy 1, 8, .inl f_7)), (a_20, .inl (cy 1, 4, .inl f_8))]) hS
  obtain ⟨w6, w7, w8, w9, w10⟩ := hw
  replace w9 : mm_laid n4 n5 i_29 := w9
  replace w10 : mm_tab n3 n4 i_28 i_29 := w10
  refine lv_iconst (v := 1) hx hb dX12_wordingOf_4 (by decide) ?_
  refine lv_istore (lv' := [(5, .int 1), (0, .ref a_0), (1, .int i_0), (2, .int i_1), (3, .int i_2), (4, .int i_3)]) hx hb dX12_wordingOf_5 hl (by decide) rfl ?_
  clear hl
  clear ls
  intro ls hl
  have L7_89 : ∀ (n : Nat) (x7_5_83 : Int32) (y7_0_29_84 : Int32) (y7_0_30_85 : Int32) (y7_0_31_86 : Int32) (y7_0_36_87 : Int32) (z7_10_88 : Nat → Int32) (z7_11_89 : Nat → Int32), mm_rg x7_5_83 1 5 → mm_rg y7_0_29_84 0 8 → mm_ar z7_10_88 0 9 → (5 - x7_5_83.toInt).toNat < n → ∀ (H : Heap) (locs : List Loc), va_P G vwCl [(a_0, .inr (12, [.int i_4, .ref a_1, .ref a_2, .ref a_3, .ref a_4, .ref a_5, .int i_5, .int i_6, .int i_7, .int i_8, .int i_9, .long j_0, .int i_10, .int i_11, .int i_12, .int i_13, .ref a_6, .ref a_7, .ref a_8, .ref a_9, .ref a_10, .ref a_11, .ref a_12, .ref a_13, .ref a_14, .ref a_15, .ref a_16, .ref a_17, .ref a_18, .int y7_0_29_84, .int y7_0_30_85, .int y7_0_31_86, .int i_17, .int i_18, .int i_19, .ref a_19, .int y7_0_36_87, .ref a_20])), (a_6, .inl (cy 1, 5, .inl (mm_g [i_21, i_22, i_23, i_24, i_25]))), (a_7, .inl (cy 1, 30, .inl (mm_g [i_26, i_27, i_28, i_29, i_30, i_31, i_32, i_33, i_34, i_35, i_36, i_37, i_38, i_39, i_40, i_41, i_42, i_43, i_44, i_45, i_46, i_47, i_48, i_49, i_50, i_51, i_52, i_53, i_54, i_55]))), (a_8, .inl (cy 1, 90, .inl f_0)), (a_9, .inl (cy 1, 15, .inl f_1)), (a_10, .inl (cy 1, 1050, .inl f_2)), (a_13, .inl (cy 1, 450, .inl f_3)), (a_15, .inl (cy 1, 7200, .inl n3)), (a_16, .inl (cy 1, 3, .inl n4)), (a_17, .inl (cy 1, 3, .inl n5)), (a_18, .inl (cy 1, 8, .inl z7_10_88)), (a_20, .inl (cy 1, 4, .inl z7_11_89))] H → va_D A [(a_0, .inr (12, [.int i_4, .ref a_1, .ref a_2, .ref a_3, .ref a_4, .ref a_5, .int i_5, .int i_6, .int i_7, .int i_8, .int i_9, .long j_0, .int i_10, .int i_11, .int i_12, .int i_13, .ref a_6, .ref a_7, .ref a_8, .ref a_9, .ref a_10, .ref a_11, .ref a_12, .ref a_13, .ref a_14, .ref a_15, .ref a_16, .ref a_17, .ref a_18, .int y7_0_29_84, .int y7_0_30_85, .int y7_0_31_86, .int i_17, .int i_18, .int i_19, .ref a_19, .int y7_0_36_87, .ref a_20])), (a_6, .inl (cy 1, 5, .inl (mm_g [i_21, i_22, i_23, i_24, i_25]))), (a_7, .inl (cy 1, 30, .inl (mm_g [i_26, i_27, i_28, i_29, i_30, i_31, i_32, i_33, i_34, i_35, i_36, i_37, i_38, i_39, i_40, i_41, i_42, i_43, i_44, i_45, i_46, i_47, i_48, i_49, i_50, i_51, i_52, i_53, i_54, i_55]))), (a_8, .inl (cy 1, 90, .inl f_0)), (a_9, .inl (cy 1, 15, .inl f_1)), (a_10, .inl (cy 1, 1050, .inl f_2)), (a_13, .inl (cy 1, 450, .inl f_3)), (a_15, .inl (cy 1, 7200, .inl n3)), (a_16, .inl (cy 1, 3, .inl n4)), (a_17, .inl (cy 1, 3, .inl n5)), (a_18, .inl (cy 1, 8, .inl z7_10_88)), (a_20, .inl (cy 1, 4, .inl z7_11_89))] → va_S A s.heap H locs → ∀ (ls : Array Slot), lv_has ls 6 [(5, .int x7_5_83), (0, .ref a_0), (1, .int i_0), (2, .int i_1), (3, .int i_2), (4, .int i_3)] → W p l e R s m args below meth c H locs 0 0 Q (F0 m 7 ls []) := by
    intro n
    induction n with
    | zero => intro x7_5_83 y7_0_29_84 y7_0_30_85 y7_0_31_86 y7_0_36_87 z7_10_88 z7_11_89 rx7_5_83 ry7_0_29_84 rz7_10_88 hm; exact absurd hm (Nat.not_lt_zero _)
    | succ n ih7 =>
      intro x7_5_83 y7_0_29_84 y7_0_30_85 y7_0_31_86 y7_0_36_87 z7_10_88 z7_11_89 rx7_5_83 ry7_0_29_84 rz7_10_88 hm7 H locs hP hD hS ls hl
      refine lv_iload hx hb dX12_wordingOf_7 (lv_at hl 0 rfl) ?_
      refine lv_iconst (v := 4) hx hb dX12_wordingOf_9 (by decide) ?_
      refine lv_icmp_gt (tgt := 50) hx hb dX12_wordingOf_10 (by decide) (fun c91 => ?_) (fun c91 => ?_)
      · have q92 := mm_ltR (lo := 5) (mm_lt c91) mm_k4 rx7_5_83 (by decide)
        refine lv_iconst (v := 0) hx hb dX12_wordingOf_50 (by decide) ?_
        subst hAe
        rw [hQ]
        exact W.iret (v := 0) hx hb hr (fun t ht hW => ⟨⟨0, (y7_0_29_84, y7_0_30_85, y7_0_31_86, y7_0_36_87, n3, n4, n5, z7_10_88, z7_11_89), rfl, ⟨ry7_0_29_84, w6, w7, w8, rz7_10_88, (mm_wk mm_k0 (by decide))⟩, by rw [ht]; exact hP, hK.warm hW, hD⟩, hS.F ht⟩) hS.2.2 dX12_wordingOf_51
      · have q93 := mm_leL (mm_nlt c91) rx7_5_83 mm_k4
        refine lv_aload_n hx hb dX12_wordingOf_13 rfl (lv_at hl 1 rfl) ?_
        refine lv_iconst (v := 0) hx hb dX12_wordingOf_14 (by decide) ?_
        refine va_put (D := G) (ci := 12) (v := .int 0) (ty := tyX12 36) (C := RX12) (T := TX12) (N := 38) hx hb hts (mm_i inlX12) tyX12 tyX12_ok nmX12 hown hK.1 hP hD hS 0 rfl rfl 36 (by decide) (mm_h hts mm_w1404) (fun _ h9 => h9) rfl (tyX12_ok 36 (by decide)) rfl rfl (Nat.le_of_ble_eq_true rfl) dX12_wordingOf_15 ?_
        clear hP hD hS
        clear H locs
        intro H locs (hP : va_P G vwCl [(a_0, .inr (12, [.int i_4, .ref a_1, .ref a_2, .ref a_3, .ref a_4, .ref a_5, .int i_5, .int i_6, .int i_7, .int i_8, .int i_9, .long j_0, .int i_10, .int i_11, .int i_12, .int i_13, .ref a_6, .ref a_7, .ref a_8, .ref a_9, .ref a_10, .ref a_11, .ref a_12, .ref a_13, .ref a_14, .ref a_15, .ref a_16, .ref a_17, .ref a_18, .int y7_0_29_84, .int y7_0_30_85, .int y7_0_31_86, .int i_17, .int i_18, .int i_19, .ref a_19, .int 0, .ref a_20])), (a_6, .inl (cy 1, 5, .inl (mm_g [i_21, i_22, i_23, i_24, i_25]))), (a_7, .inl (cy 1, 30, .inl (mm_g [i_26, i_27, i_28, i_29, i_30, i_31, i_32, i_33, i_34, i_35, i_36, i_37, i_38, i_39, i_40, i_41, i_42, i_43, i_44, i_45, i_46, i_47, i_48, i_49, i_50, i_51, i_52, i_53, i_54, i_55]))), (a_8, .inl (cy 1, 90, .inl f_0)), (a_9, .inl (cy 1, 15, .inl f_1)), (a_10, .inl (cy 1, 1050, .inl f_2)), (a_13, .inl (cy 1, 450, .inl f_3)), (a_15, .inl (cy 1, 7200, .inl n3)), (a_16, .inl (cy 1, 3, .inl n4)), (a_17, .inl (cy 1, 3, .inl n5)), (a_18, .inl (cy 1, 8, .inl z7_10_88)), (a_20, .inl (cy 1, 4, .inl z7_11_89))] H) (hD : va_D A [(a_0, .inr (12, [.int i_4, .ref a_1, .ref a_2, .ref a_3, .ref a_4, .ref a_5, .int i_5, .int i_6, .int i_7, .int i_8, .int i_9, .long j_0, .int i_10, .int i_11, .int i_12, .int i_13, .ref a_6, .ref a_7, .ref a_8, .ref a_9, .ref a_10, .ref a_11, .ref a_12, .ref a_13, .ref a_14, .ref a_15, .ref a_16, .ref a_17, .ref a_18, .int y7_0_29_84, .int y7_0_30_85, .int y7_0_31_86, .int i_17, .int i_18, .int i_19, .ref a_19, .int 0, .ref a_20])), (a_6, .inl (cy 1, 5, .inl (mm_g [i_21, i_22, i_23, i_24, i_25]))), (a_7, .inl (cy 1, 30, .inl (mm_g [i_26, i_27, i_28, i_29, i_30, i_31, i_32, i_33, i_34, i_35, i_36, i_37, i_38, i_39, i_40, i_41, i_42, i_43, i_44, i_45, i_46, i_47, i_48, i_49, i_50, i_51, i_52, i_53, i_54, i_55]))), (a_8, .inl (cy 1, 90, .inl f_0)), (a_9, .inl (cy 1, 15, .inl f_1)), (a_10, .inl (cy 1, 1050, .inl f_2)), (a_13, .inl (cy 1, 450, .inl f_3)), (a_15, .inl (cy 1, 7200, .inl n3)), (a_16, .inl (cy 1, 3, .inl n4)), (a_17, .inl (cy 1, 3, .inl n5)), (a_18, .inl (cy 1, 8, .inl z7_10_88)), (a_20, .inl (cy 1, 4, .inl z7_11_89))]) hS
        refine lv_aload_n hx hb dX12_wordingOf_18 rfl (lv_at hl 1 rfl) ?_
        refine lv_iload hx hb dX12_wordingOf_19 (lv_at hl 0 rfl) ?_
        refine va_put (D := G) (ci := 12) (v := .int x7_5_83) (ty := tyX12 29) (C := RX12) (T := TX12) (N := 38) hx hb hts (mm_i inlX12) tyX12 tyX12_ok nmX12 hown hK.1 hP hD hS 0 rfl rfl 29 (by decide) (mm_h hts mm_w860) (fun _ h9 => h9) rfl (tyX12_ok 29 (by decide)) rfl rfl (Nat.le_of_ble_eq_true rfl) dX12_wordingOf_21 ?_
        clear hP hD hS
        clear H locs
        intro H locs (hP : va_P G vwCl [(a_0, .inr (12, [.int i_4, .ref a_1, .ref a_2, .ref a_3, .ref a_4, .ref a_5, .int i_5, .int i_6, .int i_7, .int i_8, .int i_9, .long j_0, .int i_10, .int i_11, .int i_12, .int i_13, .ref a_6, .ref a_7, .ref a_8, .ref a_9, .ref a_10, .ref a_11, .ref a_12, .ref a_13, .ref a_14, .ref a_15, .ref a_16, .ref a_17, .ref a_18, .int x7_5_83, .int y7_0_30_85, .int y7_0_31_86, .int i_17, .int i_18, .int i_19, .ref a_19, .int 0, .ref a_20])), (a_6, .inl (cy 1, 5, .inl (mm_g [i_21, i_22, i_23, i_24, i_25]))), (a_7, .inl (cy 1, 30, .inl (mm_g [i_26, i_27, i_28, i_29, i_30, i_31, i_32, i_33, i_34, i_35, i_36, i_37, i_38, i_39, i_40, i_41, i_42, i_43, i_44, i_45, i_46, i_47, i_48, i_49, i_50, i_51, i_52, i_53, i_54, i_55]))), (a_8, .inl (cy 1, 90, .inl f_0)), (a_9, .inl (cy 1, 15, .inl f_1)), (a_10, .inl (cy 1, 1050, .inl f_2)), (a_13, .inl (cy 1, 450, .inl f_3)), (a_15, .inl (cy 1, 7200, .inl n3)), (a_16, .inl (cy 1, 3, .inl n4)), (a_17, .inl (cy 1, 3, .inl n5)), (a_18, .inl (cy 1, 8, .inl z7_10_88)), (a_20, .inl (cy 1, 4, .inl z7_11_89))] H) (hD : va_D A [(a_0, .inr (12, [.int i_4, .ref a_1, .ref a_2, .ref a_3, .ref a_4, .ref a_5, .int i_5, .int i_6, .int i_7, .int i_8, .int i_9, .long j_0, .int i_10, .int i_11, .int i_12, .int i_13, .ref a_6, .ref a_7, .ref a_8, .ref a_9, .ref a_10, .ref a_11, .ref a_12, .ref a_13, .ref a_14, .ref a_15, .ref a_16, .ref a_17, .ref a_18, .int x7_5_83, .int y7_0_30_85, .int y7_0_31_86, .int i_17, .int i_18, .int i_19, .ref a_19, .int 0, .ref a_20])), (a_6, .inl (cy 1, 5, .inl (mm_g [i_21, i_22, i_23, i_24, i_25]))), (a_7, .inl (cy 1, 30, .inl (mm_g [i_26, i_27, i_28, i_29, i_30, i_31, i_32, i_33, i_34, i_35, i_36, i_37, i_38, i_39, i_40, i_41, i_42, i_43, i_44, i_45, i_46, i_47, i_48, i_49, i_50, i_51, i_52, i_53, i_54, i_55]))), (a_8, .inl (cy 1, 90, .inl f_0)), (a_9, .inl (cy 1, 15, .inl f_1)), (a_10, .inl (cy 1, 1050, .inl f_2)), (a_13, .inl (cy 1, 450, .inl f_3)), (a_15, .inl (cy 1, 7200, .inl n3)), (a_16, .inl (cy 1, 3, .inl n4)), (a_17, .inl (cy 1, 3, .inl n5)), (a_18, .inl (cy 1, 8, .inl z7_10_88)), (a_20, .inl (cy 1, 4, .inl z7_11_89))]) hS
        refine lv_aload_n hx hb dX12_wordingOf_24 rfl (lv_at hl 1 rfl) ?_
        refine lv_iconst (v := 0) hx hb dX12_wordingOf_25 (by decide) ?_
        refine lv_iload_n hx hb dX12_wordingOf_26 rfl (lv_at hl 2 rfl) ?_
        refine lv_iload_n hx hb dX12_wordingOf_27 rfl (lv_at hl 3 rfl) ?_
        refine lv_iload_n hx hb dX12_wordingOf_28 rfl (lv_at hl 4 rfl) ?_
        refine lv_iload hx hb dX12_wordingOf_29 (lv_at hl 5 rfl) ?_
        refine mm_finv (va_runV (As := [.int 0, .int i_0, .int i_1, .int i_2, .int i_3]) (rest := []) ⟨hx, hb, hml, hown, hts⟩ (M227_X12_rowsFrom l G cy H.size a_0 i_0 i_1 i_2 i_3 i_4 a_1 a_2 a_3 a_4 a_5 i_5 i_6 i_7 i_8 i_9 j_0 i_10 i_11 i_12 i_13 a_6 a_7 a_8 a_9 a_10 a_11 a_12 a_13 a_14 a_15 a_16 a_17 a_18 x7_5_83 y7_0_30_85 y7_0_31_86 i_17 i_18 i_19 a_19 0 a_20 i_21 i_22 i_23 i_24 i_25 i_26 i_27 i_28 i_29 i_30 i_31 i_32 i_33 i_34 i_35 i_36 i_37 i_38 i_39 i_40 i_41 i_42 i_43 i_44 i_45 i_46 i_47 i_48 i_49 i_50 i_51 i_52 i_53 i_54 i_55 f_0 f_3 n3 n4 z7_10_88 z7_11_89 h0 h1 h2 h3 q93 (mm_wk q2 (by decide)) h6 h7 h8 h9 h10 h11 h12 (mm_wk q1 (by decide)) h14 h15 h16 h17 h18 h19 h20 h21 h22 h23 h24 h25 h26 h27 h28 h29 h30 h31 h32 h33 h34 h35 h36 h37 h38 h39 h40 h43 w6 w7 rz7_10_88 h49 h50 h52 h53 h55 h56 h58 h59 (mm_f1_l w9 h60 h0 (by decide))) (cwV 5 hts (mm_gV mm_w1405 mm_w1406 mm_w1407 mm_w5 mm_w1408) rfl rfl rfl hd_X12_rowsFrom ⟨by rw [hRf]; exact Nat.le_of_ble_eq_true rfl, by rw [hRl]; exact Nat.le_of_ble_eq_true rfl⟩) (mm_preV hK hZ hS hA hP hD [0, 1, 2, 3, 6, 7, 8, 10, 11] rfl rfl 0 rfl rfl rfl) rfl rfl hl.1 rfl (lv_room (Nat.le_of_ble_eq_true rfl)) dX12_wordingOf_31 ⟨by rw [hRc]; exact Nat.le_of_ble_eq_true rfl, by rw [hRs]; exact Nat.le_of_ble_eq_true rfl⟩) hP hD hS hA (fun u : Int32 × Int32 × Int32 × (Nat → Int32) × (Nat → Int32) => [(a_0, .inr (12, [.int i_4, .ref a_1, .ref a_2, .ref a_3, .ref a_4, .ref a_5, .int i_5, .int i_6, .int i_7, .int i_8, .int i_9, .long j_0, .int i_10, .int i_11, .int i_12, .int i_13, .ref a_6, .ref a_7, .ref a_8, .ref a_9, .ref a_10, .ref a_11, .ref a_12, .ref a_13, .ref a_14, .ref a_15, .ref a_16, .ref a_17, .ref a_18, .int x7_5_83, .int u.1, .int u.2.1, .int i_17, .int i_18, .int i_19, .ref a_19, .int u.2.2.1, .ref a_20])), (a_6, .inl (cy 1, 5, .inl (mm_g [i_21, i_22, i_23, i_24, i_25]))), (a_7, .inl (cy 1, 30, .inl (mm_g [i_26, i_27, i_28, i_29, i_30, i_31, i_32, i_33, i_34, i_35, i_36, i_37, i_38, i_39, i_40, i_41, i_42, i_43, i_44, i_45, i_46, i_47, i_48, i_49, i_50, i_51, i_52, i_53, i_54, i_55]))), (a_8, .inl (cy 1, 90, .inl f_0)), (a_9, .inl (cy 1, 15, .inl f_1)), (a_10, .inl (cy 1, 1050, .inl f_2)), (a_13, .inl (cy 1, 450, .inl f_3)), (a_15, .inl (cy 1, 7200, .inl n3)), (a_16, .inl (cy 1, 3, .inl n4)), (a_17, .inl (cy 1, 3, .inl n5)), (a_18, .inl (cy 1, 8, .inl u.2.2.2.1)), (a_20, .inl (cy 1, 4, .inl u.2.2.2.2))]) [0, 1, 2, 3, 6, 7, 8, 10, 11] [4, 5, 9] (n := 12) (fun _ => rfl) (by decide +kernel) (by decide +kernel) rfl (fun _ => rfl) (wr := [(a_9, .inl (cy 1, 15, .inl f_1)), (a_10, .inl (cy 1, 1050, .inl f_2)), (a_17, .inl (cy 1, 3, .inl n5))]) rfl (fun _ => rfl) (fun _ => @rfl _ ([a_0, a_6, a_7, a_8, a_13, a_15, a_16, a_18, a_20] : List Nat)) ?_
        clear hP hD hS
        clear H locs
        intro u
        obtain ⟨n94, n95, n96, n97, n98⟩ := u
        intro H locs hw (hP : va_P G vwCl [(a_0, .inr (12, [.int i_4, .ref a_1, .ref a_2, .ref a_3, .ref a_4, .ref a_5, .int i_5, .int i_6, .int i_7, .int i_8, .int i_9, .long j_0, .int i_10, .int i_11, .int i_12, .int i_13, .ref a_6, .ref a_7, .ref a_8, .ref a_9, .ref a_10, .ref a_11, .ref a_12, .ref a_13, .ref a_14, .ref a_15, .ref a_16, .ref a_17, .ref a_18, .int x7_5_83, .int n94, .int n95, .int i_17, .int i_18, .int i_19, .ref a_19, .int n96, .ref a_20])), (a_6, .inl (cy 1, 5, .inl (mm_g [i_21, i_22, i_23, i_24, i_25]))), (a_7, .inl (cy 1, 30, .inl (mm_g [i_26, i_27, i_28, i_29, i_30, i_31, i_32, i_33, i_34, i_35, i_36, i_37, i_38, i_39, i_40, i_41, i_42, i_43, i_44, i_45, i_46, i_47, i_48, i_49, i_50, i_51, i_52, i_53, i_54, i_55]))), (a_8, .inl (cy 1, 90, .inl f_0)), (a_9, .inl (cy 1, 15, .inl f_1)), (a_10, .inl (cy 1, 1050, .inl f_2)), (a_13, .inl (cy 1, 450, .inl f_3)), (a_15, .inl (cy 1, 7200, .inl n3)), (a_16, .inl (cy 1, 3, .inl n4)), (a_17, .inl (cy 1, 3, .inl n5)), (a_18, .inl (cy 1, 8, .inl n97)), (a_20, .inl (cy 1, 4, .inl n98))] H) (hD : va_D A [(a_0, .inr (12, [.int i_4, .ref a_1, .ref a_2, .ref a_3, .ref a_4, .ref a_5, .int i_5, .int i_6, .int i_7, .int i_8, .int i_9, .long j_0, .int i_10, .int i_11, .int i_12, .int i_13, .ref a_6, .ref a_7, .ref a_8, .ref a_9, .ref a_10, .ref a_11, .ref a_12, .ref a_13, .ref a_14, .ref a_15, .ref a_16, .ref a_17, .ref a_18, .int x7_5_83, .int n94, .int n95, .int i_17, .int i_18, .int i_19, .ref a_19, .int n96, .ref a_20])), (a_6, .inl (cy 1, 5, .inl (mm_g [i_21, i_22, i_23, i_24, i_25]))), (a_7, .inl (cy 1, 30, .inl (mm_g [i_26, i_27, i_28, i_29, i_30, i_31, i_32, i_33, i_34, i_35, i_36, i_37, i_38, i_39, i_40, i_41, i_42, i_43, i_44, i_45, i_46, i_47, i_48, i_49, i_50, i_51, i_52, i_53, i_54, i_55]))), (a_8, .inl (cy 1, 90, .inl f_0)), (a_9, .inl (cy 1, 15, .inl f_1)), (a_10, .inl (cy 1, 1050, .inl f_2)), (a_13, .inl (cy 1, 450, .inl f_3)), (a_15, .inl (cy 1, 7200, .inl n3)), (a_16, .inl (cy 1, 3, .inl n4)), (a_17, .inl (cy 1, 3, .inl n5)), (a_18, .inl (cy 1, 8, .inl n97)), (a_20, .inl (cy 1, 4, .inl n98))]) hS
        have w99 := hw
        refine lv_aload_n hx hb dX12_wordingOf_34 rfl (lv_at hl 1 rfl) ?_
        refine va_get (D := G) (ci := 12) (v := .int n96) (C := RX12) (T := TX12) (N := 38) hx hb hts (mm_i inlX12) hown hK.1 hP 0 rfl rfl 36 (by decide) (mm_h hts mm_w1404) (fun _ h9 => h9) rfl dX12_wordingOf_35 ?_
        refine lv_if_le (tgt := 44) hx hb dX12_wordingOf_38 (by decide) (fun c100 => ?_) (fun c100 => ?_)
        · have q101 := mm_leL (mm_le c100) (mm_top n96) mm_k0
          obtain ⟨v102, ev102⟩ : ∃ y : Int32, y = x7_5_83 + 1 := ⟨_, rfl⟩
          refine lv_iinc (v := v102) (lv' := [(5, .int v102), (0, .ref a_0), (1, .int i_0), (2, .int i_1), (3, .int i_2), (4, .int i_3)]) hx hb dX12_wordingOf_44 hl (k := 0) rfl (by rw [ev102]; rfl) (by decide) rfl ?_
          clear hl
          clear ls
          intro ls hl
          have rv102 : mm_rg v102 2 5 := mm_add ev102 q93 mm_k1 (by decide) (by decide)
          have tv102 := mm_addEc ev102 q93 mm_k1 (by decide) (k := 1) (by decide)
          refine lv_goto (tgt := 7) hx hb dX12_wordingOf_47 (by decide) ?_
          exact ih7 v102 x7_5_83 n94 n95 n96 n97 n98 (mm_wk rv102 (by decide)) (mm_wk q93 (by decide)) w99 (mm_mu hm7 tv102 (by decide) (rv102).2 (by decide)) H locs hP hD hS ls (lv_sub hl [0, 1, 2, 3, 4, 5] rfl)
        · have q103 := mm_ltR (lo := 1) (mm_nle c100) mm_k0 (mm_top n96) (by decide)
          refine lv_iload hx hb dX12_wordingOf_41 (lv_at hl 0 rfl) ?_
          subst hAe
          rw [hQ]
          exact W.iret (v := x7_5_83) hx hb hr (fun t ht hW => ⟨⟨x7_5_83, (x7_5_83, n94, n95, n96, n3, n4, n5, n97, n98), rfl, ⟨(mm_wk q93 (by decide)), w6, w7, w8, w99, (mm_wk q93 (by decide))⟩, by rw [ht]; exact hP, hK.warm hW, hD⟩, hS.F ht⟩) hS.2.2 dX12_wordingOf_43
  exact L7_89 _ 1 i_14 i_15 i_16 i_20 f_7 f_8 (mm_wk mm_k1 (by decide)) h4 h47 (Nat.lt_succ_self _) H locs hP hD hS ls (lv_sub hl [0, 1, 2, 3, 4, 5] rfl)

set_option maxHeartbeats 4000000 in
set_option maxRecDepth 100000 in
theorem M229_X12_wording (l : Launch) (G : va_G) (cy : Nat → ClassId) (sz : Nat) (a_0 : Nat) (i_0 : Int32) (i_1 : Int32) (i_2 : Int32) (i_3 : Int32) (i_4 : Int32) (a_1 : Nat) (a_2 : Nat) (a_3 : Nat) (a_4 : Nat) (a_5 : Nat) (i_5 : Int32) (i_6 : Int32) (i_7 : Int32) (i_8 : Int32) (i_9 : Int32) (j_0 : Int64) (i_10 : Int32) (i_11 : Int32) (i_12 : Int32) (i_13 : Int32) (a_6 : Nat) (a_7 : Nat) (a_8 : Nat) (a_9 : Nat) (a_10 : Nat) (a_11 : Nat) (a_12 : Nat) (a_13 : Nat) (a_14 : Nat) (a_15 : Nat) (a_16 : Nat) (a_17 : Nat) (a_18 : Nat) (i_14 : Int32) (i_15 : Int32) (i_16 : Int32) (i_17 : Int32) (i_18 : Int32) (i_19 : Int32) (a_19 : Nat) (i_20 : Int32) (a_20 : Nat) (i_21 : Int32) (i_22 : Int32) (i_23 : Int32) (i_24 : Int32) (i_25 : Int32) (i_26 : Int32) (i_27 : Int32) (i_28 : Int32) (i_29 : Int32) (i_30 : Int32) (i_31 : Int32) (i_32 : Int32) (i_33 : Int32) (i_34 : Int32) (i_35 : Int32) (i_36 : Int32) (i_37 : Int32) (i_38 : Int32) (i_39 : Int32) (i_40 : Int32) (i_41 : Int32) (i_42 : Int32) (i_43 : Int32) (i_44 : Int32) (i_45 : Int32) (i_46 : Int32) (i_47 : Int32) (i_48 : Int32) (i_49 : Int32) (i_50 : Int32) (i_51 : Int32) (i_52 : Int32) (i_53 : Int32) (i_54 : Int32) (i_55 : Int32) (f_0 : Nat → Int32) (f_1 : Nat → Int32) (f_2 : Nat → Int32) (f_3 : Nat → Int32) (f_4 : Nat → Int32) (f_5 : Nat → Int32) (f_6 : Nat → Int32) (f_7 : Nat → Int32) (f_8 : Nat → Int32) (h0 : mm_rg i_14 0 8) (h1 : mm_rg i_21 0 601) (h2 : mm_rg i_22 0 601) (h3 : mm_rg i_23 0 601) (h4 : mm_rg i_24 0 601) (h5 : mm_rg i_25 0 601) (h6 : mm_rg i_26 0 10) (h7 : mm_rg i_27 0 99) (h8 : mm_rg i_28 0 9) (h9 : mm_rg i_29 0 3) (h10 : mm_rg i_30 0 6) (h11 : mm_rg i_31 0 30) (h12 : mm_rg i_32 0 10) (h13 : mm_rg i_33 0 99) (h14 : mm_rg i_34 0 9) (h15 : mm_rg i_35 0 3) (h16 : mm_rg i_36 0 6) (h17 : mm_rg i_37 0 30) (h18 : mm_rg i_38 0 10) (h19 : mm_rg i_39 0 99) (h20 : mm_rg i_40 0 9) (h21 : mm_rg i_41 0 3) (h22 : mm_rg i_42 0 6) (h23 : mm_rg i_43 0 30) (h24 : mm_rg i_44 0 10) (h25 : mm_rg i_45 0 99) (h26 : mm_rg i_46 0 9) (h27 : mm_rg i_47 0 3) (h28 : mm_rg i_48 0 6) (h29 : mm_rg i_49 0 30) (h30 : mm_rg i_50 0 10) (h31 : mm_rg i_51 0 99) (h32 : mm_rg i_52 0 9) (h33 : mm_rg i_53 0 3) (h34 : mm_rg i_54 0 6) (h35 : mm_rg i_55 0 30) (h36 : mm_ar f_0 0 99) (h37 : mm_ar f_1 0 7) (h38 : mm_ar f_2 0 9) (h39 : mm_ar f_3 (-1) 99) (h40 : mm_ar f_4 0 9) (h41 : mm_ar f_5 0 210) (h42 : mm_ar f_6 0 210) (h43 : mm_ar f_7 0 9) (h44 : mm_rls f_1 f_2 0 i_28 i_29) (h45 : mm_acs f_3 0 i_28 i_29 i_31) (h46 : mm_tl i_21 i_29 i_30) (h47 : mm_rls f_1 f_2 1 i_34 i_35) (h48 : mm_acs f_3 1 i_34 i_35 i_37) (h49 : mm_tl i_22 i_35 i_36) (h50 : mm_rls f_1 f_2 2 i_40 i_41) (h51 : mm_acs f_3 2 i_40 i_41 i_43) (h52 : mm_tl i_23 i_41 i_42) (h53 : mm_rls f_1 f_2 3 i_46 i_47) (h54 : mm_acs f_3 3 i_46 i_47 i_49) (h55 : mm_tl i_24 i_47 i_48)  : mm_CI l yX12_wording (mm_ws yX12_wording cX12_wording 6 (some .int)) ({ frames := 15, cells := 0, slots := 0, locals := 325 } : Room) G cy sz [(a_0, .inr (12, [.int i_4, .ref a_1, .ref a_2, .ref a_3, .ref a_4, .ref a_5, .int i_5, .int i_6, .int i_7, .int i_8, .int i_9, .long j_0, .int i_10, .int i_11, .int i_12, .int i_13, .ref a_6, .ref a_7, .ref a_8, .ref a_9, .ref a_10, .ref a_11, .ref a_12, .ref a_13, .ref a_14, .ref a_15, .ref a_16, .ref a_17, .ref a_18, .int i_14, .int i_15, .int i_16, .int i_17, .int i_18, .int i_19, .ref a_19, .int i_20, .ref a_20])), (a_6, .inl (cy 1, 5, .inl (mm_g [i_21, i_22, i_23, i_24, i_25]))), (a_7, .inl (cy 1, 30, .inl (mm_g [i_26, i_27, i_28, i_29, i_30, i_31, i_32, i_33, i_34, i_35, i_36, i_37, i_38, i_39, i_40, i_41, i_42, i_43, i_44, i_45, i_46, i_47, i_48, i_49, i_50, i_51, i_52, i_53, i_54, i_55]))), (a_8, .inl (cy 1, 90, .inl f_0)), (a_9, .inl (cy 1, 15, .inl f_1)), (a_10, .inl (cy 1, 1050, .inl f_2)), (a_13, .inl (cy 1, 450, .inl f_3)), (a_15, .inl (cy 1, 7200, .inl f_4)), (a_16, .inl (cy 1, 3, .inl f_5)), (a_17, .inl (cy 1, 3, .inl f_6)), (a_18, .inl (cy 1, 8, .inl f_7)), (a_20, .inl (cy 1, 4, .inl f_8))] [.ref a_0, .int i_0, .int i_1, .int i_2, .int i_3] (fun u : Int32 × Int32 × Int32 × Int32 × (Nat → Int32) × (Nat → Int32) × (Nat → Int32) × (Nat → Int32) × (Nat → Int32) => [(a_0, .inr (12, [.int 0, .ref a_1, .ref a_2, .ref a_3, .ref a_4, .ref a_5, .int i_5, .int i_6, .int i_7, .int i_8, .int i_9, .long j_0, .int i_10, .int i_11, .int i_12, .int i_13, .ref a_6, .ref a_7, .ref a_8, .ref a_9, .ref a_10, .ref a_11, .ref a_12, .ref a_13, .ref a_14, .ref a_15, .ref a_16, .ref a_17, .ref a_18, .int u.1, .int u.2.1, .int u.2.2.1, .int i_17, .int i_18, .int i_19, .ref a_19, .int u.2.2.2.1, .ref a_20])), (a_6, .inl (cy 1, 5, .inl (mm_g [i_21, i_22, i_23, i_24, i_25]))), (a_7, .inl (cy 1, 30, .inl (mm_g [i_26, i_27, i_28, i_29, i_30, i_31, i_32, i_33, i_34, i_35, i_36, i_37, i_38, i_39, i_40, i_41, i_42, i_43, i_44, i_45, i_46, i_47, i_48, i_49, i_50, i_51, i_52, i_53, i_54, i_55]))), (a_8, .inl (cy 1, 90, .inl f_0)), (a_9, .inl (cy 1, 15, .inl f_1)), (a_10, .inl (cy 1, 1050, .inl f_2)), (a_13, .inl (cy 1, 450, .inl f_3)), (a_15, .inl (cy 1, 7200, .inl u.2.2.2.2.1)), (a_16, .inl (cy 1, 3, .inl u.2.2.2.2.2.1)), (a_17, .inl (cy 1, 3, .inl u.2.2.2.2.2.2.1)), (a_18, .inl (cy 1, 8, .inl u.2.2.2.2.2.2.2.1)), (a_20, .inl (cy 1, 4, .inl u.2.2.2.2.2.2.2.2))]) (fun (r : Int32) (u : Int32 × Int32 × Int32 × Int32 × (Nat → Int32) × (Nat → Int32) × (Nat → Int32) × (Nat → Int32) × (Nat → Int32)) => mm_rg u.1 0 8 ∧ mm_ar u.2.2.2.2.1 0 9 ∧ mm_ar u.2.2.2.2.2.1 0 210 ∧ mm_ar u.2.2.2.2.2.2.1 0 210 ∧ mm_ar u.2.2.2.2.2.2.2.1 0 9 ∧ mm_rg r (-2) 4) 0 0 := by
  refine mm_begin (lv := [(0, .ref a_0), (1, .int i_0), (2, .int i_1), (3, .int i_2), (4, .int i_3)]) (by decide) (Nat.le_of_ble_eq_true rfl) rfl ?_
  intro p e s m below meth c A ls R args Q H locs hRe hQ hAe hx hb hr hlocks hml hown hnm hts hsz hA hS hP hK hD hZ hl
  have hRf : R.frames = 15 := by rw [hRe]
  have hRl : R.locals = 325 := by rw [hRe]
  have hRc : R.cells = 0 := by rw [hRe]
  have hRs : R.slots = 0 := by rw [hRe]
  refine lv_aload_n hx hb dX12_wording_0 rfl (lv_at hl 0 rfl) ?_
  refine lv_iconst (v := 0) hx hb dX12_wording_1 (by decide) ?_
  refine va_put (D := G) (ci := 12) (v := .int 0) (ty := tyX12 0) (C := RX12) (T := TX12) (N := 38) hx hb hts (mm_i inlX12) tyX12 tyX12_ok nmX12 hown hK.1 hP hD hS 0 rfl rfl 0 (by decide) (mm_h hts mm_w177) (fun _ h9 => h9) rfl (tyX12_ok 0 (by decide)) rfl rfl (Nat.le_of_ble_eq_true rfl) dX12_wording_2 ?_
  clear hP hD hS
  clear H locs
  intro H locs (hP : va_P G vwCl [(a_0, .inr (12, [.int 0, .ref a_1, .ref a_2, .ref a_3, .ref a_4, .ref a_5, .int i_5, .int i_6, .int i_7, .int i_8, .int i_9, .long j_0, .int i_10, .int i_11, .int i_12, .int i_13, .ref a_6, .ref a_7, .ref a_8, .ref a_9, .ref a_10, .ref a_11, .ref a_12, .ref a_13, .ref a_14, .ref a_15, .ref a_16, .ref a_17, .ref a_18, .int i_14, .int i_15, .int i_16, .int i_17, .int i_18, .int i_19, .ref a_19, .int i_20, .ref a_20])), (a_6, .inl (cy 1, 5, .inl (mm_g [i_21, i_22, i_23, i_24, i_25]))), (a_7, .inl (cy 1, 30, .inl (mm_g [i_26, i_27, i_28, i_29, i_30, i_31, i_32, i_33, i_34, i_35, i_36, i_37, i_38, i_39, i_40, i_41, i_42, i_43, i_44, i_45, i_46, i_47, i_48, i_49, i_50, i_51, i_52, i_53, i_54, i_55]))), (a_8, .inl (cy 1, 90, .inl f_0)), (a_9, .inl (cy 1, 15, .inl f_1)), (a_10, .inl (cy 1, 1050, .inl f_2)), (a_13, .inl (cy 1, 450, .inl f_3)), (a_15, .inl (cy 1, 7200, .inl f_4)), (a_16, .inl (cy 1, 3, .inl f_5)), (a_17, .inl (cy 1, 3, .inl f_6)), (a_18, .inl (cy 1, 8, .inl f_7)), (a_20, .inl (cy 1, 4, .inl f_8))] H) (hD : va_D A [(a_0, .inr (12, [.int 0, .ref a_1, .ref a_2, .ref a_3, .ref a_4, .ref a_5, .int i_5, .int i_6, .int i_7, .int i_8, .int i_9, .long j_0, .int i_10, .int i_11, .int i_12, .int i_13, .ref a_6, .ref a_7, .ref a_8, .ref a_9, .ref a_10, .ref a_11, .ref a_12, .ref a_13, .ref a_14, .ref a_15, .ref a_16, .ref a_17, .ref a_18, .int i_14, .int i_15, .int i_16, .int i_17, .int i_18, .int i_19, .ref a_19, .int i_20, .ref a_20])), (a_6, .inl (cy 1, 5, .inl (mm_g [i_21, i_22, i_23, i_24, i_25]))), (a_7, .inl (cy 1, 30, .inl (mm_g [i_26, i_27, i_28, i_29, i_30, i_31, i_32, i_33, i_34, i_35, i_36, i_37, i_38, i_39, i_40, i_41, i_42, i_43, i_44, i_45, i_46, i_47, i_48, i_49, i_50, i_51, i_52, i_53, i_54, i_55]))), (a_8, .inl (cy 1, 90, .inl f_0)), (a_9, .inl (cy 1, 15, .inl f_1)), (a_10, .inl (cy 1, 1050, .inl f_2)), (a_13, .inl (cy 1, 450, .inl f_3)), (a_15, .inl (cy 1, 7200, .inl f_4)), (a_16, .inl (cy 1, 3, .inl f_5)), (a_17, .inl (cy 1, 3, .inl f_6)), (a_18, .inl (cy 1, 8, .inl f_7)), (a_20, .inl (cy 1, 4, .inl f_8))]) hS
  refine lv_aload_n hx hb dX12_wording_5 rfl (lv_at hl 0 rfl) ?_
  refine lv_iload_n hx hb dX12_wording_6 rfl (lv_at hl 1 rfl) ?_
  refine lv_iload_n hx hb dX12_wording_7 rfl (lv_at hl 2 rfl) ?_
  refine lv_iload_n hx hb dX12_wording_8 rfl (lv_at hl 3 rfl) ?_
  refine lv_iload hx hb dX12_wording_9 (lv_at hl 4 rfl) ?_
  refine mm_finir (va_runV (As := [.int i_0, .int i_1, .int i_2, .int i_3]) (rest := []) ⟨hx, hb, hml, hown, hts⟩ (M210_X12_isWords l G cy H.size a_0 i_0 i_1 i_2 i_3 0 a_1 a_2 a_3 a_4 a_5 i_5 i_6 i_7 i_8 i_9 j_0 i_10 i_11 i_12 i_13 a_6 a_7 a_8 a_9 a_10 a_11 a_12 a_13 a_14 a_15 a_16 a_17 a_18 i_14 i_15 i_16 i_17 i_18 i_19 a_19 i_20 a_20 i_26 i_27 i_28 i_29 i_30 i_31 i_32 i_33 i_34 i_35 i_36 i_37 i_38 i_39 i_40 i_41 i_42 i_43 i_44 i_45 i_46 i_47 i_48 i_49 i_50 i_51 i_52 i_53 i_54 i_55 h6 h7 h8 h9 h10 h11 h12 h13 h14 h15 h16 h17 h18 h19 h20 h21 h22 h23 h24 h25 h26 h27 h28 h29 h30 h31 h32 h33 h34 h35) (cwV 4 hts (mm_gV mm_w1395 mm_w1396 mm_w1397 mm_w5 mm_w1398) rfl rfl rfl hd_X12_isWords ⟨by rw [hRf]; exact Nat.le_of_ble_eq_true rfl, by rw [hRl]; exact Nat.le_of_ble_eq_true rfl⟩) (mm_preV hK hZ hS hA hP hD [0, 2] rfl rfl 0 rfl rfl rfl) rfl rfl hl.1 rfl (lv_room (Nat.le_of_ble_eq_true rfl)) dX12_wording_11 ⟨by rw [hRc]; exact Nat.le_of_ble_eq_true rfl, by rw [hRs]; exact Nat.le_of_ble_eq_true rfl⟩) hP hD hS hA [0, 2] rfl (fun _ => rfl) ?_
  clear hP hD hS
  clear H locs
  intro v1 _u H locs hw hP hD hS
  rcases hw with rfl | ⟨rfl, w2, w3, w4, w5, w6⟩
  · refine lv_if_ne (tgt := 20) hx hb dX12_wording_14 (by decide) (fun c7 => ?_) (fun c7 => ?_)
    · exact absurd rfl (mm_ne c7)
    · refine lv_bipush (v := (-2)) hx hb dX12_wording_17 (by decide) ?_
      subst hAe
      rw [hQ]
      exact W.iret (v := (-2)) hx hb hr (fun t ht hW => ⟨⟨(-2), (i_14, i_15, i_16, i_20, f_4, f_5, f_6, f_7, f_8), rfl, ⟨h0, h40, h41, h42, h43, (mm_wk mm_km2 (by decide))⟩, by rw [ht]; exact hP, hK.warm hW, hD⟩, hS.F ht⟩) hS.2.2 dX12_wording_19
  · have q8 := mm_ltR (lo := 1) w6 w2 h9 (by decide)
    have q9 : mm_rg i_21 1 601 := mm_tl_3 h46 q8 h1 (by decide)
    refine lv_if_ne (tgt := 20) hx hb dX12_wording_14 (by decide) (fun c10 => ?_) (fun c10 => ?_)
    · refine lv_aload_n hx hb dX12_wording_20 rfl (lv_at hl 0 rfl) ?_
      refine lv_iload_n hx hb dX12_wording_21 rfl (lv_at hl 1 rfl) ?_
      refine lv_iload_n hx hb dX12_wording_22 rfl (lv_at hl 2 rfl) ?_
      refine lv_iload_n hx hb dX12_wording_23 rfl (lv_at hl 3 rfl) ?_
      refine lv_iload hx hb dX12_wording_24 (lv_at hl 4 rfl) ?_
      refine mm_fini (va_runV (As := [.int i_0, .int i_1, .int i_2, .int i_3]) (rest := []) ⟨hx, hb, hml, hown, hts⟩ (M228_X12_wordingOf l G cy H.size a_0 i_0 i_1 i_2 i_3 0 a_1 a_2 a_3 a_4 a_5 i_5 i_6 i_7 i_8 i_9 j_0 i_10 i_11 i_12 i_13 a_6 a_7 a_8 a_9 a_10 a_11 a_12 a_13 a_14 a_15 a_16 a_17 a_18 i_14 i_15 i_16 i_17 i_18 i_19 a_19 i_20 a_20 i_21 i_22 i_23 i_24 i_25 i_26 i_27 i_28 i_29 i_30 i_31 i_32 i_33 i_34 i_35 i_36 i_37 i_38 i_39 i_40 i_41 i_42 i_43 i_44 i_45 i_46 i_47 i_48 i_49 i_50 i_51 i_52 i_53 i_54 i_55 f_0 f_1 f_2 f_3 f_4 f_5 f_6 f_7 f_8 w2 w3 w4 w5 h0 (mm_wk q9 (by decide)) h2 h3 h4 h5 h6 h7 h8 (mm_wk q8 (by decide)) h10 h11 h12 h13 h14 h15 h16 h17 h18 h19 h20 h21 h22 h23 h24 h25 h26 h27 h28 h29 h30 h31 h32 h33 h34 h35 h36 h37 h38 h39 h40 h41 h42 h43 h44 h45 h46 h47 h48 h49 h50 h51 h52 h53 h54 h55 w6) (cwV 4 hts (mm_gV mm_w1400 mm_w1401 mm_w1402 mm_w5 mm_w1403) rfl rfl rfl hd_X12_wordingOf ⟨by rw [hRf]; exact Nat.le_of_ble_eq_true rfl, by rw [hRl]; exact Nat.le_of_ble_eq_true rfl⟩) (mm_preV hK hZ hS hA hP hD [0, 1, 2, 3, 4, 5, 6, 7, 8, 9, 10, 11] rfl rfl 0 rfl rfl rfl) rfl rfl hl.1 rfl (lv_room (Nat.le_of_ble_eq_true rfl)) dX12_wording_26 ⟨by rw [hRc]; exact Nat.le_of_ble_eq_true rfl, by rw [hRs]; exact Nat.le_of_ble_eq_true rfl⟩) hP hD hS hA (fun u : Int32 × Int32 × Int32 × Int32 × (Nat → Int32) × (Nat → Int32) × (Nat → Int32) × (Nat → Int32) × (Nat → Int32) => [(a_0, .inr (12, [.int 0, .ref a_1, .ref a_2, .ref a_3, .ref a_4, .ref a_5, .int i_5, .int i_6, .int i_7, .int i_8, .int i_9, .long j_0, .int i_10, .int i_11, .int i_12, .int i_13, .ref a_6, .ref a_7, .ref a_8, .ref a_9, .ref a_10, .ref a_11, .ref a_12, .ref a_13, .ref a_14, .ref a_15, .ref a_16, .ref a_17, .ref a_18, .int u.1, .int u.2.1, .int u.2.2.1, .int i_17, .int i_18, .int i_19, .ref a_19, .int u.2.2.2.1, .ref a_20])), (a_6, .inl (cy 1, 5, .inl (mm_g [i_21, i_22, i_23, i_24, i_25]))), (a_7, .inl (cy 1, 30, .inl (mm_g [i_26, i_27, i_28, i_29, i_30, i_31, i_32, i_33, i_34, i_35, i_36, i_37, i_38, i_39, i_40, i_41, i_42, i_43, i_44, i_45, i_46, i_47, i_48, i_49, i_50, i_51, i_52, i_53, i_54, i_55]))), (a_8, .inl (cy 1, 90, .inl f_0)), (a_9, .inl (cy 1, 15, .inl f_1)), (a_10, .inl (cy 1, 1050, .inl f_2)), (a_13, .inl (cy 1, 450, .inl f_3)), (a_15, .inl (cy 1, 7200, .inl u.2.2.2.2.1)), (a_16, .inl (cy 1, 3, .inl u.2.2.2.2.2.1)), (a_17, .inl (cy 1, 3, .inl u.2.2.2.2.2.2.1)), (a_18, .inl (cy 1, 8, .inl u.2.2.2.2.2.2.2.1)), (a_20, .inl (cy 1, 4, .inl u.2.2.2.2.2.2.2.2))]) [0, 1, 2, 3, 4, 5, 6, 7, 8, 9, 10, 11] [] (n := 12) (fun _ => rfl) (by decide +kernel) (by decide +kernel) rfl (fun _ => rfl) (wr := []) rfl (fun _ => rfl) (fun _ => @rfl _ ([a_0, a_6, a_7, a_8, a_9, a_10, a_13, a_15, a_16, a_17, a_18, a_20] : List Nat)) ?_
      clear hP hD hS
      clear H locs
      intro v20 u
      obtain ⟨n11, n12, n13, n14, n15, n16, n17, n18, n19⟩ := u
      intro H locs hw (hP : va_P G vwCl [(a_0, .inr (12, [.int 0, .ref a_1, .ref a_2, .ref a_3, .ref a_4, .ref a_5, .int i_5, .int i_6, .int i_7, .int i_8, .int i_9, .long j_0, .int i_10, .int i_11, .int i_12, .int i_13, .ref a_6, .ref a_7, .ref a_8, .ref a_9, .ref a_10, .ref a_11, .ref a_12, .ref a_13, .ref a_14, .ref a_15, .ref a_16, .ref a_17, .ref a_18, .int n11, .int n12, .int n13, .int i_17, .int i_18, .int i_19, .ref a_19, .int n14, .ref a_20])), (a_6, .inl (cy 1, 5, .inl (mm_g [i_21, i_22, i_23, i_24, i_25]))), (a_7, .inl (cy 1, 30, .inl (mm_g [i_26, i_27, i_28, i_29, i_30, i_31, i_32, i_33, i_34, i_35, i_36, i_37, i_38, i_39, i_40, i_41, i_42, i_43, i_44, i_45, i_46, i_47, i_48, i_49, i_50, i_51, i_52, i_53, i_54, i_55]))), (a_8, .inl (cy 1, 90, .inl f_0)), (a_9, .inl (cy 1, 15, .inl f_1)), (a_10, .inl (cy 1, 1050, .inl f_2)), (a_13, .inl (cy 1, 450, .inl f_3)), (a_15, .inl (cy 1, 7200, .inl n15)), (a_16, .inl (cy 1, 3, .inl n16)), (a_17, .inl (cy 1, 3, .inl n17)), (a_18, .inl (cy 1, 8, .inl n18)), (a_20, .inl (cy 1, 4, .inl n19))] H) (hD : va_D A [(a_0, .inr (12, [.int 0, .ref a_1, .ref a_2, .ref a_3, .ref a_4, .ref a_5, .int i_5, .int i_6, .int i_7, .int i_8, .int i_9, .long j_0, .int i_10, .int i_11, .int i_12, .int i_13, .ref a_6, .ref a_7, .ref a_8, .ref a_9, .ref a_10, .ref a_11, .ref a_12, .ref a_13, .ref a_14, .ref a_15, .ref a_16, .ref a_17, .ref a_18, .int n11, .int n12, .int n13, .int i_17, .int i_18, .int i_19, .ref a_19, .int n14, .ref a_20])), (a_6, .inl (cy 1, 5, .inl (mm_g [i_21, i_22, i_23, i_24, i_25]))), (a_7, .inl (cy 1, 30, .inl (mm_g [i_26, i_27, i_28, i_29, i_30, i_31, i_32, i_33, i_34, i_35, i_36, i_37, i_38, i_39, i_40, i_41, i_42, i_43, i_44, i_45, i_46, i_47, i_48, i_49, i_50, i_51, i_52, i_53, i_54, i_55]))), (a_8, .inl (cy 1, 90, .inl f_0)), (a_9, .inl (cy 1, 15, .inl f_1)), (a_10, .inl (cy 1, 1050, .inl f_2)), (a_13, .inl (cy 1, 450, .inl f_3)), (a_15, .inl (cy 1, 7200, .inl n15)), (a_16, .inl (cy 1, 3, .inl n16)), (a_17, .inl (cy 1, 3, .inl n17)), (a_18, .inl (cy 1, 8, .inl n18)), (a_20, .inl (cy 1, 4, .inl n19))]) hS
      obtain ⟨w21, w22, w23, w24, w25, hw⟩ := hw
      have w26 := hw
      refine lv_istore (lv' := [(5, .int v20), (0, .ref a_0), (1, .int i_0), (2, .int i_1), (3, .int i_2), (4, .int i_3)]) hx hb dX12_wording_29 hl (by decide) rfl ?_
      clear hl
      clear ls
      intro ls hl
      refine lv_iload hx hb dX12_wording_31 (lv_at hl 0 rfl) ?_
      refine lv_if_ne (tgt := 40) hx hb dX12_wording_33 (by decide) (fun c27 => ?_) (fun c27 => ?_)
      · have q28 := mm_neL (lo := 1) (mm_ne c27) w26 mm_k0 (by decide) (by decide)
        refine lv_iload hx hb dX12_wording_40 (lv_at hl 0 rfl) ?_
        subst hAe
        rw [hQ]
        exact W.iret (v := v20) hx hb hr (fun t ht hW => ⟨⟨v20, (n11, n12, n13, n14, n15, n16, n17, n18, n19), rfl, ⟨w21, w22, w23, w24, w25, (mm_wk q28 (by decide))⟩, by rw [ht]; exact hP, hK.warm hW, hD⟩, hS.F ht⟩) hS.2.2 dX12_wording_42
      · have q29 := mm_eqI (lo := 0) (hi := 0) c27 w26 mm_k0 (by decide)
        refine lv_iconst (v := (-1)) hx hb dX12_wording_36 (by decide) ?_
        refine lv_goto (tgt := 42) hx hb dX12_wording_37 (by decide) ?_
        subst hAe
        rw [hQ]
        exact W.iret (v := (-1)) hx hb hr (fun t ht hW => ⟨⟨(-1), (n11, n12, n13, n14, n15, n16, n17, n18, n19), rfl, ⟨w21, w22, w23, w24, w25, (mm_wk mm_km1 (by decide))⟩, by rw [ht]; exact hP, hK.warm hW, hD⟩, hS.F ht⟩) hS.2.2 dX12_wording_42
    · exact mm_eqN c10.symm mm_k0 mm_k1 (by decide)

set_option maxHeartbeats 4000000 in
set_option maxRecDepth 100000 in
theorem M230_X12_worded (l : Launch) (G : va_G) (cy : Nat → ClassId) (sz : Nat) (a_0 : Nat) (i_0 : Int32) (i_1 : Int32) (i_2 : Int32) (i_3 : Int32) (i_4 : Int32) (i_5 : Int32) (a_1 : Nat) (a_2 : Nat) (a_3 : Nat) (a_4 : Nat) (a_5 : Nat) (i_6 : Int32) (i_7 : Int32) (i_8 : Int32) (i_9 : Int32) (i_10 : Int32) (j_0 : Int64) (i_11 : Int32) (i_12 : Int32) (i_13 : Int32) (i_14 : Int32) (a_6 : Nat) (a_7 : Nat) (a_8 : Nat) (a_9 : Nat) (a_10 : Nat) (a_11 : Nat) (a_12 : Nat) (a_13 : Nat) (a_14 : Nat) (a_15 : Nat) (a_16 : Nat) (a_17 : Nat) (a_18 : Nat) (i_15 : Int32) (i_16 : Int32) (i_17 : Int32) (i_18 : Int32) (i_19 : Int32) (i_20 : Int32) (a_19 : Nat) (i_21 : Int32) (a_20 : Nat) (i_22 : Int32) (i_23 : Int32) (i_24 : Int32) (i_25 : Int32) (i_26 : Int32) (i_27 : Int32) (i_28 : Int32) (i_29 : Int32) (i_30 : Int32) (i_31 : Int32) (i_32 : Int32) (i_33 : Int32) (i_34 : Int32) (i_35 : Int32) (i_36 : Int32) (i_37 : Int32) (i_38 : Int32) (i_39 : Int32) (i_40 : Int32) (i_41 : Int32) (i_42 : Int32) (i_43 : Int32) (i_44 : Int32) (i_45 : Int32) (i_46 : Int32) (i_47 : Int32) (i_48 : Int32) (i_49 : Int32) (i_50 : Int32) (i_51 : Int32) (i_52 : Int32) (i_53 : Int32) (i_54 : Int32) (i_55 : Int32) (i_56 : Int32) (f_0 : Nat → Int32) (f_1 : Nat → Int32) (f_2 : Nat → Int32) (f_3 : Nat → Int32) (f_4 : Nat → Int32) (f_5 : Nat → Int32) (f_6 : Nat → Int32) (f_7 : Nat → Int32) (f_8 : Nat → Int32) (h0 : mm_rg i_15 0 8) (h1 : mm_rg i_22 0 601) (h2 : mm_rg i_23 0 601) (h3 : mm_rg i_24 0 601) (h4 : mm_rg i_25 0 601) (h5 : mm_rg i_26 0 601) (h6 : mm_rg i_27 0 10) (h7 : mm_rg i_28 0 99) (h8 : mm_rg i_29 0 9) (h9 : mm_rg i_30 0 3) (h10 : mm_rg i_31 0 6) (h11 : mm_rg i_32 0 30) (h12 : mm_rg i_33 0 10) (h13 : mm_rg i_34 0 99) (h14 : mm_rg i_35 0 9) (h15 : mm_rg i_36 0 3) (h16 : mm_rg i_37 0 6) (h17 : mm_rg i_38 0 30) (h18 : mm_rg i_39 0 10) (h19 : mm_rg i_40 0 99) (h20 : mm_rg i_41 0 9) (h21 : mm_rg i_42 0 3) (h22 : mm_rg i_43 0 6) (h23 : mm_rg i_44 0 30) (h24 : mm_rg i_45 0 10) (h25 : mm_rg i_46 0 99) (h26 : mm_rg i_47 0 9) (h27 : mm_rg i_48 0 3) (h28 : mm_rg i_49 0 6) (h29 : mm_rg i_50 0 30) (h30 : mm_rg i_51 0 10) (h31 : mm_rg i_52 0 99) (h32 : mm_rg i_53 0 9) (h33 : mm_rg i_54 0 3) (h34 : mm_rg i_55 0 6) (h35 : mm_rg i_56 0 30) (h36 : mm_ar f_0 0 99) (h37 : mm_ar f_1 0 7) (h38 : mm_ar f_2 0 9) (h39 : mm_ar f_3 (-1) 99) (h40 : mm_ar f_4 0 9) (h41 : mm_ar f_5 0 210) (h42 : mm_ar f_6 0 210) (h43 : mm_ar f_7 0 9) (h44 : mm_rls f_1 f_2 0 i_29 i_30) (h45 : mm_acs f_3 0 i_29 i_30 i_32) (h46 : mm_tl i_22 i_30 i_31) (h47 : mm_rls f_1 f_2 1 i_35 i_36) (h48 : mm_acs f_3 1 i_35 i_36 i_38) (h49 : mm_tl i_23 i_36 i_37) (h50 : mm_rls f_1 f_2 2 i_41 i_42) (h51 : mm_acs f_3 2 i_41 i_42 i_44) (h52 : mm_tl i_24 i_42 i_43) (h53 : mm_rls f_1 f_2 3 i_47 i_48) (h54 : mm_acs f_3 3 i_47 i_48 i_50) (h55 : mm_tl i_25 i_48 i_49)  : mm_CI l yX12_worded (mm_ws yX12_worded cX12_worded 6 (some .int)) ({ frames := 15, cells := 0, slots := 0, locals := 325 } : Room) G cy sz [(a_0, .inr (12, [.int i_5, .ref a_1, .ref a_2, .ref a_3, .ref a_4, .ref a_5, .int i_6, .int i_7, .int i_8, .int i_9, .int i_10, .long j_0, .int i_11, .int i_12, .int i_13, .int i_14, .ref a_6, .ref a_7, .ref a_8, .ref a_9, .ref a_10, .ref a_11, .ref a_12, .ref a_13, .ref a_14, .ref a_15, .ref a_16, .ref a_17, .ref a_18, .int i_15, .int i_16, .int i_17, .int i_18, .int i_19, .int i_20, .ref a_19, .int i_21, .ref a_20])), (a_6, .inl (cy 1, 5, .inl (mm_g [i_22, i_23, i_24, i_25, i_26]))), (a_7, .inl (cy 1, 30, .inl (mm_g [i_27, i_28, i_29, i_30, i_31, i_32, i_33, i_34, i_35, i_36, i_37, i_38, i_39, i_40, i_41, i_42, i_43, i_44, i_45, i_46, i_47, i_48, i_49, i_50, i_51, i_52, i_53, i_54, i_55, i_56]))), (a_8, .inl (cy 1, 90, .inl f_0)), (a_9, .inl (cy 1, 15, .inl f_1)), (a_10, .inl (cy 1, 1050, .inl f_2)), (a_13, .inl (cy 1, 450, .inl f_3)), (a_15, .inl (cy 1, 7200, .inl f_4)), (a_16, .inl (cy 1, 3, .inl f_5)), (a_17, .inl (cy 1, 3, .inl f_6)), (a_18, .inl (cy 1, 8, .inl f_7)), (a_20, .inl (cy 1, 4, .inl f_8))] [.ref a_0, .int i_0, .int i_1, .int i_2, .int i_3, .int i_4] (fun u : Int32 × Int32 × Int32 × Int32 × (Nat → Int32) × (Nat → Int32) × (Nat → Int32) × (Nat → Int32) × (Nat → Int32) => [(a_0, .inr (12, [.int 0, .ref a_1, .ref a_2, .ref a_3, .ref a_4, .ref a_5, .int i_6, .int i_7, .int i_8, .int i_9, .int i_10, .long j_0, .int i_11, .int i_12, .int i_13, .int i_14, .ref a_6, .ref a_7, .ref a_8, .ref a_9, .ref a_10, .ref a_11, .ref a_12, .ref a_13, .ref a_14, .ref a_15, .ref a_16, .ref a_17, .ref a_18, .int u.1, .int u.2.1, .int u.2.2.1, .int i_18, .int i_19, .int i_20, .ref a_19, .int u.2.2.2.1, .ref a_20])), (a_6, .inl (cy 1, 5, .inl (mm_g [i_22, i_23, i_24, i_25, i_26]))), (a_7, .inl (cy 1, 30, .inl (mm_g [i_27, i_28, i_29, i_30, i_31, i_32, i_33, i_34, i_35, i_36, i_37, i_38, i_39, i_40, i_41, i_42, i_43, i_44, i_45, i_46, i_47, i_48, i_49, i_50, i_51, i_52, i_53, i_54, i_55, i_56]))), (a_8, .inl (cy 1, 90, .inl f_0)), (a_9, .inl (cy 1, 15, .inl f_1)), (a_10, .inl (cy 1, 1050, .inl f_2)), (a_13, .inl (cy 1, 450, .inl f_3)), (a_15, .inl (cy 1, 7200, .inl u.2.2.2.2.1)), (a_16, .inl (cy 1, 3, .inl u.2.2.2.2.2.1)), (a_17, .inl (cy 1, 3, .inl u.2.2.2.2.2.2.1)), (a_18, .inl (cy 1, 8, .inl u.2.2.2.2.2.2.2.1)), (a_20, .inl (cy 1, 4, .inl u.2.2.2.2.2.2.2.2))]) (fun (r : Int32) (u : Int32 × Int32 × Int32 × Int32 × (Nat → Int32) × (Nat → Int32) × (Nat → Int32) × (Nat → Int32) × (Nat → Int32)) => mm_rg u.1 0 8 ∧ mm_ar u.2.2.2.2.1 0 9 ∧ mm_ar u.2.2.2.2.2.1 0 210 ∧ mm_ar u.2.2.2.2.2.2.1 0 210 ∧ mm_ar u.2.2.2.2.2.2.2.1 0 9 ∧ True) 0 0 := by
  refine mm_begin (lv := [(0, .ref a_0), (1, .int i_0), (2, .int i_1), (3, .int i_2), (4, .int i_3), (5, .int i_4)]) (by decide) (Nat.le_of_ble_eq_true rfl) rfl ?_
  intro p e s m below meth c A ls R args Q H locs hRe hQ hAe hx hb hr hlocks hml hown hnm hts hsz hA hS hP hK hD hZ hl
  have hRf : R.frames = 15 := by rw [hRe]
  have hRl : R.locals = 325 := by rw [hRe]
  have hRc : R.cells = 0 := by rw [hRe]
  have hRs : R.slots = 0 := by rw [hRe]
  refine lv_aload_n hx hb dX12_worded_0 rfl (lv_at hl 0 rfl) ?_
  refine lv_iconst (v := 0) hx hb dX12_worded_1 (by decide) ?_
  refine va_put (D := G) (ci := 12) (v := .int 0) (ty := tyX12 0) (C := RX12) (T := TX12) (N := 38) hx hb hts (mm_i inlX12) tyX12 tyX12_ok nmX12 hown hK.1 hP hD hS 0 rfl rfl 0 (by decide) (mm_h hts mm_w177) (fun _ h9 => h9) rfl (tyX12_ok 0 (by decide)) rfl rfl (Nat.le_of_ble_eq_true rfl) dX12_worded_2 ?_
  clear hP hD hS
  clear H locs
  intro H locs (hP : va_P G vwCl [(a_0, .inr (12, [.int 0, .ref a_1, .ref a_2, .ref a_3, .ref a_4, .ref a_5, .int i_6, .int i_7, .int i_8, .int i_9, .int i_10, .long j_0, .int i_11, .int i_12, .int i_13, .int i_14, .ref a_6, .ref a_7, .ref a_8, .ref a_9, .ref a_10, .ref a_11, .ref a_12, .ref a_13, .ref a_14, .ref a_15, .ref a_16, .ref a_17, .ref a_18, .int i_15, .int i_16, .int i_17, .int i_18, .int i_19, .int i_20, .ref a_19, .int i_21, .ref a_20])), (a_6, .inl (cy 1, 5, .inl (mm_g [i_22, i_23, i_24, i_25, i_26]))), (a_7, .inl (cy 1, 30, .inl (mm_g [i_27, i_28, i_29, i_30, i_31, i_32, i_33, i_34, i_35, i_36, i_37, i_38, i_39, i_40, i_41, i_42, i_43, i_44, i_45, i_46, i_47, i_48, i_49, i_50, i_51, i_52, i_53, i_54, i_55, i_56]))), (a_8, .inl (cy 1, 90, .inl f_0)), (a_9, .inl (cy 1, 15, .inl f_1)), (a_10, .inl (cy 1, 1050, .inl f_2)), (a_13, .inl (cy 1, 450, .inl f_3)), (a_15, .inl (cy 1, 7200, .inl f_4)), (a_16, .inl (cy 1, 3, .inl f_5)), (a_17, .inl (cy 1, 3, .inl f_6)), (a_18, .inl (cy 1, 8, .inl f_7)), (a_20, .inl (cy 1, 4, .inl f_8))] H) (hD : va_D A [(a_0, .inr (12, [.int 0, .ref a_1, .ref a_2, .ref a_3, .ref a_4, .ref a_5, .int i_6, .int i_7, .int i_8, .int i_9, .int i_10, .long j_0, .int i_11, .int i_12, .int i_13, .int i_14, .ref a_6, .ref a_7, .ref a_8, .ref a_9, .ref a_10, .ref a_11, .ref a_12, .ref a_13, .ref a_14, .ref a_15, .ref a_16, .ref a_17, .ref a_18, .int i_15, .int i_16, .int i_17, .int i_18, .int i_19, .int i_20, .ref a_19, .int i_21, .ref a_20])), (a_6, .inl (cy 1, 5, .inl (mm_g [i_22, i_23, i_24, i_25, i_26]))), (a_7, .inl (cy 1, 30, .inl (mm_g [i_27, i_28, i_29, i_30, i_31, i_32, i_33, i_34, i_35, i_36, i_37, i_38, i_39, i_40, i_41, i_42, i_43, i_44, i_45, i_46, i_47, i_48, i_49, i_50, i_51, i_52, i_53, i_54, i_55, i_56]))), (a_8, .inl (cy 1, 90, .inl f_0)), (a_9, .inl (cy 1, 15, .inl f_1)), (a_10, .inl (cy 1, 1050, .inl f_2)), (a_13, .inl (cy 1, 450, .inl f_3)), (a_15, .inl (cy 1, 7200, .inl f_4)), (a_16, .inl (cy 1, 3, .inl f_5)), (a_17, .inl (cy 1, 3, .inl f_6)), (a_18, .inl (cy 1, 8, .inl f_7)), (a_20, .inl (cy 1, 4, .inl f_8))]) hS
  refine lv_aload_n hx hb dX12_worded_5 rfl (lv_at hl 0 rfl) ?_
  refine lv_iload_n hx hb dX12_worded_6 rfl (lv_at hl 1 rfl) ?_
  refine lv_iload_n hx hb dX12_worded_7 rfl (lv_at hl 2 rfl) ?_
  refine lv_iload_n hx hb dX12_worded_8 rfl (lv_at hl 3 rfl) ?_
  refine lv_iload hx hb dX12_worded_9 (lv_at hl 4 rfl) ?_
  refine mm_finir (va_runV (As := [.int i_0, .int i_1, .int i_2, .int i_3]) (rest := []) ⟨hx, hb, hml, hown, hts⟩ (M210_X12_isWords l G cy H.size a_0 i_0 i_1 i_2 i_3 0 a_1 a_2 a_3 a_4 a_5 i_6 i_7 i_8 i_9 i_10 j_0 i_11 i_12 i_13 i_14 a_6 a_7 a_8 a_9 a_10 a_11 a_12 a_13 a_14 a_15 a_16 a_17 a_18 i_15 i_16 i_17 i_18 i_19 i_20 a_19 i_21 a_20 i_27 i_28 i_29 i_30 i_31 i_32 i_33 i_34 i_35 i_36 i_37 i_38 i_39 i_40 i_41 i_42 i_43 i_44 i_45 i_46 i_47 i_48 i_49 i_50 i_51 i_52 i_53 i_54 i_55 i_56 h6 h7 h8 h9 h10 h11 h12 h13 h14 h15 h16 h17 h18 h19 h20 h21 h22 h23 h24 h25 h26 h27 h28 h29 h30 h31 h32 h33 h34 h35) (cwV 4 hts (mm_gV mm_w1395 mm_w1396 mm_w1397 mm_w5 mm_w1398) rfl rfl rfl hd_X12_isWords ⟨by rw [hRf]; exact Nat.le_of_ble_eq_true rfl, by rw [hRl]; exact Nat.le_of_ble_eq_true rfl⟩) (mm_preV hK hZ hS hA hP hD [0, 2] rfl rfl 0 rfl rfl rfl) rfl rfl hl.1 rfl (lv_room (Nat.le_of_ble_eq_true rfl)) dX12_worded_11 ⟨by rw [hRc]; exact Nat.le_of_ble_eq_true rfl, by rw [hRs]; exact Nat.le_of_ble_eq_true rfl⟩) hP hD hS hA [0, 2] rfl (fun _ => rfl) ?_
  clear hP hD hS
  clear H locs
  intro v1 _u H locs hw hP hD hS
  rcases hw with rfl | ⟨rfl, w2, w3, w4, w5, w6⟩
  · refine lv_if_eq (tgt := 22) hx hb dX12_worded_14 (by decide) (fun c7 => ?_) (fun c7 => ?_)
    · refine lv_bipush (v := (-2)) hx hb dX12_worded_22 (by decide) ?_
      subst hAe
      rw [hQ]
      exact W.iret (v := (-2)) hx hb hr (fun t ht hW => ⟨⟨(-2), (i_15, i_16, i_17, i_21, f_4, f_5, f_6, f_7, f_8), rfl, ⟨h0, h40, h41, h42, h43, trivial⟩, by rw [ht]; exact hP, hK.warm hW, hD⟩, hS.F ht⟩) hS.2.2 dX12_worded_24
    · exact absurd rfl (mm_ne c7)
  · have q8 := mm_ltR (lo := 1) w6 w2 h9 (by decide)
    have q9 : mm_rg i_22 1 601 := mm_tl_3 h46 q8 h1 (by decide)
    refine lv_if_eq (tgt := 22) hx hb dX12_worded_14 (by decide) (fun c10 => ?_) (fun c10 => ?_)
    · exact mm_eqN c10.symm mm_k0 mm_k1 (by decide)
    · refine lv_iload hx hb dX12_worded_17 (lv_at hl 5 rfl) ?_
      refine lv_if_ge (tgt := 25) hx hb dX12_worded_19 (by decide) (fun c11 => ?_) (fun c11 => ?_)
      · have q12 := mm_leR (mm_le c11) mm_k0 (mm_top i_4)
        refine lv_iload hx hb dX12_worded_25 (lv_at hl 5 rfl) ?_
        refine lv_aload_n hx hb dX12_worded_27 rfl (lv_at hl 0 rfl) ?_
        refine lv_iload_n hx hb dX12_worded_28 rfl (lv_at hl 1 rfl) ?_
        refine lv_iload_n hx hb dX12_worded_29 rfl (lv_at hl 2 rfl) ?_
        refine lv_iload_n hx hb dX12_worded_30 rfl (lv_at hl 3 rfl) ?_
        refine lv_iload hx hb dX12_worded_31 (lv_at hl 4 rfl) ?_
        refine mm_fini (va_runV (As := [.int i_0, .int i_1, .int i_2, .int i_3]) (rest := [.int i_4]) ⟨hx, hb, hml, hown, hts⟩ (M228_X12_wordingOf l G cy H.size a_0 i_0 i_1 i_2 i_3 0 a_1 a_2 a_3 a_4 a_5 i_6 i_7 i_8 i_9 i_10 j_0 i_11 i_12 i_13 i_14 a_6 a_7 a_8 a_9 a_10 a_11 a_12 a_13 a_14 a_15 a_16 a_17 a_18 i_15 i_16 i_17 i_18 i_19 i_20 a_19 i_21 a_20 i_22 i_23 i_24 i_25 i_26 i_27 i_28 i_29 i_30 i_31 i_32 i_33 i_34 i_35 i_36 i_37 i_38 i_39 i_40 i_41 i_42 i_43 i_44 i_45 i_46 i_47 i_48 i_49 i_50 i_51 i_52 i_53 i_54 i_55 i_56 f_0 f_1 f_2 f_3 f_4 f_5 f_6 f_7 f_8 w2 w3 w4 w5 h0 (mm_wk q9 (by decide)) h2 h3 h4 h5 h6 h7 h8 (mm_wk q8 (by decide)) h10 h11 h12 h13 h14 h15 h16 h17 h18 h19 h20 h21 h22 h23 h24 h25 h26 h27 h28 h29 h30 h31 h32 h33 h34 h35 h36 h37 h38 h39 h40 h41 h42 h43 h44 h45 h46 h47 h48 h49 h50 h51 h52 h53 h54 h55 w6) (cwV 4 hts (mm_gV mm_w1400 mm_w1401 mm_w1402 mm_w5 mm_w1403) rfl rfl rfl hd_X12_wordingOf ⟨by rw [hRf]; exact Nat.le_of_ble_eq_true rfl, by rw [hRl]; exact Nat.le_of_ble_eq_true rfl⟩) (mm_preV hK hZ hS hA hP hD [0, 1, 2, 3, 4, 5, 6, 7, 8, 9, 10, 11] rfl rfl 0 rfl rfl rfl) rfl rfl hl.1 rfl (lv_room (Nat.le_of_ble_eq_true rfl)) dX12_worded_33 ⟨by rw [hRc]; exact Nat.le_of_ble_eq_true rfl, by rw [hRs]; exact Nat.le_of_ble_eq_true rfl⟩) hP hD hS hA (fun u : Int32 × Int32 × Int32 × Int32 × (Nat → Int32) × (Nat → Int32) × (Nat → Int32) × (Nat → Int32) × (Nat → Int32) => [(a_0, .inr (12, [.int 0, .ref a_1, .ref a_2, .ref a_3, .ref a_4, .ref a_5, .int i_6, .int i_7, .int i_8, .int i_9, .int i_10, .long j_0, .int i_11, .int i_12, .int i_13, .int i_14, .ref a_6, .ref a_7, .ref a_8, .ref a_9, .ref a_10, .ref a_11, .ref a_12, .ref a_13, .ref a_14, .ref a_15, .ref a_16, .ref a_17, .ref a_18, .int u.1, .int u.2.1, .int u.2.2.1, .int i_18, .int i_19, .int i_20, .ref a_19, .int u.2.2.2.1, .ref a_20])), (a_6, .inl (cy 1, 5, .inl (mm_g [i_22, i_23, i_24, i_25, i_26]))), (a_7, .inl (cy 1, 30, .inl (mm_g [i_27, i_28, i_29, i_30, i_31, i_32, i_33, i_34, i_35, i_36, i_37, i_38, i_39, i_40, i_41, i_42, i_43, i_44, i_45, i_46, i_47, i_48, i_49, i_50, i_51, i_52, i_53, i_54, i_55, i_56]))), (a_8, .inl (cy 1, 90, .inl f_0)), (a_9, .inl (cy 1, 15, .inl f_1)), (a_10, .inl (cy 1, 1050, .inl f_2)), (a_13, .inl (cy 1, 450, .inl f_3)), (a_15, .inl (cy 1, 7200, .inl u.2.2.2.2.1)), (a_16, .inl (cy 1, 3, .inl u.2.2.2.2.2.1)), (a_17, .inl (cy 1, 3, .inl u.2.2.2.2.2.2.1)), (a_18, .inl (cy 1, 8, .inl u.2.2.2.2.2.2.2.1)), (a_20, .inl (cy 1, 4, .inl u.2.2.2.2.2.2.2.2))]) [0, 1, 2, 3, 4, 5, 6, 7, 8, 9, 10, 11] [] (n := 12) (fun _ => rfl) (by decide +kernel) (by decide +kernel) rfl (fun _ => rfl) (wr := []) rfl (fun _ => rfl) (fun _ => @rfl _ ([a_0, a_6, a_7, a_8, a_9, a_10, a_13, a_15, a_16, a_17, a_18, a_20] : List Nat)) ?_
        clear hP hD hS
        clear H locs
        intro v22 u
        obtain ⟨n13, n14, n15, n16, n17, n18, n19, n20, n21⟩ := u
        intro H locs hw (hP : va_P G vwCl [(a_0, .inr (12, [.int 0, .ref a_1, .ref a_2, .ref a_3, .ref a_4, .ref a_5, .int i_6, .int i_7, .int i_8, .int i_9, .int i_10, .long j_0, .int i_11, .int i_12, .int i_13, .int i_14, .ref a_6, .ref a_7, .ref a_8, .ref a_9, .ref a_10, .ref a_11, .ref a_12, .ref a_13, .ref a_14, .ref a_15, .ref a_16, .ref a_17, .ref a_18, .int n13, .int n14, .int n15, .int i_18, .int i_19, .int i_20, .ref a_19, .int n16, .ref a_20])), (a_6, .inl (cy 1, 5, .inl (mm_g [i_22, i_23, i_24, i_25, i_26]))), (a_7, .inl (cy 1, 30, .inl (mm_g [i_27, i_28, i_29, i_30, i_31, i_32, i_33, i_34, i_35, i_36, i_37, i_38, i_39, i_40, i_41, i_42, i_43, i_44, i_45, i_46, i_47, i_48, i_49, i_50, i_51, i_52, i_53, i_54, i_55, i_56]))), (a_8, .inl (cy 1, 90, .inl f_0)), (a_9, .inl (cy 1, 15, .inl f_1)), (a_10, .inl (cy 1, 1050, .inl f_2)), (a_13, .inl (cy 1, 450, .inl f_3)), (a_15, .inl (cy 1, 7200, .inl n17)), (a_16, .inl (cy 1, 3, .inl n18)), (a_17, .inl (cy 1, 3, .inl n19)), (a_18, .inl (cy 1, 8, .inl n20)), (a_20, .inl (cy 1, 4, .inl n21))] H) (hD : va_D A [(a_0, .inr (12, [.int 0, .ref a_1, .ref a_2, .ref a_3, .ref a_4, .ref a_5, .int i_6, .int i_7, .int i_8, .int i_9, .int i_10, .long j_0, .int i_11, .int i_12, .int i_13, .int i_14, .ref a_6, .ref a_7, .ref a_8, .ref a_9, .ref a_10, .ref a_11, .ref a_12, .ref a_13, .ref a_14, .ref a_15, .ref a_16, .ref a_17, .ref a_18, .int n13, .int n14, .int n15, .int i_18, .int i_19, .int i_20, .ref a_19, .int n16, .ref a_20])), (a_6, .inl (cy 1, 5, .inl (mm_g [i_22, i_23, i_24, i_25, i_26]))), (a_7, .inl (cy 1, 30, .inl (mm_g [i_27, i_28, i_29, i_30, i_31, i_32, i_33, i_34, i_35, i_36, i_37, i_38, i_39, i_40, i_41, i_42, i_43, i_44, i_45, i_46, i_47, i_48, i_49, i_50, i_51, i_52, i_53, i_54, i_55, i_56]))), (a_8, .inl (cy 1, 90, .inl f_0)), (a_9, .inl (cy 1, 15, .inl f_1)), (a_10, .inl (cy 1, 1050, .inl f_2)), (a_13, .inl (cy 1, 450, .inl f_3)), (a_15, .inl (cy 1, 7200, .inl n17)), (a_16, .inl (cy 1, 3, .inl n18)), (a_17, .inl (cy 1, 3, .inl n19)), (a_18, .inl (cy 1, 8, .inl n20)), (a_20, .inl (cy 1, 4, .inl n21))]) hS
        obtain ⟨w23, w24, w25, w26, w27, hw⟩ := hw
        have w28 := hw
        refine lv_icmp_ge (tgt := 49) hx hb dX12_worded_36 (by decide) (fun c29 => ?_) (fun c29 => ?_)
        · refine lv_iconst (v := (-1)) hx hb dX12_worded_49 (by decide) ?_
          subst hAe
          rw [hQ]
          exact W.iret (v := (-1)) hx hb hr (fun t ht hW => ⟨⟨(-1), (n13, n14, n15, n16, n17, n18, n19, n20, n21), rfl, ⟨w23, w24, w25, w26, w27, trivial⟩, by rw [ht]; exact hP, hK.warm hW, hD⟩, hS.F ht⟩) hS.2.2 dX12_worded_50
        · have q30 := mm_ltL (h := 3) (mm_nle c29) q12 w28 (by decide)
          have q31 := mm_ltR (lo := 1) (mm_nle c29) q12 w28 (by decide)
          refine lv_aload_n hx hb dX12_worded_39 rfl (lv_at hl 0 rfl) ?_
          refine va_get (D := G) (ci := 12) (v := .ref a_20) (C := RX12) (T := TX12) (N := 38) hx hb hts (mm_i inlX12) hown hK.1 hP 0 rfl rfl 37 (by decide) (mm_h hts mm_w162) (fun _ h9 => h9) rfl dX12_worded_40 ?_
          refine lv_iload hx hb dX12_worded_43 (lv_at hl 5 rfl) ?_
          refine va_iald hx hb hK.1 hP 11 1 rfl rfl (mm_in q30 (by decide)) dX12_worded_45 ?_
          refine lv_topi (fun v32 ev32 => ?_)
          refine lv_goto (tgt := 50) hx hb dX12_worded_46 (by decide) ?_
          subst hAe
          rw [hQ]
          exact W.iret (v := v32) hx hb hr (fun t ht hW => ⟨⟨v32, (n13, n14, n15, n16, n17, n18, n19, n20, n21), rfl, ⟨w23, w24, w25, w26, w27, trivial⟩, by rw [ht]; exact hP, hK.warm hW, hD⟩, hS.F ht⟩) hS.2.2 dX12_worded_50
      · have q33 := mm_ltL (h := (-1)) (mm_nle c11) (mm_top i_4) mm_k0 (by decide)
        refine lv_bipush (v := (-2)) hx hb dX12_worded_22 (by decide) ?_
        subst hAe
        rw [hQ]
        exact W.iret (v := (-2)) hx hb hr (fun t ht hW => ⟨⟨(-2), (i_15, i_16, i_17, i_21, f_4, f_5, f_6, f_7, f_8), rfl, ⟨h0, h40, h41, h42, h43, trivial⟩, by rw [ht]; exact hP, hK.warm hW, hD⟩, hS.F ht⟩) hS.2.2 dX12_worded_24

set_option maxHeartbeats 4000000 in
set_option maxRecDepth 100000 in
theorem M231_X12_wordings (l : Launch) (G : va_G) (cy : Nat → ClassId) (sz : Nat) (a_0 : Nat) (i_0 : Int32) (i_1 : Int32) (i_2 : Int32) (i_3 : Int32) (i_4 : Int32) (a_1 : Nat) (a_2 : Nat) (a_3 : Nat) (a_4 : Nat) (a_5 : Nat) (i_5 : Int32) (i_6 : Int32) (i_7 : Int32) (i_8 : Int32) (i_9 : Int32) (j_0 : Int64) (i_10 : Int32) (i_11 : Int32) (i_12 : Int32) (i_13 : Int32) (a_6 : Nat) (a_7 : Nat) (a_8 : Nat) (a_9 : Nat) (a_10 : Nat) (a_11 : Nat) (a_12 : Nat) (a_13 : Nat) (a_14 : Nat) (a_15 : Nat) (a_16 : Nat) (a_17 : Nat) (a_18 : Nat) (i_14 : Int32) (i_15 : Int32) (i_16 : Int32) (i_17 : Int32) (i_18 : Int32) (i_19 : Int32) (a_19 : Nat) (i_20 : Int32) (a_20 : Nat) (i_21 : Int32) (i_22 : Int32) (i_23 : Int32) (i_24 : Int32) (i_25 : Int32) (i_26 : Int32) (i_27 : Int32) (i_28 : Int32) (i_29 : Int32) (i_30 : Int32) (i_31 : Int32) (i_32 : Int32) (i_33 : Int32) (i_34 : Int32) (i_35 : Int32) (i_36 : Int32) (i_37 : Int32) (i_38 : Int32) (i_39 : Int32) (i_40 : Int32) (i_41 : Int32) (i_42 : Int32) (i_43 : Int32) (i_44 : Int32) (i_45 : Int32) (i_46 : Int32) (i_47 : Int32) (i_48 : Int32) (i_49 : Int32) (i_50 : Int32) (i_51 : Int32) (i_52 : Int32) (i_53 : Int32) (i_54 : Int32) (i_55 : Int32) (f_0 : Nat → Int32) (f_1 : Nat → Int32) (f_2 : Nat → Int32) (f_3 : Nat → Int32) (f_4 : Nat → Int32) (f_5 : Nat → Int32) (f_6 : Nat → Int32) (f_7 : Nat → Int32) (f_8 : Nat → Int32) (h0 : mm_rg i_14 0 8) (h1 : mm_rg i_21 0 601) (h2 : mm_rg i_22 0 601) (h3 : mm_rg i_23 0 601) (h4 : mm_rg i_24 0 601) (h5 : mm_rg i_25 0 601) (h6 : mm_rg i_26 0 10) (h7 : mm_rg i_27 0 99) (h8 : mm_rg i_28 0 9) (h9 : mm_rg i_29 0 3) (h10 : mm_rg i_30 0 6) (h11 : mm_rg i_31 0 30) (h12 : mm_rg i_32 0 10) (h13 : mm_rg i_33 0 99) (h14 : mm_rg i_34 0 9) (h15 : mm_rg i_35 0 3) (h16 : mm_rg i_36 0 6) (h17 : mm_rg i_37 0 30) (h18 : mm_rg i_38 0 10) (h19 : mm_rg i_39 0 99) (h20 : mm_rg i_40 0 9) (h21 : mm_rg i_41 0 3) (h22 : mm_rg i_42 0 6) (h23 : mm_rg i_43 0 30) (h24 : mm_rg i_44 0 10) (h25 : mm_rg i_45 0 99) (h26 : mm_rg i_46 0 9) (h27 : mm_rg i_47 0 3) (h28 : mm_rg i_48 0 6) (h29 : mm_rg i_49 0 30) (h30 : mm_rg i_50 0 10) (h31 : mm_rg i_51 0 99) (h32 : mm_rg i_52 0 9) (h33 : mm_rg i_53 0 3) (h34 : mm_rg i_54 0 6) (h35 : mm_rg i_55 0 30) (h36 : mm_ar f_0 0 99) (h37 : mm_ar f_1 0 7) (h38 : mm_ar f_2 0 9) (h39 : mm_ar f_3 (-1) 99) (h40 : mm_ar f_4 0 9) (h41 : mm_ar f_5 0 210) (h42 : mm_ar f_6 0 210) (h43 : mm_ar f_7 0 9) (h44 : mm_rls f_1 f_2 0 i_28 i_29) (h45 : mm_acs f_3 0 i_28 i_29 i_31) (h46 : mm_tl i_21 i_29 i_30) (h47 : mm_rls f_1 f_2 1 i_34 i_35) (h48 : mm_acs f_3 1 i_34 i_35 i_37) (h49 : mm_tl i_22 i_35 i_36) (h50 : mm_rls f_1 f_2 2 i_40 i_41) (h51 : mm_acs f_3 2 i_40 i_41 i_43) (h52 : mm_tl i_23 i_41 i_42) (h53 : mm_rls f_1 f_2 3 i_46 i_47) (h54 : mm_acs f_3 3 i_46 i_47 i_49) (h55 : mm_tl i_24 i_47 i_48)  : mm_CI l yX12_wordings (mm_ws yX12_wordings cX12_wordings 5 (some .int)) ({ frames := 15, cells := 0, slots := 0, locals := 325 } : Room) G cy sz [(a_0, .inr (12, [.int i_4, .ref a_1, .ref a_2, .ref a_3, .ref a_4, .ref a_5, .int i_5, .int i_6, .int i_7, .int i_8, .int i_9, .long j_0, .int i_10, .int i_11, .int i_12, .int i_13, .ref a_6, .ref a_7, .ref a_8, .ref a_9, .ref a_10, .ref a_11, .ref a_12, .ref a_13, .ref a_14, .ref a_15, .ref a_16, .ref a_17, .ref a_18, .int i_14, .int i_15, .int i_16, .int i_17, .int i_18, .int i_19, .ref a_19, .int i_20, .ref a_20])), (a_6, .inl (cy 1, 5, .inl (mm_g [i_21, i_22, i_23, i_24, i_25]))), (a_7, .inl (cy 1, 30, .inl (mm_g [i_26, i_27, i_28, i_29, i_30, i_31, i_32, i_33, i_34, i_35, i_36, i_37, i_38, i_39, i_40, i_41, i_42, i_43, i_44, i_45, i_46, i_47, i_48, i_49, i_50, i_51, i_52, i_53, i_54, i_55]))), (a_8, .inl (cy 1, 90, .inl f_0)), (a_9, .inl (cy 1, 15, .inl f_1)), (a_10, .inl (cy 1, 1050, .inl f_2)), (a_13, .inl (cy 1, 450, .inl f_3)), (a_15, .inl (cy 1, 7200, .inl f_4)), (a_16, .inl (cy 1, 3, .inl f_5)), (a_17, .inl (cy 1, 3, .inl f_6)), (a_18, .inl (cy 1, 8, .inl f_7)), (a_20, .inl (cy 1, 4, .inl f_8))] [.ref a_0, .int i_0, .int i_1, .int i_2, .int i_3] (fun u : Int32 × Int32 × Int32 × Int32 × (Nat → Int32) × (Nat → Int32) × (Nat → Int32) × (Nat → Int32) × (Nat → Int32) => [(a_0, .inr (12, [.int 0, .ref a_1, .ref a_2, .ref a_3, .ref a_4, .ref a_5, .int i_5, .int i_6, .int i_7, .int i_8, .int i_9, .long j_0, .int i_10, .int i_11, .int i_12, .int i_13, .ref a_6, .ref a_7, .ref a_8, .ref a_9, .ref a_10, .ref a_11, .ref a_12, .ref a_13, .ref a_14, .ref a_15, .ref a_16, .ref a_17, .ref a_18, .int u.1, .int u.2.1, .int u.2.2.1, .int i_17, .int i_18, .int i_19, .ref a_19, .int u.2.2.2.1, .ref a_20])), (a_6, .inl (cy 1, 5, .inl (mm_g [i_21, i_22, i_23, i_24, i_25]))), (a_7, .inl (cy 1, 30, .inl (mm_g [i_26, i_27, i_28, i_29, i_30, i_31, i_32, i_33, i_34, i_35, i_36, i_37, i_38, i_39, i_40, i_41, i_42, i_43, i_44, i_45, i_46, i_47, i_48, i_49, i_50, i_51, i_52, i_53, i_54, i_55]))), (a_8, .inl (cy 1, 90, .inl f_0)), (a_9, .inl (cy 1, 15, .inl f_1)), (a_10, .inl (cy 1, 1050, .inl f_2)), (a_13, .inl (cy 1, 450, .inl f_3)), (a_15, .inl (cy 1, 7200, .inl u.2.2.2.2.1)), (a_16, .inl (cy 1, 3, .inl u.2.2.2.2.2.1)), (a_17, .inl (cy 1, 3, .inl u.2.2.2.2.2.2.1)), (a_18, .inl (cy 1, 8, .inl u.2.2.2.2.2.2.2.1)), (a_20, .inl (cy 1, 4, .inl u.2.2.2.2.2.2.2.2))]) (fun (r : Int32) (u : Int32 × Int32 × Int32 × Int32 × (Nat → Int32) × (Nat → Int32) × (Nat → Int32) × (Nat → Int32) × (Nat → Int32)) => mm_rg u.1 0 8 ∧ mm_ar u.2.2.2.2.1 0 9 ∧ mm_ar u.2.2.2.2.2.1 0 210 ∧ mm_ar u.2.2.2.2.2.2.1 0 210 ∧ mm_ar u.2.2.2.2.2.2.2.1 0 9 ∧ True) 0 0 := by
  refine mm_begin (lv := [(0, .ref a_0), (1, .int i_0), (2, .int i_1), (3, .int i_2), (4, .int i_3)]) (by decide) (Nat.le_of_ble_eq_true rfl) rfl ?_
  intro p e s m below meth c A ls R args Q H locs hRe hQ hAe hx hb hr hlocks hml hown hnm hts hsz hA hS hP hK hD hZ hl
  have hRf : R.frames = 15 := by rw [hRe]
  have hRl : R.locals = 325 := by rw [hRe]
  have hRc : R.cells = 0 := by rw [hRe]
  have hRs : R.slots = 0 := by rw [hRe]
  refine lv_aload_n hx hb dX12_wordings_0 rfl (lv_at hl 0 rfl) ?_
  refine lv_iconst (v := 0) hx hb dX12_wordings_1 (by decide) ?_
  refine va_put (D := G) (ci := 12) (v := .int 0) (ty := tyX12 0) (C := RX12) (T := TX12) (N := 38) hx hb hts (mm_i inlX12) tyX12 tyX12_ok nmX12 hown hK.1 hP hD hS 0 rfl rfl 0 (by decide) (mm_h hts mm_w177) (fun _ h9 => h9) rfl (tyX12_ok 0 (by decide)) rfl rfl (Nat.le_of_ble_eq_true rfl) dX12_wordings_2 ?_
  clear hP hD hS
  clear H locs
  intro H locs (hP : va_P G vwCl [(a_0, .inr (12, [.int 0, .ref a_1, .ref a_2, .ref a_3, .ref a_4, .ref a_5, .int i_5, .int i_6, .int i_7, .int i_8, .int i_9, .long j_0, .int i_10, .int i_11, .int i_12, .int i_13, .ref a_6, .ref a_7, .ref a_8, .ref a_9, .ref a_10, .ref a_11, .ref a_12, .ref a_13, .ref a_14, .ref a_15, .ref a_16, .ref a_17, .ref a_18, .int i_14, .int i_15, .int i_16, .int i_17, .int i_18, .int i_19, .ref a_19, .int i_20, .ref a_20])), (a_6, .inl (cy 1, 5, .inl (mm_g [i_21, i_22, i_23, i_24, i_25]))), (a_7, .inl (cy 1, 30, .inl (mm_g [i_26, i_27, i_28, i_29, i_30, i_31, i_32, i_33, i_34, i_35, i_36, i_37, i_38, i_39, i_40, i_41, i_42, i_43, i_44, i_45, i_46, i_47, i_48, i_49, i_50, i_51, i_52, i_53, i_54, i_55]))), (a_8, .inl (cy 1, 90, .inl f_0)), (a_9, .inl (cy 1, 15, .inl f_1)), (a_10, .inl (cy 1, 1050, .inl f_2)), (a_13, .inl (cy 1, 450, .inl f_3)), (a_15, .inl (cy 1, 7200, .inl f_4)), (a_16, .inl (cy 1, 3, .inl f_5)), (a_17, .inl (cy 1, 3, .inl f_6)), (a_18, .inl (cy 1, 8, .inl f_7)), (a_20, .inl (cy 1, 4, .inl f_8))] H) (hD : va_D A [(a_0, .inr (12, [.int 0, .ref a_1, .ref a_2, .ref a_3, .ref a_4, .ref a_5, .int i_5, .int i_6, .int i_7, .int i_8, .int i_9, .long j_0, .int i_10, .int i_11, .int i_12, .int i_13, .ref a_6, .ref a_7, .ref a_8, .ref a_9, .ref a_10, .ref a_11, .ref a_12, .ref a_13, .ref a_14, .ref a_15, .ref a_16, .ref a_17, .ref a_18, .int i_14, .int i_15, .int i_16, .int i_17, .int i_18, .int i_19, .ref a_19, .int i_20, .ref a_20])), (a_6, .inl (cy 1, 5, .inl (mm_g [i_21, i_22, i_23, i_24, i_25]))), (a_7, .inl (cy 1, 30, .inl (mm_g [i_26, i_27, i_28, i_29, i_30, i_31, i_32, i_33, i_34, i_35, i_36, i_37, i_38, i_39, i_40, i_41, i_42, i_43, i_44, i_45, i_46, i_47, i_48, i_49, i_50, i_51, i_52, i_53, i_54, i_55]))), (a_8, .inl (cy 1, 90, .inl f_0)), (a_9, .inl (cy 1, 15, .inl f_1)), (a_10, .inl (cy 1, 1050, .inl f_2)), (a_13, .inl (cy 1, 450, .inl f_3)), (a_15, .inl (cy 1, 7200, .inl f_4)), (a_16, .inl (cy 1, 3, .inl f_5)), (a_17, .inl (cy 1, 3, .inl f_6)), (a_18, .inl (cy 1, 8, .inl f_7)), (a_20, .inl (cy 1, 4, .inl f_8))]) hS
  refine lv_aload_n hx hb dX12_wordings_5 rfl (lv_at hl 0 rfl) ?_
  refine lv_iload_n hx hb dX12_wordings_6 rfl (lv_at hl 1 rfl) ?_
  refine lv_iload_n hx hb dX12_wordings_7 rfl (lv_at hl 2 rfl) ?_
  refine lv_iload_n hx hb dX12_wordings_8 rfl (lv_at hl 3 rfl) ?_
  refine lv_iload hx hb dX12_wordings_9 (lv_at hl 4 rfl) ?_
  refine mm_finir (va_runV (As := [.int i_0, .int i_1, .int i_2, .int i_3]) (rest := []) ⟨hx, hb, hml, hown, hts⟩ (M210_X12_isWords l G cy H.size a_0 i_0 i_1 i_2 i_3 0 a_1 a_2 a_3 a_4 a_5 i_5 i_6 i_7 i_8 i_9 j_0 i_10 i_11 i_12 i_13 a_6 a_7 a_8 a_9 a_10 a_11 a_12 a_13 a_14 a_15 a_16 a_17 a_18 i_14 i_15 i_16 i_17 i_18 i_19 a_19 i_20 a_20 i_26 i_27 i_28 i_29 i_30 i_31 i_32 i_33 i_34 i_35 i_36 i_37 i_38 i_39 i_40 i_41 i_42 i_43 i_44 i_45 i_46 i_47 i_48 i_49 i_50 i_51 i_52 i_53 i_54 i_55 h6 h7 h8 h9 h10 h11 h12 h13 h14 h15 h16 h17 h18 h19 h20 h21 h22 h23 h24 h25 h26 h27 h28 h29 h30 h31 h32 h33 h34 h35) (cwV 4 hts (mm_gV mm_w1395 mm_w1396 mm_w1397 mm_w5 mm_w1398) rfl rfl rfl hd_X12_isWords ⟨by rw [hRf]; exact Nat.le_of_ble_eq_true rfl, by rw [hRl]; exact Nat.le_of_ble_eq_true rfl⟩) (mm_preV hK hZ hS hA hP hD [0, 2] rfl rfl 0 rfl rfl rfl) rfl rfl hl.1 rfl (lv_room (Nat.le_of_ble_eq_true rfl)) dX12_wordings_11 ⟨by rw [hRc]; exact Nat.le_of_ble_eq_true rfl, by rw [hRs]; exact Nat.le_of_ble_eq_true rfl⟩) hP hD hS hA [0, 2] rfl (fun _ => rfl) ?_
  clear hP hD hS
  clear H locs
  intro v1 _u H locs hw hP hD hS
  rcases hw with rfl | ⟨rfl, w2, w3, w4, w5, w6⟩
  · refine lv_if_ne (tgt := 20) hx hb dX12_wordings_14 (by decide) (fun c7 => ?_) (fun c7 => ?_)
    · exact absurd rfl (mm_ne c7)
    · refine lv_bipush (v := (-2)) hx hb dX12_wordings_17 (by decide) ?_
      subst hAe
      rw [hQ]
      exact W.iret (v := (-2)) hx hb hr (fun t ht hW => ⟨⟨(-2), (i_14, i_15, i_16, i_20, f_4, f_5, f_6, f_7, f_8), rfl, ⟨h0, h40, h41, h42, h43, trivial⟩, by rw [ht]; exact hP, hK.warm hW, hD⟩, hS.F ht⟩) hS.2.2 dX12_wordings_19
  · have q8 := mm_ltR (lo := 1) w6 w2 h9 (by decide)
    have q9 : mm_rg i_21 1 601 := mm_tl_3 h46 q8 h1 (by decide)
    refine lv_if_ne (tgt := 20) hx hb dX12_wordings_14 (by decide) (fun c10 => ?_) (fun c10 => ?_)
    · refine lv_aload_n hx hb dX12_wordings_20 rfl (lv_at hl 0 rfl) ?_
      refine lv_iload_n hx hb dX12_wordings_21 rfl (lv_at hl 1 rfl) ?_
      refine lv_iload_n hx hb dX12_wordings_22 rfl (lv_at hl 2 rfl) ?_
      refine lv_iload_n hx hb dX12_wordings_23 rfl (lv_at hl 3 rfl) ?_
      refine lv_iload hx hb dX12_wordings_24 (lv_at hl 4 rfl) ?_
      refine mm_fini (va_runV (As := [.int i_0, .int i_1, .int i_2, .int i_3]) (rest := []) ⟨hx, hb, hml, hown, hts⟩ (M228_X12_wordingOf l G cy H.size a_0 i_0 i_1 i_2 i_3 0 a_1 a_2 a_3 a_4 a_5 i_5 i_6 i_7 i_8 i_9 j_0 i_10 i_11 i_12 i_13 a_6 a_7 a_8 a_9 a_10 a_11 a_12 a_13 a_14 a_15 a_16 a_17 a_18 i_14 i_15 i_16 i_17 i_18 i_19 a_19 i_20 a_20 i_21 i_22 i_23 i_24 i_25 i_26 i_27 i_28 i_29 i_30 i_31 i_32 i_33 i_34 i_35 i_36 i_37 i_38 i_39 i_40 i_41 i_42 i_43 i_44 i_45 i_46 i_47 i_48 i_49 i_50 i_51 i_52 i_53 i_54 i_55 f_0 f_1 f_2 f_3 f_4 f_5 f_6 f_7 f_8 w2 w3 w4 w5 h0 (mm_wk q9 (by decide)) h2 h3 h4 h5 h6 h7 h8 (mm_wk q8 (by decide)) h10 h11 h12 h13 h14 h15 h16 h17 h18 h19 h20 h21 h22 h23 h24 h25 h26 h27 h28 h29 h30 h31 h32 h33 h34 h35 h36 h37 h38 h39 h40 h41 h42 h43 h44 h45 h46 h47 h48 h49 h50 h51 h52 h53 h54 h55 w6) (cwV 4 hts (mm_gV mm_w1400 mm_w1401 mm_w1402 mm_w5 mm_w1403) rfl rfl rfl hd_X12_wordingOf ⟨by rw [hRf]; exact Nat.le_of_ble_eq_true rfl, by rw [hRl]; exact Nat.le_of_ble_eq_true rfl⟩) (mm_preV hK hZ hS hA hP hD [0, 1, 2, 3, 4, 5, 6, 7, 8, 9, 10, 11] rfl rfl 0 rfl rfl rfl) rfl rfl hl.1 rfl (lv_room (Nat.le_of_ble_eq_true rfl)) dX12_wordings_26 ⟨by rw [hRc]; exact Nat.le_of_ble_eq_true rfl, by rw [hRs]; exact Nat.le_of_ble_eq_true rfl⟩) hP hD hS hA (fun u : Int32 × Int32 × Int32 × Int32 × (Nat → Int32) × (Nat → Int32) × (Nat → Int32) × (Nat → Int32) × (Nat → Int32) => [(a_0, .inr (12, [.int 0, .ref a_1, .ref a_2, .ref a_3, .ref a_4, .ref a_5, .int i_5, .int i_6, .int i_7, .int i_8, .int i_9, .long j_0, .int i_10, .int i_11, .int i_12, .int i_13, .ref a_6, .ref a_7, .ref a_8, .ref a_9, .ref a_10, .ref a_11, .ref a_12, .ref a_13, .ref a_14, .ref a_15, .ref a_16, .ref a_17, .ref a_18, .int u.1, .int u.2.1, .int u.2.2.1, .int i_17, .int i_18, .int i_19, .ref a_19, .int u.2.2.2.1, .ref a_20])), (a_6, .inl (cy 1, 5, .inl (mm_g [i_21, i_22, i_23, i_24, i_25]))), (a_7, .inl (cy 1, 30, .inl (mm_g [i_26, i_27, i_28, i_29, i_30, i_31, i_32, i_33, i_34, i_35, i_36, i_37, i_38, i_39, i_40, i_41, i_42, i_43, i_44, i_45, i_46, i_47, i_48, i_49, i_50, i_51, i_52, i_53, i_54, i_55]))), (a_8, .inl (cy 1, 90, .inl f_0)), (a_9, .inl (cy 1, 15, .inl f_1)), (a_10, .inl (cy 1, 1050, .inl f_2)), (a_13, .inl (cy 1, 450, .inl f_3)), (a_15, .inl (cy 1, 7200, .inl u.2.2.2.2.1)), (a_16, .inl (cy 1, 3, .inl u.2.2.2.2.2.1)), (a_17, .inl (cy 1, 3, .inl u.2.2.2.2.2.2.1)), (a_18, .inl (cy 1, 8, .inl u.2.2.2.2.2.2.2.1)), (a_20, .inl (cy 1, 4, .inl u.2.2.2.2.2.2.2.2))]) [0, 1, 2, 3, 4, 5, 6, 7, 8, 9, 10, 11] [] (n := 12) (fun _ => rfl) (by decide +kernel) (by decide +kernel) rfl (fun _ => rfl) (wr := []) rfl (fun _ => rfl) (fun _ => @rfl _ ([a_0, a_6, a_7, a_8, a_9, a_10, a_13, a_15, a_16, a_17, a_18, a_20] : List Nat)) ?_
      clear hP hD hS
      clear H locs
      intro v20 u
      obtain ⟨n11, n12, n13, n14, n15, n16, n17, n18, n19⟩ := u
      intro H locs hw (hP : va_P G vwCl [(a_0, .inr (12, [.int 0, .ref a_1, .ref a_2, .ref a_3, .ref a_4, .ref a_5, .int i_5, .int i_6, .int i_7, .int i_8, .int i_9, .long j_0, .int i_10, .int i_11, .int i_12, .int i_13, .ref a_6, .ref a_7, .ref a_8, .ref a_9, .ref a_10, .ref a_11, .ref a_12, .ref a_13, .ref a_14, .ref a_15, .ref a_16, .ref a_17, .ref a_18, .int n11, .int n12, .int n13, .int i_17, .int i_18, .int i_19, .ref a_19, .int n14, .ref a_20])), (a_6, .inl (cy 1, 5, .inl (mm_g [i_21, i_22, i_23, i_24, i_25]))), (a_7, .inl (cy 1, 30, .inl (mm_g [i_26, i_27, i_28, i_29, i_30, i_31, i_32, i_33, i_34, i_35, i_36, i_37, i_38, i_39, i_40, i_41, i_42, i_43, i_44, i_45, i_46, i_47, i_48, i_49, i_50, i_51, i_52, i_53, i_54, i_55]))), (a_8, .inl (cy 1, 90, .inl f_0)), (a_9, .inl (cy 1, 15, .inl f_1)), (a_10, .inl (cy 1, 1050, .inl f_2)), (a_13, .inl (cy 1, 450, .inl f_3)), (a_15, .inl (cy 1, 7200, .inl n15)), (a_16, .inl (cy 1, 3, .inl n16)), (a_17, .inl (cy 1, 3, .inl n17)), (a_18, .inl (cy 1, 8, .inl n18)), (a_20, .inl (cy 1, 4, .inl n19))] H) (hD : va_D A [(a_0, .inr (12, [.int 0, .ref a_1, .ref a_2, .ref a_3, .ref a_4, .ref a_5, .int i_5, .int i_6, .int i_7, .int i_8, .int i_9, .long j_0, .int i_10, .int i_11, .int i_12, .int i_13, .ref a_6, .ref a_7, .ref a_8, .ref a_9, .ref a_10, .ref a_11, .ref a_12, .ref a_13, .ref a_14, .ref a_15, .ref a_16, .ref a_17, .ref a_18, .int n11, .int n12, .int n13, .int i_17, .int i_18, .int i_19, .ref a_19, .int n14, .ref a_20])), (a_6, .inl (cy 1, 5, .inl (mm_g [i_21, i_22, i_23, i_24, i_25]))), (a_7, .inl (cy 1, 30, .inl (mm_g [i_26, i_27, i_28, i_29, i_30, i_31, i_32, i_33, i_34, i_35, i_36, i_37, i_38, i_39, i_40, i_41, i_42, i_43, i_44, i_45, i_46, i_47, i_48, i_49, i_50, i_51, i_52, i_53, i_54, i_55]))), (a_8, .inl (cy 1, 90, .inl f_0)), (a_9, .inl (cy 1, 15, .inl f_1)), (a_10, .inl (cy 1, 1050, .inl f_2)), (a_13, .inl (cy 1, 450, .inl f_3)), (a_15, .inl (cy 1, 7200, .inl n15)), (a_16, .inl (cy 1, 3, .inl n16)), (a_17, .inl (cy 1, 3, .inl n17)), (a_18, .inl (cy 1, 8, .inl n18)), (a_20, .inl (cy 1, 4, .inl n19))]) hS
      obtain ⟨w21, w22, w23, w24, w25, hw⟩ := hw
      have w26 := hw
      refine lv_if_ne (tgt := 36) hx hb dX12_wordings_29 (by decide) (fun c27 => ?_) (fun c27 => ?_)
      · have q28 := mm_neL (lo := 1) (mm_ne c27) w26 mm_k0 (by decide) (by decide)
        refine lv_aload_n hx hb dX12_wordings_36 rfl (lv_at hl 0 rfl) ?_
        refine va_get (D := G) (ci := 12) (v := .int n14) (C := RX12) (T := TX12) (N := 38) hx hb hts (mm_i inlX12) hown hK.1 hP 0 rfl rfl 36 (by decide) (mm_h hts mm_w1404) (fun _ h9 => h9) rfl dX12_wordings_37 ?_
        subst hAe
        rw [hQ]
        exact W.iret (v := n14) hx hb hr (fun t ht hW => ⟨⟨n14, (n11, n12, n13, n14, n15, n16, n17, n18, n19), rfl, ⟨w21, w22, w23, w24, w25, trivial⟩, by rw [ht]; exact hP, hK.warm hW, hD⟩, hS.F ht⟩) hS.2.2 dX12_wordings_40
      · have q29 := mm_eqI (lo := 0) (hi := 0) c27 w26 mm_k0 (by decide)
        refine lv_iconst (v := 0) hx hb dX12_wordings_32 (by decide) ?_
        refine lv_goto (tgt := 40) hx hb dX12_wordings_33 (by decide) ?_
        subst hAe
        rw [hQ]
        exact W.iret (v := 0) hx hb hr (fun t ht hW => ⟨⟨0, (n11, n12, n13, n14, n15, n16, n17, n18, n19), rfl, ⟨w21, w22, w23, w24, w25, trivial⟩, by rw [ht]; exact hP, hK.warm hW, hD⟩, hS.F ht⟩) hS.2.2 dX12_wordings_40
    · exact mm_eqN c10.symm mm_k0 mm_k1 (by decide)

set_option maxHeartbeats 4000000 in
set_option maxRecDepth 100000 in
theorem M232_X12_isBit (l : Launch) (G : va_G) (cy : Nat → ClassId) (sz : Nat) (i_0 : Int32) (i_1 : Int32) (h0 : mm_rg i_0 0 63) (h1 : mm_rg i_1 0 5)  : mm_CI l yX12_isBit (mm_ws yX12_isBit cX12_isBit 2 (some .boolean)) ({ frames := 0, cells := 0, slots := 0, locals := 0 } : Room) G cy sz [] [.int i_0, .int i_1] (fun u : Unit => []) (fun (r : Int32) (u : Unit) => ((0 = r ∧ mm_nbit i_0 i_1) ∨ (1 = r ∧ mm_bit i_0 i_1))) 0 0 := by
  refine mm_begin (lv := [(0, .int i_0), (1, .int i_1)]) (by decide) (Nat.le_of_ble_eq_true rfl) rfl ?_
  intro p e s m below meth c A ls R args Q H locs hRe hQ hAe hx hb hr hlocks hml hown hnm hts hsz hA hS hP hK hD hZ hl
  have hRf : R.frames = 0 := by rw [hRe]
  have hRl : R.locals = 0 := by rw [hRe]
  have hRc : R.cells = 0 := by rw [hRe]
  have hRs : R.slots = 0 := by rw [hRe]
  refine lv_iload_n hx hb dX12_isBit_0 rfl (lv_at hl 0 rfl) ?_
  refine lv_iload_n hx hb dX12_isBit_1 rfl (lv_at hl 1 rfl) ?_
  refine lv_ishr hx hb dX12_isBit_2 ?_
  refine lv_topi (fun v1 ev1 => ?_)
  refine lv_iconst (v := 1) hx hb dX12_isBit_3 (by decide) ?_
  refine lv_iand hx hb dX12_isBit_4 ?_
  refine lv_topi (fun v2 ev2 => ?_)
  have rv2 : mm_rg v2 0 1 := mm_andR ev2 mm_k1 (by decide)
  refine lv_iconst (v := 1) hx hb dX12_isBit_5 (by decide) ?_
  refine lv_icmp_ne (tgt := 13) hx hb dX12_isBit_6 (by decide) (fun c3 => ?_) (fun c3 => ?_)
  · have q4 := mm_neH (hi := 0) (mm_ne c3) rv2 mm_k1 (by decide) (by decide)
    refine lv_iconst (v := 0) hx hb dX12_isBit_13 (by decide) ?_
    have w5 : mm_nbit i_0 i_1 := (mm_nbit_of ev1 ev2 (mm_ne c3) h0 h1 (by decide))
    subst hAe
    rw [hQ]
    exact W.zret (v := 0) hx hb hr rfl (fun t ht hW => ⟨⟨0, (), rfl, (Or.inl ⟨rfl, w5⟩), by rw [ht]; exact hP, hK.warm hW, hD⟩, hS.F ht⟩) hS.2.2 dX12_isBit_14
  · have q6 := mm_eqI (lo := 1) (hi := 1) c3 rv2 mm_k1 (by decide)
    refine lv_iconst (v := 1) hx hb dX12_isBit_9 (by decide) ?_
    refine lv_goto (tgt := 14) hx hb dX12_isBit_10 (by decide) ?_
    have w7 : mm_bit i_0 i_1 := (mm_bit_of ev1 ev2 c3 h0 h1 (by decide))
    subst hAe
    rw [hQ]
    exact W.zret (v := 1) hx hb hr rfl (fun t ht hW => ⟨⟨1, (), rfl, (Or.inr ⟨rfl, w7⟩), by rw [ht]; exact hP, hK.warm hW, hD⟩, hS.F ht⟩) hS.2.2 dX12_isBit_14

set_option maxHeartbeats 4000000 in
set_option maxRecDepth 100000 in
theorem M233_X12_heirsOf (l : Launch) (G : va_G) (cy : Nat → ClassId) (sz : Nat) (a_0 : Nat) (i_0 : Int32) (i_1 : Int32) (i_2 : Int32) (i_3 : Int32) (a_1 : Nat) (a_2 : Nat) (a_3 : Nat) (a_4 : Nat) (a_5 : Nat) (i_4 : Int32) (i_5 : Int32) (i_6 : Int32) (i_7 : Int32) (i_8 : Int32) (j_0 : Int64) (i_9 : Int32) (i_10 : Int32) (i_11 : Int32) (i_12 : Int32) (a_6 : Nat) (a_7 : Nat) (a_8 : Nat) (a_9 : Nat) (a_10 : Nat) (a_11 : Nat) (a_12 : Nat) (a_13 : Nat) (a_14 : Nat) (a_15 : Nat) (a_16 : Nat) (a_17 : Nat) (a_18 : Nat) (i_13 : Int32) (i_14 : Int32) (i_15 : Int32) (i_16 : Int32) (i_17 : Int32) (i_18 : Int32) (a_19 : Nat) (i_19 : Int32) (a_20 : Nat) (i_20 : Int32) (i_21 : Int32) (i_22 : Int32) (i_23 : Int32) (i_24 : Int32) (i_25 : Int32) (i_26 : Int32) (i_27 : Int32) (i_28 : Int32) (i_29 : Int32) (i_30 : Int32) (i_31 : Int32) (i_32 : Int32) (i_33 : Int32) (i_34 : Int32) (i_35 : Int32) (i_36 : Int32) (i_37 : Int32) (i_38 : Int32) (i_39 : Int32) (i_40 : Int32) (i_41 : Int32) (i_42 : Int32) (i_43 : Int32) (i_44 : Int32) (i_45 : Int32) (i_46 : Int32) (i_47 : Int32) (i_48 : Int32) (i_49 : Int32) (h0 : mm_rg i_0 0 2) (h1 : mm_rg i_1 0 1000000007) (h2 : mm_rg i_2 0 63) (h3 : mm_rg i_20 0 10) (h4 : mm_rg i_21 0 99) (h5 : mm_rg i_22 0 9) (h6 : mm_rg i_23 0 3) (h7 : mm_rg i_24 0 6) (h8 : mm_rg i_25 0 30) (h9 : mm_rg i_26 0 10) (h10 : mm_rg i_27 0 99) (h11 : mm_rg i_28 0 9) (h12 : mm_rg i_29 0 3) (h13 : mm_rg i_30 0 6) (h14 : mm_rg i_31 0 30) (h15 : mm_rg i_32 0 10) (h16 : mm_rg i_33 0 99) (h17 : mm_rg i_34 0 9) (h18 : mm_rg i_35 0 3) (h19 : mm_rg i_36 0 6) (h20 : mm_rg i_37 0 30) (h21 : mm_rg i_38 0 10) (h22 : mm_rg i_39 0 99) (h23 : mm_rg i_40 0 9) (h24 : mm_rg i_41 0 3) (h25 : mm_rg i_42 0 6) (h26 : mm_rg i_43 0 30) (h27 : mm_rg i_44 0 10) (h28 : mm_rg i_45 0 99) (h29 : mm_rg i_46 0 9) (h30 : mm_rg i_47 0 3) (h31 : mm_rg i_48 0 6) (h32 : mm_rg i_49 0 30) (h33 : mm_pc 0 i_2)  : mm_CI l yX12_heirsOf (mm_ws yX12_heirsOf cX12_heirsOf 7 (some .int)) ({ frames := 1, cells := 0, slots := 0, locals := 21 } : Room) G cy sz [(a_0, .inr (12, [.int i_3, .ref a_1, .ref a_2, .ref a_3, .ref a_4, .ref a_5, .int i_4, .int i_5, .int i_6, .int i_7, .int i_8, .long j_0, .int i_9, .int i_10, .int i_11, .int i_12, .ref a_6, .ref a_7, .ref a_8, .ref a_9, .ref a_10, .ref a_11, .ref a_12, .ref a_13, .ref a_14, .ref a_15, .ref a_16, .ref a_17, .ref a_18, .int i_13, .int i_14, .int i_15, .int i_16, .int i_17, .int i_18, .ref a_19, .int i_19, .ref a_20])), (a_7, .inl (cy 1, 30, .inl (mm_g [i_20, i_21, i_22, i_23, i_24, i_25, i_26, i_27, i_28, i_29, i_30, i_31, i_32, i_33, i_34, i_35, i_36, i_37, i_38, i_39, i_40, i_41, i_42, i_43, i_44, i_45, i_46, i_47, i_48, i_49])))] [.ref a_0, .int i_0, .int i_1, .int i_2] (fun u : Unit => [(a_0, .inr (12, [.int i_3, .ref a_1, .ref a_2, .ref a_3, .ref a_4, .ref a_5, .int i_4, .int i_5, .int i_6, .int i_7, .int i_8, .long j_0, .int i_9, .int i_10, .int i_11, .int i_12, .ref a_6, .ref a_7, .ref a_8, .ref a_9, .ref a_10, .ref a_11, .ref a_12, .ref a_13, .ref a_14, .ref a_15, .ref a_16, .ref a_17, .ref a_18, .int i_13, .int i_14, .int i_15, .int i_16, .int i_17, .int i_18, .ref a_19, .int i_19, .ref a_20])), (a_7, .inl (cy 1, 30, .inl (mm_g [i_20, i_21, i_22, i_23, i_24, i_25, i_26, i_27, i_28, i_29, i_30, i_31, i_32, i_33, i_34, i_35, i_36, i_37, i_38, i_39, i_40, i_41, i_42, i_43, i_44, i_45, i_46, i_47, i_48, i_49])))]) (fun (r : Int32) (u : Unit) => mm_rg r (-1000000) 0) 0 0 := by
  refine mm_begin (lv := [(0, .ref a_0), (1, .int i_0), (2, .int i_1), (3, .int i_2)]) (by decide) (Nat.le_of_ble_eq_true rfl) rfl ?_
  intro p e s m below meth c A ls R args Q H locs hRe hQ hAe hx hb hr hlocks hml hown hnm hts hsz hA hS hP hK hD hZ hl
  have hRf : R.frames = 1 := by rw [hRe]
  have hRl : R.locals = 21 := by rw [hRe]
  have hRc : R.cells = 0 := by rw [hRe]
  have hRs : R.slots = 0 := by rw [hRe]
  refine lv_iload_n hx hb dX12_heirsOf_0 rfl (lv_at hl 3 rfl) ?_
  refine lv_if_ne (tgt := 8) hx hb dX12_heirsOf_1 (by decide) (fun c1 => ?_) (fun c1 => ?_)
  · have q2 := mm_neL (lo := 1) (mm_ne c1) h2 mm_k0 (by decide) (by decide)
    have q3 : mm_rg i_2 0 0 := mm_pc_0 h33 q2 (by decide)
    refine lv_ldcw (v := (-1000000)) hx hb hown (mm_h hts mm_w1460) dX12_heirsOf_8 ?_
    refine lv_istore (lv' := [(4, .int (-1000000)), (0, .ref a_0), (1, .int i_0), (2, .int i_1), (3, .int i_2)]) hx hb dX12_heirsOf_11 hl (by decide) rfl ?_
    clear hl
    clear ls
    intro ls hl
    refine lv_iconst (v := 0) hx hb dX12_heirsOf_13 (by decide) ?_
    refine lv_istore (lv' := [(5, .int 0), (4, .int (-1000000)), (0, .ref a_0), (1, .int i_0), (2, .int i_1), (3, .int i_2)]) hx hb dX12_heirsOf_14 hl (by decide) rfl ?_
    clear hl
    clear ls
    intro ls hl
    have L16_75 : ∀ (n : Nat) (x16_5_75 : Int32), mm_rg x16_5_75 0 6 → (6 - x16_5_75.toInt).toNat < n → ∀ (H : Heap) (locs : List Loc), va_P G vwCl [(a_0, .inr (12, [.int i_3, .ref a_1, .ref a_2, .ref a_3, .ref a_4, .ref a_5, .int i_4, .int i_5, .int i_6, .int i_7, .int i_8, .long j_0, .int i_9, .int i_10, .int i_11, .int i_12, .ref a_6, .ref a_7, .ref a_8, .ref a_9, .ref a_10, .ref a_11, .ref a_12, .ref a_13, .ref a_14, .ref a_15, .ref a_16, .ref a_17, .ref a_18, .int i_13, .int i_14, .int i_15, .int i_16, .int i_17, .int i_18, .ref a_19, .int i_19, .ref a_20])), (a_7, .inl (cy 1, 30, .inl (mm_g [i_20, i_21, i_22, i_23, i_24, i_25, i_26, i_27, i_28, i_29, i_30, i_31, i_32, i_33, i_34, i_35, i_36, i_37, i_38, i_39, i_40, i_41, i_42, i_43, i_44, i_45, i_46, i_47, i_48, i_49])))] H → va_D A [(a_0, .inr (12, [.int i_3, .ref a_1, .ref a_2, .ref a_3, .ref a_4, .ref a_5, .int i_4, .int i_5, .int i_6, .int i_7, .int i_8, .long j_0, .int i_9, .int i_10, .int i_11, .int i_12, .ref a_6, .ref a_7, .ref a_8, .ref a_9, .ref a_10, .ref a_11, .ref a_12, .ref a_13, .ref a_14, .ref a_15, .ref a_16, .ref a_17, .ref a_18, .int i_13, .int i_14, .int i_15, .int i_16, .int i_17, .int i_18, .ref a_19, .int i_19, .ref a_20])), (a_7, .inl (cy 1, 30, .inl (mm_g [i_20, i_21, i_22, i_23, i_24, i_25, i_26, i_27, i_28, i_29, i_30, i_31, i_32, i_33, i_34, i_35, i_36, i_37, i_38, i_39, i_40, i_41, i_42, i_43, i_44, i_45, i_46, i_47, i_48, i_49])))] → va_S A s.heap H locs → ∀ (ls : Array Slot), lv_has ls 7 [(5, .int x16_5_75), (4, .int (-1000000)), (0, .ref a_0), (1, .int i_0), (2, .int i_1), (3, .int i_2)] → W p l e R s m args below meth c H locs 0 0 Q (F0 m 16 ls []) := by
      intro n
      induction n with
      | zero => intro x16_5_75 rx16_5_75 hm; exact absurd hm (Nat.not_lt_zero _)
      | succ n ih16 =>
        intro x16_5_75 rx16_5_75 hm16 H locs hP hD hS ls hl
        refine lv_iload hx hb dX12_heirsOf_16 (lv_at hl 0 rfl) ?_
        refine lv_aload_n hx hb dX12_heirsOf_18 rfl (lv_at hl 2 rfl) ?_
        refine mm_finir (va_runV (As := []) (rest := [.int x16_5_75]) ⟨hx, hb, hml, hown, hts⟩ (M95_X12_texts l G cy H.size a_0 i_3 a_1 a_2 a_3 a_4 a_5 i_4 i_5 i_6 i_7 i_8 j_0 i_9 i_10 i_11 i_12 a_6 a_7 a_8 a_9 a_10 a_11 a_12 a_13 a_14 a_15 a_16 a_17 a_18 i_13 i_14 i_15 i_16 i_17 i_18 a_19 i_19 a_20 i_20 i_21 i_22 i_23 i_24 i_25 i_26 i_27 i_28 i_29 i_30 i_31 i_32 i_33 i_34 i_35 i_36 i_37 i_38 i_39 i_40 i_41 i_42 i_43 i_44 i_45 i_46 i_47 i_48 i_49 h3 h4 h5 h6 h7 h8 h9 h10 h11 h12 h13 h14 h15 h16 h17 h18 h19 h20 h21 h22 h23 h24 h25 h26 h27 h28 h29 h30 h31 h32) (cwV 0 hts (mm_gV mm_w617 mm_w618 mm_w619 mm_w5 mm_w620) rfl rfl rfl hd_X12_texts ⟨by rw [hRf]; exact Nat.le_of_ble_eq_true rfl, by rw [hRl]; exact Nat.le_of_ble_eq_true rfl⟩) (mm_preV hK hZ hS hA hP hD [0, 1] rfl rfl 0 rfl rfl rfl) rfl rfl hl.1 rfl (lv_room (Nat.le_of_ble_eq_true rfl)) dX12_heirsOf_19 ⟨by rw [hRc]; exact Nat.le_of_ble_eq_true rfl, by rw [hRs]; exact Nat.le_of_ble_eq_true rfl⟩) hP hD hS hA [0, 1] rfl (fun _ => rfl) ?_
        clear hP hD hS
        clear H locs
        intro v77 _u H locs hw hP hD hS
        subst hw
        refine lv_icmp_ge (tgt := 86) hx hb dX12_heirsOf_22 (by decide) (fun c78 => ?_) (fun c78 => ?_)
        · refine lv_iload hx hb dX12_heirsOf_86 (lv_at hl 1 rfl) ?_
          subst hAe
          rw [hQ]
          exact W.iret (v := (-1000000)) hx hb hr (fun t ht hW => ⟨⟨(-1000000), (), rfl, (mm_wk mm_km1000000 (by decide)), by rw [ht]; exact hP, hK.warm hW, hD⟩, hS.F ht⟩) hS.2.2 dX12_heirsOf_88
        · have q79 := mm_ltL (h := 5) (mm_nle c78) rx16_5_75 h7 (by decide)
          have q80 := mm_ltR (lo := 1) (mm_nle c78) rx16_5_75 h7 (by decide)
          refine lv_iload_n hx hb dX12_heirsOf_25 rfl (lv_at hl 5 rfl) ?_
          refine lv_iload hx hb dX12_heirsOf_26 (lv_at hl 0 rfl) ?_
          refine mm_finir (va_runS (As := [.int i_2, .int x16_5_75]) (rest := []) ⟨hx, hb, hml, hown, hts⟩ (M232_X12_isBit l G cy H.size i_2 x16_5_75 (mm_wk q3 (by decide)) q79) (va_cwS 2 hts (mm_gS mm_w1461 mm_w1462 mm_w5 mm_w1463) rfl rfl rfl hs_X12_isBit ⟨by rw [hRf]; exact Nat.le_of_ble_eq_true rfl, by rw [hRl]; exact Nat.le_of_ble_eq_true rfl⟩) (mm_preS hK hZ hS hA hP hD [] rfl rfl) rfl rfl hl.1 rfl (lv_room (Nat.le_of_ble_eq_true rfl)) dX12_heirsOf_28 ⟨by rw [hRc]; exact Nat.le_of_ble_eq_true rfl, by rw [hRs]; exact Nat.le_of_ble_eq_true rfl⟩) hP hD hS hA [] rfl (fun _ => rfl) ?_
          clear hP hD hS
          clear H locs
          intro v81 _u H locs hw hP hD hS
          rcases hw with ⟨rfl, w82⟩ | ⟨rfl, w83⟩
          · refine lv_if_ne (tgt := 37) hx hb dX12_heirsOf_31 (by decide) (fun c84 => ?_) (fun c84 => ?_)
            · exact absurd rfl (mm_ne c84)
            · refine lv_goto (tgt := 80) hx hb dX12_heirsOf_34 (by decide) ?_
              obtain ⟨v85, ev85⟩ : ∃ y : Int32, y = x16_5_75 + 1 := ⟨_, rfl⟩
              refine lv_iinc (v := v85) (lv' := [(5, .int v85), (4, .int (-1000000)), (0, .ref a_0), (1, .int i_0), (2, .int i_1), (3, .int i_2)]) hx hb dX12_heirsOf_80 hl (k := 0) rfl (by rw [ev85]; rfl) (by decide) rfl ?_
              clear hl
              clear ls
              intro ls hl
              have rv85 : mm_rg v85 1 6 := mm_add ev85 q79 mm_k1 (by decide) (by decide)
              have tv85 := mm_addEc ev85 q79 mm_k1 (by decide) (k := 1) (by decide)
              refine lv_goto (tgt := 16) hx hb dX12_heirsOf_83 (by decide) ?_
              exact ih16 v85 (mm_wk rv85 (by decide)) (mm_mu hm16 tv85 (by decide) (rv85).2 (by decide)) H locs hP hD hS ls (lv_sub hl [0, 1, 2, 3, 4, 5] rfl)
          · exact mm_bit_no w83 q3 (by decide)
    exact L16_75 _ 0 (mm_wk mm_k0 (by decide)) (Nat.lt_succ_self _) H locs hP hD hS ls (lv_sub hl [0, 1, 2, 3, 4, 5] rfl)
  · have q86 := mm_eqI (lo := 0) (hi := 0) c1 h2 mm_k0 (by decide)
    refine lv_iconst (v := 0) hx hb dX12_heirsOf_4 (by decide) ?_
    refine lv_goto (tgt := 11) hx hb dX12_heirsOf_5 (by decide) ?_
    refine lv_istore (lv' := [(4, .int 0), (0, .ref a_0), (1, .int i_0), (2, .int i_1), (3, .int i_2)]) hx hb dX12_heirsOf_11 hl (by decide) rfl ?_
    clear hl
    clear ls
    intro ls hl
    refine lv_iconst (v := 0) hx hb dX12_heirsOf_13 (by decide) ?_
    refine lv_istore (lv' := [(5, .int 0), (4, .int 0), (0, .ref a_0), (1, .int i_0), (2, .int i_1), (3, .int i_2)]) hx hb dX12_heirsOf_14 hl (by decide) rfl ?_
    clear hl
    clear ls
    intro ls hl
    have L16_158 : ∀ (n : Nat) (x16_5_158 : Int32), mm_rg x16_5_158 0 6 → (6 - x16_5_158.toInt).toNat < n → ∀ (H : Heap) (locs : List Loc), va_P G vwCl [(a_0, .inr (12, [.int i_3, .ref a_1, .ref a_2, .ref a_3, .ref a_4, .ref a_5, .int i_4, .int i_5, .int i_6, .int i_7, .int i_8, .long j_0, .int i_9, .int i_10, .int i_11, .int i_12, .ref a_6, .ref a_7, .ref a_8, .ref a_9, .ref a_10, .ref a_11, .ref a_12, .ref a_13, .ref a_14, .ref a_15, .ref a_16, .ref a_17, .ref a_18, .int i_13, .int i_14, .int i_15, .int i_16, .int i_17, .int i_18, .ref a_19, .int i_19, .ref a_20])), (a_7, .inl (cy 1, 30, .inl (mm_g [i_20, i_21, i_22, i_23, i_24, i_25, i_26, i_27, i_28, i_29, i_30, i_31, i_32, i_33, i_34, i_35, i_36, i_37, i_38, i_39, i_40, i_41, i_42, i_43, i_44, i_45, i_46, i_47, i_48, i_49])))] H → va_D A [(a_0, .inr (12, [.int i_3, .ref a_1, .ref a_2, .ref a_3, .ref a_4, .ref a_5, .int i_4, .int i_5, .int i_6, .int i_7, .int i_8, .long j_0, .int i_9, .int i_10, .int i_11, .int i_12, .ref a_6, .ref a_7, .ref a_8, .ref a_9, .ref a_10, .ref a_11, .ref a_12, .ref a_13, .ref a_14, .ref a_15, .ref a_16, .ref a_17, .ref a_18, .int i_13, .int i_14, .int i_15, .int i_16, .int i_17, .int i_18, .ref a_19, .int i_19, .ref a_20])), (a_7, .inl (cy 1, 30, .inl (mm_g [i_20, i_21, i_22, i_23, i_24, i_25, i_26, i_27, i_28, i_29, i_30, i_31, i_32, i_33, i_34, i_35, i_36, i_37, i_38, i_39, i_40, i_41, i_42, i_43, i_44, i_45, i_46, i_47, i_48, i_49])))] → va_S A s.heap H locs → ∀ (ls : Array Slot), lv_has ls 7 [(5, .int x16_5_158), (4, .int 0), (0, .ref a_0), (1, .int i_0), (2, .int i_1), (3, .int i_2)] → W p l e R s m args below meth c H locs 0 0 Q (F0 m 16 ls []) := by
      intro n
      induction n with
      | zero => intro x16_5_158 rx16_5_158 hm; exact absurd hm (Nat.not_lt_zero _)
      | succ n ih16 =>
        intro x16_5_158 rx16_5_158 hm16 H locs hP hD hS ls hl
        refine lv_iload hx hb dX12_heirsOf_16 (lv_at hl 0 rfl) ?_
        refine lv_aload_n hx hb dX12_heirsOf_18 rfl (lv_at hl 2 rfl) ?_
        refine mm_finir (va_runV (As := []) (rest := [.int x16_5_158]) ⟨hx, hb, hml, hown, hts⟩ (M95_X12_texts l G cy H.size a_0 i_3 a_1 a_2 a_3 a_4 a_5 i_4 i_5 i_6 i_7 i_8 j_0 i_9 i_10 i_11 i_12 a_6 a_7 a_8 a_9 a_10 a_11 a_12 a_13 a_14 a_15 a_16 a_17 a_18 i_13 i_14 i_15 i_16 i_17 i_18 a_19 i_19 a_20 i_20 i_21 i_22 i_23 i_24 i_25 i_26 i_27 i_28 i_29 i_30 i_31 i_32 i_33 i_34 i_35 i_36 i_37 i_38 i_39 i_40 i_41 i_42 i_43 i_44 i_45 i_46 i_47 i_48 i_49 h3 h4 h5 h6 h7 h8 h9 h10 h11 h12 h13 h14 h15 h16 h17 h18 h19 h20 h21 h22 h23 h24 h25 h26 h27 h28 h29 h30 h31 h32) (cwV 0 hts (mm_gV mm_w617 mm_w618 mm_w619 mm_w5 mm_w620) rfl rfl rfl hd_X12_texts ⟨by rw [hRf]; exact Nat.le_of_ble_eq_true rfl, by rw [hRl]; exact Nat.le_of_ble_eq_true rfl⟩) (mm_preV hK hZ hS hA hP hD [0, 1] rfl rfl 0 rfl rfl rfl) rfl rfl hl.1 rfl (lv_room (Nat.le_of_ble_eq_true rfl)) dX12_heirsOf_19 ⟨by rw [hRc]; exact Nat.le_of_ble_eq_true rfl, by rw [hRs]; exact Nat.le_of_ble_eq_true rfl⟩) hP hD hS hA [0, 1] rfl (fun _ => rfl) ?_
        clear hP hD hS
        clear H locs
        intro v160 _u H locs hw hP hD hS
        subst hw
        refine lv_icmp_ge (tgt := 86) hx hb dX12_heirsOf_22 (by decide) (fun c161 => ?_) (fun c161 => ?_)
        · refine lv_iload hx hb dX12_heirsOf_86 (lv_at hl 1 rfl) ?_
          subst hAe
          rw [hQ]
          exact W.iret (v := 0) hx hb hr (fun t ht hW => ⟨⟨0, (), rfl, (mm_wk mm_k0 (by decide)), by rw [ht]; exact hP, hK.warm hW, hD⟩, hS.F ht⟩) hS.2.2 dX12_heirsOf_88
        · have q162 := mm_ltL (h := 5) (mm_nle c161) rx16_5_158 h7 (by decide)
          have q163 := mm_ltR (lo := 1) (mm_nle c161) rx16_5_158 h7 (by decide)
          refine lv_iload_n hx hb dX12_heirsOf_25 rfl (lv_at hl 5 rfl) ?_
          refine lv_iload hx hb dX12_heirsOf_26 (lv_at hl 0 rfl) ?_
          refine mm_finir (va_runS (As := [.int i_2, .int x16_5_158]) (rest := []) ⟨hx, hb, hml, hown, hts⟩ (M232_X12_isBit l G cy H.size i_2 x16_5_158 (mm_wk q86 (by decide)) q162) (va_cwS 2 hts (mm_gS mm_w1461 mm_w1462 mm_w5 mm_w1463) rfl rfl rfl hs_X12_isBit ⟨by rw [hRf]; exact Nat.le_of_ble_eq_true rfl, by rw [hRl]; exact Nat.le_of_ble_eq_true rfl⟩) (mm_preS hK hZ hS hA hP hD [] rfl rfl) rfl rfl hl.1 rfl (lv_room (Nat.le_of_ble_eq_true rfl)) dX12_heirsOf_28 ⟨by rw [hRc]; exact Nat.le_of_ble_eq_true rfl, by rw [hRs]; exact Nat.le_of_ble_eq_true rfl⟩) hP hD hS hA [] rfl (fun _ => rfl) ?_
          clear hP hD hS
          clear H locs
          intro v164 _u H locs hw hP hD hS
          rcases hw with ⟨rfl, w165⟩ | ⟨rfl, w166⟩
          · refine lv_if_ne (tgt := 37) hx hb dX12_heirsOf_31 (by decide) (fun c167 => ?_) (fun c167 => ?_)
            · exact absurd rfl (mm_ne c167)
            · refine lv_goto (tgt := 80) hx hb dX12_heirsOf_34 (by decide) ?_
              obtain ⟨v168, ev168⟩ : ∃ y : Int32, y = x16_5_158 + 1 := ⟨_, rfl⟩
              refine lv_iinc (v := v168) (lv' := [(5, .int v168), (4, .int 0), (0, .ref a_0), (1, .int i_0), (2, .int i_1), (3, .int i_2)]) hx hb dX12_heirsOf_80 hl (k := 0) rfl (by rw [ev168]; rfl) (by decide) rfl ?_
              clear hl
              clear ls
              intro ls hl
              have rv168 : mm_rg v168 1 6 := mm_add ev168 q162 mm_k1 (by decide) (by decide)
              have tv168 := mm_addEc ev168 q162 mm_k1 (by decide) (k := 1) (by decide)
              refine lv_goto (tgt := 16) hx hb dX12_heirsOf_83 (by decide) ?_
              exact ih16 v168 (mm_wk rv168 (by decide)) (mm_mu hm16 tv168 (by decide) (rv168).2 (by decide)) H locs hP hD hS ls (lv_sub hl [0, 1, 2, 3, 4, 5] rfl)
          · exact mm_bit_no w166 q86 (by decide)
    exact L16_158 _ 0 (mm_wk mm_k0 (by decide)) (Nat.lt_succ_self _) H locs hP hD hS ls (lv_sub hl [0, 1, 2, 3, 4, 5] rfl)

set_option maxHeartbeats 4000000 in
set_option maxRecDepth 100000 in
theorem M234_X12_heirsOf (l : Launch) (G : va_G) (cy : Nat → ClassId) (sz : Nat) (a_0 : Nat) (i_0 : Int32) (i_1 : Int32) (i_2 : Int32) (i_3 : Int32) (a_1 : Nat) (a_2 : Nat) (a_3 : Nat) (a_4 : Nat) (a_5 : Nat) (i_4 : Int32) (i_5 : Int32) (i_6 : Int32) (i_7 : Int32) (i_8 : Int32) (j_0 : Int64) (i_9 : Int32) (i_10 : Int32) (i_11 : Int32) (i_12 : Int32) (a_6 : Nat) (a_7 : Nat) (a_8 : Nat) (a_9 : Nat) (a_10 : Nat) (a_11 : Nat) (a_12 : Nat) (a_13 : Nat) (a_14 : Nat) (a_15 : Nat) (a_16 : Nat) (a_17 : Nat) (a_18 : Nat) (i_13 : Int32) (i_14 : Int32) (i_15 : Int32) (i_16 : Int32) (i_17 : Int32) (i_18 : Int32) (a_19 : Nat) (i_19 : Int32) (a_20 : Nat) (i_20 : Int32) (i_21 : Int32) (i_22 : Int32) (i_23 : Int32) (i_24 : Int32) (i_25 : Int32) (i_26 : Int32) (i_27 : Int32) (i_28 : Int32) (i_29 : Int32) (i_30 : Int32) (i_31 : Int32) (i_32 : Int32) (i_33 : Int32) (i_34 : Int32) (i_35 : Int32) (i_36 : Int32) (i_37 : Int32) (i_38 : Int32) (i_39 : Int32) (i_40 : Int32) (i_41 : Int32) (i_42 : Int32) (i_43 : Int32) (i_44 : Int32) (i_45 : Int32) (i_46 : Int32) (i_47 : Int32) (i_48 : Int32) (i_49 : Int32) (f_0 : Nat → Int32) (f_1 : Nat → Int32) (f_2 : Nat → Int32) (f_3 : Nat → Int32) (f_4 : Nat → Int32) (f_5 : Nat → Int32) (f_6 : Nat → Int32) (h0 : mm_rg i_0 0 2) (h1 : mm_rg i_1 0 1000000006) (h2 : mm_rg i_2 0 63) (h3 : mm_rg i_13 0 8) (h4 : mm_rg i_20 0 10) (h5 : mm_rg i_21 0 99) (h6 : mm_rg i_22 0 9) (h7 : mm_rg i_23 0 3) (h8 : mm_rg i_24 0 6) (h9 : mm_rg i_25 0 30) (h10 : mm_rg i_26 0 10) (h11 : mm_rg i_27 0 99) (h12 : mm_rg i_28 0 9) (h13 : mm_rg i_29 0 3) (h14 : mm_rg i_30 0 6) (h15 : mm_rg i_31 0 30) (h16 : mm_rg i_32 0 10) (h17 : mm_rg i_33 0 99) (h18 : mm_rg i_34 0 9) (h19 : mm_rg i_35 0 3) (h20 : mm_rg i_36 0 6) (h21 : mm_rg i_37 0 30) (h22 : mm_rg i_38 0 10) (h23 : mm_rg i_39 0 99) (h24 : mm_rg i_40 0 9) (h25 : mm_rg i_41 0 3) (h26 : mm_rg i_42 0 6) (h27 : mm_rg i_43 0 30) (h28 : mm_rg i_44 0 10) (h29 : mm_rg i_45 0 99) (h30 : mm_rg i_46 0 9) (h31 : mm_rg i_47 0 3) (h32 : mm_rg i_48 0 6) (h33 : mm_rg i_49 0 30) (h34 : mm_ar f_0 0 99) (h35 : mm_ar f_1 0 8) (h36 : mm_ar f_2 0 9) (h37 : mm_ar f_3 (-1) 99) (h38 : mm_ar f_4 0 9) (h39 : mm_ar f_5 0 210) (h40 : mm_ar f_6 0 9) (h41 : mm_txs f_1 f_2 0 i_22 i_24) (h42 : mm_acs f_3 0 i_22 i_23 i_25) (h43 : mm_txs f_1 f_2 1 i_28 i_30) (h44 : mm_acs f_3 1 i_28 i_29 i_31) (h45 : mm_txs f_1 f_2 2 i_34 i_36) (h46 : mm_acs f_3 2 i_34 i_35 i_37) (h47 : mm_txs f_1 f_2 3 i_40 i_42) (h48 : mm_acs f_3 3 i_40 i_41 i_43) (h49 : mm_f1 f_5 i_0) (h50 : mm_pc 1 i_2)  : mm_CI l yX12_heirsOf (mm_ws yX12_heirsOf cX12_heirsOf 7 (some .int)) ({ frames := 3, cells := 0, slots := 0, locals := 73 } : Room) G cy sz [(a_0, .inr (12, [.int i_3, .ref a_1, .ref a_2, .ref a_3, .ref a_4, .ref a_5, .int i_4, .int i_5, .int i_6, .int i_7, .int i_8, .long j_0, .int i_9, .int i_10, .int i_11, .int i_12, .ref a_6, .ref a_7, .ref a_8, .ref a_9, .ref a_10, .ref a_11, .ref a_12, .ref a_13, .ref a_14, .ref a_15, .ref a_16, .ref a_17, .ref a_18, .int i_13, .int i_14, .int i_15, .int i_16, .int i_17, .int i_18, .ref a_19, .int i_19, .ref a_20])), (a_7, .inl (cy 1, 30, .inl (mm_g [i_20, i_21, i_22, i_23, i_24, i_25, i_26, i_27, i_28, i_29, i_30, i_31, i_32, i_33, i_34, i_35, i_36, i_37, i_38, i_39, i_40, i_41, i_42, i_43, i_44, i_45, i_46, i_47, i_48, i_49]))), (a_8, .inl (cy 1, 90, .inl f_0)), (a_11, .inl (cy 1, 30, .inl f_1)), (a_12, .inl (cy 1, 240, .inl f_2)), (a_13, .inl (cy 1, 450, .inl f_3)), (a_15, .inl (cy 1, 7200, .inl f_4)), (a_16, .inl (cy 1, 3, .inl f_5)), (a_18, .inl (cy 1, 8, .inl f_6))] [.ref a_0, .int i_0, .int i_1, .int i_2] (fun u : Int32 × Int32 × Int32 × (Nat → Int32) => [(a_0, .inr (12, [.int i_3, .ref a_1, .ref a_2, .ref a_3, .ref a_4, .ref a_5, .int i_4, .int i_5, .int i_6, .int i_7, .int i_8, .long j_0, .int i_9, .int i_10, .int i_11, .int i_12, .ref a_6, .ref a_7, .ref a_8, .ref a_9, .ref a_10, .ref a_11, .ref a_12, .ref a_13, .ref a_14, .ref a_15, .ref a_16, .ref a_17, .ref a_18, .int u.1, .int u.2.1, .int u.2.2.1, .int i_16, .int i_17, .int i_18, .ref a_19, .int i_19, .ref a_20])), (a_7, .inl (cy 1, 30, .inl (mm_g [i_20, i_21, i_22, i_23, i_24, i_25, i_26, i_27, i_28, i_29, i_30, i_31, i_32, i_33, i_34, i_35, i_36, i_37, i_38, i_39, i_40, i_41, i_42, i_43, i_44, i_45, i_46, i_47, i_48, i_49]))), (a_8, .inl (cy 1, 90, .inl f_0)), (a_11, .inl (cy 1, 30, .inl f_1)), (a_12, .inl (cy 1, 240, .inl f_2)), (a_13, .inl (cy 1, 450, .inl f_3)), (a_15, .inl (cy 1, 7200, .inl f_4)), (a_16, .inl (cy 1, 3, .inl f_5)), (a_18, .inl (cy 1, 8, .inl u.2.2.2))]) (fun (r : Int32) (u : Int32 × Int32 × Int32 × (Nat → Int32)) => mm_rg u.1 0 8 ∧ mm_ar u.2.2.2 0 9 ∧ mm_rg r (-1000000) 1009999) 0 0 := by
  refine mm_begin (lv := [(0, .ref a_0), (1, .int i_0), (2, .int i_1), (3, .int i_2)]) (by decide) (Nat.le_of_ble_eq_true rfl) rfl ?_
  intro p e s m below meth c A ls R args Q H locs hRe hQ hAe hx hb hr hlocks hml hown hnm hts hsz hA hS hP hK hD hZ hl
  have hRf : R.frames = 3 := by rw [hRe]
  have hRl : R.locals = 73 := by rw [hRe]
  have hRc : R.cells = 0 := by rw [hRe]
  have hRs : R.slots = 0 := by rw [hRe]
  refine lv_iload_n hx hb dX12_heirsOf_0 rfl (lv_at hl 3 rfl) ?_
  refine lv_if_ne (tgt := 8) hx hb dX12_heirsOf_1 (by decide) (fun c1 => ?_) (fun c1 => ?_)
  · have q2 := mm_neL (lo := 1) (mm_ne c1) h2 mm_k0 (by decide) (by decide)
    refine lv_ldcw (v := (-1000000)) hx hb hown (mm_h hts mm_w1460) dX12_heirsOf_8 ?_
    refine lv_istore (lv' := [(4, .int (-1000000)), (0, .ref a_0), (1, .int i_0), (2, .int i_1), (3, .int i_2)]) hx hb dX12_heirsOf_11 hl (by decide) rfl ?_
    clear hl
    clear ls
    intro ls hl
    refine lv_iconst (v := 0) hx hb dX12_heirsOf_13 (by decide) ?_
    refine lv_istore (lv' := [(5, .int 0), (4, .int (-1000000)), (0, .ref a_0), (1, .int i_0), (2, .int i_1), (3, .int i_2)]) hx hb dX12_heirsOf_14 hl (by decide) rfl ?_
    clear hl
    clear ls
    intro ls hl
    have L16_250 : ∀ (n : Nat) (x16_5_245 : Int32) (x16_4_246 : Int32) (y16_0_29_247 : Int32) (y16_0_30_248 : Int32) (y16_0_31_249 : Int32) (z16_8_250 : Nat → Int32), mm_rg x16_5_245 0 6 → mm_rg x16_4_246 (-1000000) 1009999 → mm_rg y16_0_29_247 0 8 → mm_ar z16_8_250 0 9 → (6 - x16_5_245.toInt).toNat < n → ∀ (H : Heap) (locs : List Loc), va_P G vwCl [(a_0, .inr (12, [.int i_3, .ref a_1, .ref a_2, .ref a_3, .ref a_4, .ref a_5, .int i_4, .int i_5, .int i_6, .int i_7, .int i_8, .long j_0, .int i_9, .int i_10, .int i_11, .int i_12, .ref a_6, .ref a_7, .ref a_8, .ref a_9, .ref a_10, .ref a_11, .ref a_12, .ref a_13, .ref a_14, .ref a_15, .ref a_16, .ref a_17, .ref a_18, .int y16_0_29_247, .int y16_0_30_248, .int y16_0_31_249, .int i_16, .int i_17, .int i_18, .ref a_19, .int i_19, .ref a_20])), (a_7, .inl (cy 1, 30, .inl (mm_g [i_20, i_21, i_22, i_23, i_24, i_25, i_26, i_27, i_28, i_29, i_30, i_31, i_32, i_33, i_34, i_35, i_36, i_37, i_38, i_39, i_40, i_41, i_42, i_43, i_44, i_45, i_46, i_47, i_48, i_49]))), (a_8, .inl (cy 1, 90, .inl f_0)), (a_11, .inl (cy 1, 30, .inl f_1)), (a_12, .inl (cy 1, 240, .inl f_2)), (a_13, .inl (cy 1, 450, .inl f_3)), (a_15, .inl (cy 1, 7200, .inl f_4)), (a_16, .inl (cy 1, 3, .inl f_5)), (a_18, .inl (cy 1, 8, .inl z16_8_250))] H → va_D A [(a_0, .inr (12, [.int i_3, .ref a_1, .ref a_2, .ref a_3, .ref a_4, .ref a_5, .int i_4, .int i_5, .int i_6, .int i_7, .int i_8, .long j_0, .int i_9, .int i_10, .int i_11, .int i_12, .ref a_6, .ref a_7, .ref a_8, .ref a_9, .ref a_10, .ref a_11, .ref a_12, .ref a_13, .ref a_14, .ref a_15, .ref a_16, .ref a_17, .ref a_18, .int y16_0_29_247, .int y16_0_30_248, .int y16_0_31_249, .int i_16, .int i_17, .int i_18, .ref a_19, .int i_19, .ref a_20])), (a_7, .inl (cy 1, 30, .inl (mm_g [i_20, i_21, i_22, i_23, i_24, i_25, i_26, i_27, i_28, i_29, i_30, i_31, i_32, i_33, i_34, i_35, i_36, i_37, i_38, i_39, i_40, i_41, i_42, i_43, i_44, i_45, i_46, i_47, i_48, i_49]))), (a_8, .inl (cy 1, 90, .inl f_0)), (a_11, .inl (cy 1, 30, .inl f_1)), (a_12, .inl (cy 1, 240, .inl f_2)), (a_13, .inl (cy 1, 450, .inl f_3)), (a_15, .inl (cy 1, 7200, .inl f_4)), (a_16, .inl (cy 1, 3, .inl f_5)), (a_18, .inl (cy 1, 8, .inl z16_8_250))] → va_S A s.heap H locs → ∀ (ls : Array Slot), lv_has ls 7 [(5, .int x16_5_245), (4, .int x16_4_246), (0, .ref a_0), (1, .int i_0), (2, .int i_1), (3, .int i_2)] → W p l e R s m args below meth c H locs 0 0 Q (F0 m 16 ls []) := by
      intro n
      induction n with
      | zero => intro x16_5_245 x16_4_246 y16_0_29_247 y16_0_30_248 y16_0_31_249 z16_8_250 rx16_5_245 rx16_4_246 ry16_0_29_247 rz16_8_250 hm; exact absurd hm (Nat.not_lt_zero _)
      | succ n ih16 =>
        intro x16_5_245 x16_4_246 y16_0_29_247 y16_0_30_248 y16_0_31_249 z16_8_250 rx16_5_245 rx16_4_246 ry16_0_29_247 rz16_8_250 hm16 H locs hP hD hS ls hl
        refine lv_iload hx hb dX12_heirsOf_16 (lv_at hl 0 rfl) ?_
        refine lv_aload_n hx hb dX12_heirsOf_18 rfl (lv_at hl 2 rfl) ?_
        refine mm_finir (va_runV (As := []) (rest := [.int x16_5_245]) ⟨hx, hb, hml, hown, hts⟩ (M95_X12_texts l G cy H.size a_0 i_3 a_1 a_2 a_3 a_4 a_5 i_4 i_5 i_6 i_7 i_8 j_0 i_9 i_10 i_11 i_12 a_6 a_7 a_8 a_9 a_10 a_11 a_12 a_13 a_14 a_15 a_16 a_17 a_18 y16_0_29_247 y16_0_30_248 y16_0_31_249 i_16 i_17 i_18 a_19 i_19 a_20 i_20 i_21 i_22 i_23 i_24 i_25 i_26 i_27 i_28 i_29 i_30 i_31 i_32 i_33 i_34 i_35 i_36 i_37 i_38 i_39 i_40 i_41 i_42 i_43 i_44 i_45 i_46 i_47 i_48 i_49 h4 h5 h6 h7 h8 h9 h10 h11 h12 h13 h14 h15 h16 h17 h18 h19 h20 h21 h22 h23 h24 h25 h26 h27 h28 h29 h30 h31 h32 h33) (cwV 0 hts (mm_gV mm_w617 mm_w618 mm_w619 mm_w5 mm_w620) rfl rfl rfl hd_X12_texts ⟨by rw [hRf]; exact Nat.le_of_ble_eq_true rfl, by rw [hRl]; exact Nat.le_of_ble_eq_true rfl⟩) (mm_preV hK hZ hS hA hP hD [0, 1] rfl rfl 0 rfl rfl rfl) rfl rfl hl.1 rfl (lv_room (Nat.le_of_ble_eq_true rfl)) dX12_heirsOf_19 ⟨by rw [hRc]; exact Nat.le_of_ble_eq_true rfl, by rw [hRs]; exact Nat.le_of_ble_eq_true rfl⟩) hP hD hS hA [0, 1] rfl (fun _ => rfl) ?_
        clear hP hD hS
        clear H locs
        intro v252 _u H locs hw hP hD hS
        subst hw
        refine lv_icmp_ge (tgt := 86) hx hb dX12_heirsOf_22 (by decide) (fun c253 => ?_) (fun c253 => ?_)
        · refine lv_iload hx hb dX12_heirsOf_86 (lv_at hl 1 rfl) ?_
          subst hAe
          rw [hQ]
          exact W.iret (v := x16_4_246) hx hb hr (fun t ht hW => ⟨⟨x16_4_246, (y16_0_29_247, y16_0_30_248, y16_0_31_249, z16_8_250), rfl, ⟨ry16_0_29_247, rz16_8_250, rx16_4_246⟩, by rw [ht]; exact hP, hK.warm hW, hD⟩, hS.F ht⟩) hS.2.2 dX12_heirsOf_88
        · have q254 := mm_ltL (h := 5) (mm_nle c253) rx16_5_245 h8 (by decide)
          have q255 := mm_ltR (lo := 1) (mm_nle c253) rx16_5_245 h8 (by decide)
          refine lv_iload_n hx hb dX12_heirsOf_25 rfl (lv_at hl 5 rfl) ?_
          refine lv_iload hx hb dX12_heirsOf_26 (lv_at hl 0 rfl) ?_
          refine mm_finir (va_runS (As := [.int i_2, .int x16_5_245]) (rest := []) ⟨hx, hb, hml, hown, hts⟩ (M232_X12_isBit l G cy H.size i_2 x16_5_245 (mm_wk q2 (by decide)) q254) (va_cwS 2 hts (mm_gS mm_w1461 mm_w1462 mm_w5 mm_w1463) rfl rfl rfl hs_X12_isBit ⟨by rw [hRf]; exact Nat.le_of_ble_eq_true rfl, by rw [hRl]; exact Nat.le_of_ble_eq_true rfl⟩) (mm_preS hK hZ hS hA hP hD [] rfl rfl) rfl rfl hl.1 rfl (lv_room (Nat.le_of_ble_eq_true rfl)) dX12_heirsOf_28 ⟨by rw [hRc]; exact Nat.le_of_ble_eq_true rfl, by rw [hRs]; exact Nat.le_of_ble_eq_true rfl⟩) hP hD hS hA [] rfl (fun _ => rfl) ?_
          clear hP hD hS
          clear H locs
          intro v256 _u H locs hw hP hD hS
          rcases hw with ⟨rfl, w257⟩ | ⟨rfl, w258⟩
          · refine lv_if_ne (tgt := 37) hx hb dX12_heirsOf_31 (by decide) (fun c259 => ?_) (fun c259 => ?_)
            · exact absurd rfl (mm_ne c259)
            · refine lv_goto (tgt := 80) hx hb dX12_heirsOf_34 (by decide) ?_
              obtain ⟨v260, ev260⟩ : ∃ y : Int32, y = x16_5_245 + 1 := ⟨_, rfl⟩
              refine lv_iinc (v := v260) (lv' := [(5, .int v260), (4, .int x16_4_246), (0, .ref a_0), (1, .int i_0), (2, .int i_1), (3, .int i_2)]) hx hb dX12_heirsOf_80 hl (k := 0) rfl (by rw [ev260]; rfl) (by decide) rfl ?_
              clear hl
              clear ls
              intro ls hl
              have rv260 : mm_rg v260 1 6 := mm_add ev260 q254 mm_k1 (by decide) (by decide)
              have tv260 := mm_addEc ev260 q254 mm_k1 (by decide) (k := 1) (by decide)
              refine lv_goto (tgt := 16) hx hb dX12_heirsOf_83 (by decide) ?_
              exact ih16 v260 x16_4_246 y16_0_29_247 y16_0_30_248 y16_0_31_249 z16_8_250 (mm_wk rv260 (by decide)) rx16_4_246 ry16_0_29_247 rz16_8_250 (mm_mu hm16 tv260 (by decide) (rv260).2 (by decide)) H locs hP hD hS ls (lv_sub hl [0, 1, 2, 3, 4, 5] rfl)
          · refine lv_if_ne (tgt := 37) hx hb dX12_heirsOf_31 (by decide) (fun c261 => ?_) (fun c261 => ?_)
            · refine lv_aload_n hx hb dX12_heirsOf_37 rfl (lv_at hl 2 rfl) ?_
              refine lv_iload_n hx hb dX12_heirsOf_38 rfl (lv_at hl 3 rfl) ?_
              refine lv_iload_n hx hb dX12_heirsOf_39 rfl (lv_at hl 4 rfl) ?_
              refine lv_iload hx hb dX12_heirsOf_40 (lv_at hl 0 rfl) ?_
              refine mm_fini (va_runV (As := [.int i_0, .int i_1, .int x16_5_245]) (rest := []) ⟨hx, hb, hml, hown, hts⟩ (M141_X12_reads l G cy H.size a_0 i_0 i_1 x16_5_245 i_3 a_1 a_2 a_3 a_4 a_5 i_4 i_5 i_6 i_7 i_8 j_0 i_9 i_10 i_11 i_12 a_6 a_7 a_8 a_9 a_10 a_11 a_12 a_13 a_14 a_15 a_16 a_17 a_18 y16_0_29_247 y16_0_30_248 y16_0_31_249 i_16 i_17 i_18 a_19 i_19 a_20 i_20 i_21 i_22 i_23 i_24 i_25 i_26 i_27 i_28 i_29 i_30 i_31 i_32 i_33 i_34 i_35 i_36 i_37 i_38 i_39 i_40 i_41 i_42 i_43 i_44 i_45 i_46 i_47 i_48 i_49 f_0 f_1 f_2 f_3 f_4 f_5 z16_8_250 h0 (mm_wk h1 (by decide)) q254 ry16_0_29_247 h4 h5 h6 h7 (mm_wk q255 (by decide)) h9 h10 h11 h12 h13 h14 h15 h16 h17 h18 h19 h20 h21 h22 h23 h24 h25 h26 h27 h28 h29 h30 h31 h32 h33 h34 h35 h36 h37 h38 h39 rz16_8_250 h41 h42 h43 h44 h45 h46 h47 h48 h49) (cwV 3 hts (mm_gV mm_w852 mm_w853 mm_w854 mm_w5 mm_w855) rfl rfl rfl hd_X12_reads ⟨by rw [hRf]; exact Nat.le_of_ble_eq_true rfl, by rw [hRl]; exact Nat.le_of_ble_eq_true rfl⟩) (mm_preV hK hZ hS hA hP hD [0, 1, 2, 3, 4, 5, 6, 7, 8] rfl rfl 0 rfl rfl rfl) rfl rfl hl.1 rfl (lv_room (Nat.le_of_ble_eq_true rfl)) dX12_heirsOf_42 ⟨by rw [hRc]; exact Nat.le_of_ble_eq_true rfl, by rw [hRs]; exact Nat.le_of_ble_eq_true rfl⟩) hP hD hS hA (fun u : Int32 × Int32 × Int32 × (Nat → Int32) => [(a_0, .inr (12, [.int i_3, .ref a_1, .ref a_2, .ref a_3, .ref a_4, .ref a_5, .int i_4, .int i_5, .int i_6, .int i_7, .int i_8, .long j_0, .int i_9, .int i_10, .int i_11, .int i_12, .ref a_6, .ref a_7, .ref a_8, .ref a_9, .ref a_10, .ref a_11, .ref a_12, .ref a_13, .ref a_14, .ref a_15, .ref a_16, .ref a_17, .ref a_18, .int u.1, .int u.2.1, .int u.2.2.1, .int i_16, .int i_17, .int i_18, .ref a_19, .int i_19, .ref a_20])), (a_7, .inl (cy 1, 30, .inl (mm_g [i_20, i_21, i_22, i_23, i_24, i_25, i_26, i_27, i_28, i_29, i_30, i_31, i_32, i_33, i_34, i_35, i_36, i_37, i_38, i_39, i_40, i_41, i_42, i_43, i_44, i_45, i_46, i_47, i_48, i_49]))), (a_8, .inl (cy 1, 90, .inl f_0)), (a_11, .inl (cy 1, 30, .inl f_1)), (a_12, .inl (cy 1, 240, .inl f_2)), (a_13, .inl (cy 1, 450, .inl f_3)), (a_15, .inl (cy 1, 7200, .inl f_4)), (a_16, .inl (cy 1, 3, .inl f_5)), (a_18, .inl (cy 1, 8, .inl u.2.2.2))]) [0, 1, 2, 3, 4, 5, 6, 7, 8] [] (n := 9) (fun _ => rfl) (by decide +kernel) (by decide +kernel) rfl (fun _ => rfl) (wr := []) rfl (fun _ => rfl) (fun _ => @rfl _ ([a_0, a_7, a_8, a_11, a_12, a_13, a_15, a_16, a_18] : List Nat)) ?_
              clear hP hD hS
              clear H locs
              intro v266 u
              obtain ⟨n262, n263, n264, n265⟩ := u
              intro H locs hw (hP : va_P G vwCl [(a_0, .inr (12, [.int i_3, .ref a_1, .ref a_2, .ref a_3, .ref a_4, .ref a_5, .int i_4, .int i_5, .int i_6, .int i_7, .int i_8, .long j_0, .int i_9, .int i_10, .int i_11, .int i_12, .ref a_6, .ref a_7, .ref a_8, .ref a_9, .ref a_10, .ref a_11, .ref a_12, .ref a_13, .ref a_14, .ref a_15, .ref a_16, .ref a_17, .ref a_18, .int n262, .int n263, .int n264, .int i_16, .int i_17, .int i_18, .ref a_19, .int i_19, .ref a_20])), (a_7, .inl (cy 1, 30, .inl (mm_g [i_20, i_21, i_22, i_23, i_24, i_25, i_26, i_27, i_28, i_29, i_30, i_31, i_32, i_33, i_34, i_35, i_36, i_37, i_38, i_39, i_40, i_41, i_42, i_43, i_44, i_45, i_46, i_47, i_48, i_49]))), (a_8, .inl (cy 1, 90, .inl f_0)), (a_11, .inl (cy 1, 30, .inl f_1)), (a_12, .inl (cy 1, 240, .inl f_2)), (a_13, .inl (cy 1, 450, .inl f_3)), (a_15, .inl (cy 1, 7200, .inl f_4)), (a_16, .inl (cy 1, 3, .inl f_5)), (a_18, .inl (cy 1, 8, .inl n265))] H) (hD : va_D A [(a_0, .inr (12, [.int i_3, .ref a_1, .ref a_2, .ref a_3, .ref a_4, .ref a_5, .int i_4, .int i_5, .int i_6, .int i_7, .int i_8, .long j_0, .int i_9, .int i_10, .int i_11, .int i_12, .ref a_6, .ref a_7, .ref a_8, .ref a_9, .ref a_10, .ref a_11, .ref a_12, .ref a_13, .ref a_14, .ref a_15, .ref a_16, .ref a_17, .ref a_18, .int n262, .int n263, .int n264, .int i_16, .int i_17, .int i_18, .ref a_19, .int i_19, .ref a_20])), (a_7, .inl (cy 1, 30, .inl (mm_g [i_20, i_21, i_22, i_23, i_24, i_25, i_26, i_27, i_28, i_29, i_30, i_31, i_32, i_33, i_34, i_35, i_36, i_37, i_38, i_39, i_40, i_41, i_42, i_43, i_44, i_45, i_46, i_47, i_48, i_49]))), (a_8, .inl (cy 1, 90, .inl f_0)), (a_11, .inl (cy 1, 30, .inl f_1)), (a_12, .inl (cy 1, 240, .inl f_2)), (a_13, .inl (cy 1, 450, .inl f_3)), (a_15, .inl (cy 1, 7200, .inl f_4)), (a_16, .inl (cy 1, 3, .inl f_5)), (a_18, .inl (cy 1, 8, .inl n265))]) hS
              obtain ⟨w267, w268, hw⟩ := hw
              obtain ⟨w269, w270⟩ := hw
              replace w270 : mm_rd f_4 f_5 f_0 f_1 f_2 f_3 i_0 i_1 x16_5_245 i_21 i_22 i_25 v266 := w270
              refine lv_aload_n hx hb dX12_heirsOf_45 rfl (lv_at hl 2 rfl) ?_
              refine lv_iload_n hx hb dX12_heirsOf_46 rfl (lv_at hl 3 rfl) ?_
              refine lv_iload_n hx hb dX12_heirsOf_47 rfl (lv_at hl 4 rfl) ?_
              refine lv_iconst (v := 1) hx hb dX12_heirsOf_48 (by decide) ?_
              refine lv_iadd hx hb dX12_heirsOf_49 ?_
              refine lv_topi (fun v271 ev271 => ?_)
              have rv271 : mm_rg v271 1 1000000007 := mm_add ev271 h1 mm_k1 (by decide) (by decide)
              have tv271 := mm_addEc ev271 h1 mm_k1 (by decide) (k := 1) (by decide)
              refine lv_iload_n hx hb dX12_heirsOf_50 rfl (lv_at hl 5 rfl) ?_
              refine lv_iconst (v := 1) hx hb dX12_heirsOf_51 (by decide) ?_
              refine lv_iload hx hb dX12_heirsOf_52 (lv_at hl 0 rfl) ?_
              refine lv_ishl hx hb dX12_heirsOf_54 ?_
              refine lv_topi (fun v272 ev272 => ?_)
              have rv272 : mm_rg v272 1 32 := mm_shl1 ev272 q254 (by decide)
              refine lv_iconst (v := (-1)) hx hb dX12_heirsOf_55 (by decide) ?_
              refine lv_ixor hx hb dX12_heirsOf_56 ?_
              refine lv_topi (fun v273 ev273 => ?_)
              refine lv_iand hx hb dX12_heirsOf_57 ?_
              refine lv_topi (fun v274 ev274 => ?_)
              have rv274 : mm_rg v274 0 63 := mm_andL ev274 q2 (by decide)
              refine mm_finir (va_runV (As := [.int i_0, .int v271, .int v274]) (rest := [.int v266]) ⟨hx, hb, hml, hown, hts⟩ (M233_X12_heirsOf l G cy H.size a_0 i_0 v271 v274 i_3 a_1 a_2 a_3 a_4 a_5 i_4 i_5 i_6 i_7 i_8 j_0 i_9 i_10 i_11 i_12 a_6 a_7 a_8 a_9 a_10 a_11 a_12 a_13 a_14 a_15 a_16 a_17 a_18 n262 n263 n264 i_16 i_17 i_18 a_19 i_19 a_20 i_20 i_21 i_22 i_23 i_24 i_25 i_26 i_27 i_28 i_29 i_30 i_31 i_32 i_33 i_34 i_35 i_36 i_37 i_38 i_39 i_40 i_41 i_42 i_43 i_44 i_45 i_46 i_47 i_48 i_49 h0 (mm_wk rv271 (by decide)) rv274 h4 h5 h6 h7 (mm_wk q255 (by decide)) h9 h10 h11 h12 h13 h14 h15 h16 h17 h18 h19 h20 h21 h22 h23 h24 h25 h26 h27 h28 h29 h30 h31 h32 h33 (mm_pc_cut h50 w258 ev272 ev273 ev274 q2 q254 (by decide))) (cwV 3 hts (mm_gV mm_w1456 mm_w1457 mm_w1458 mm_w5 mm_w1459) rfl rfl rfl hd_X12_heirsOf ⟨by rw [hRf]; exact Nat.le_of_ble_eq_true rfl, by rw [hRl]; exact Nat.le_of_ble_eq_true rfl⟩) (mm_preV hK hZ hS hA hP hD [0, 1] rfl rfl 0 rfl rfl rfl) rfl rfl hl.1 rfl (lv_room (Nat.le_of_ble_eq_true rfl)) dX12_heirsOf_58 ⟨by rw [hRc]; exact Nat.le_of_ble_eq_true rfl, by rw [hRs]; exact Nat.le_of_ble_eq_true rfl⟩) hP hD hS hA [0, 1] rfl (fun _ => rfl) ?_
              clear hP hD hS
              clear H locs
              intro v275 _u H locs hw hP hD hS
              have w276 := hw
              refine lv_isub hx hb dX12_heirsOf_61 ?_
              refine lv_topi (fun v277 ev277 => ?_)
              have rv277 : mm_rg v277 0 1009999 := mm_sub ev277 w269 w276 (by decide) (by decide)
              have tv277 := mm_subE ev277 w269 w276 (by decide)
              refine lv_istore (lv' := [(6, .int v277), (5, .int x16_5_245), (4, .int x16_4_246), (0, .ref a_0), (1, .int i_0), (2, .int i_1), (3, .int i_2)]) hx hb dX12_heirsOf_62 hl (by decide) rfl ?_
              clear hl
              clear ls
              intro ls hl
              refine lv_iload hx hb dX12_heirsOf_64 (lv_at hl 0 rfl) ?_
              refine lv_iload hx hb dX12_heirsOf_66 (lv_at hl 2 rfl) ?_
              refine lv_icmp_le (tgt := 76) hx hb dX12_heirsOf_68 (by decide) (fun c278 => ?_) (fun c278 => ?_)
              · have q279 := mm_leR (mm_le c278) rv277 rx16_4_246
                refine lv_iload hx hb dX12_heirsOf_76 (lv_at hl 2 rfl) ?_
                refine lv_istore (lv' := [(4, .int x16_4_246), (6, .int v277), (5, .int x16_5_245), (0, .ref a_0), (1, .int i_0), (2, .int i_1), (3, .int i_2)]) hx hb dX12_heirsOf_78 hl (by decide) rfl ?_
                clear hl
                clear ls
                intro ls hl
                obtain ⟨v280, ev280⟩ : ∃ y : Int32, y = x16_5_245 + 1 := ⟨_, rfl⟩
                refine lv_iinc (v := v280) (lv' := [(5, .int v280), (4, .int x16_4_246), (6, .int v277), (0, .ref a_0), (1, .int i_0), (2, .int i_1), (3, .int i_2)]) hx hb dX12_heirsOf_80 hl (k := 2) rfl (by rw [ev280]; rfl) (by decide) rfl ?_
                clear hl
                clear ls
                intro ls hl
                have rv280 : mm_rg v280 1 6 := mm_add ev280 q254 mm_k1 (by decide) (by decide)
                have tv280 := mm_addEc ev280 q254 mm_k1 (by decide) (k := 1) (by decide)
                refine lv_goto (tgt := 16) hx hb dX12_heirsOf_83 (by decide) ?_
                exact ih16 v280 x16_4_246 n262 n263 n264 n265 (mm_wk rv280 (by decide)) (mm_wk q279 (by decide)) w267 w268 (mm_mu hm16 tv280 (by decide) (rv280).2 (by decide)) H locs hP hD hS ls (lv_sub hl [0, 1, 3, 4, 5, 6] rfl)
              · have q281 := mm_ltL (h := 1009998) (mm_nle c278) rx16_4_246 rv277 (by decide)
                refine lv_iload hx hb dX12_heirsOf_71 (lv_at hl 0 rfl) ?_
                refine lv_goto (tgt := 78) hx hb dX12_heirsOf_73 (by decide) ?_
                refine lv_istore (lv' := [(4, .int v277), (6, .int v277), (5, .int x16_5_245), (0, .ref a_0), (1, .int i_0), (2, .int i_1), (3, .int i_2)]) hx hb dX12_heirsOf_78 hl (by decide) rfl ?_
                clear hl
                clear ls
                intro ls hl
                obtain ⟨v282, ev282⟩ : ∃ y : Int32, y = x16_5_245 + 1 := ⟨_, rfl⟩
                refine lv_iinc (v := v282) (lv' := [(5, .int v282), (4, .int v277), (6, .int v277), (0, .ref a_0), (1, .int i_0), (2, .int i_1), (3, .int i_2)]) hx hb dX12_heirsOf_80 hl (k := 2) rfl (by rw [ev282]; rfl) (by decide) rfl ?_
                clear hl
                clear ls
                intro ls hl
                have rv282 : mm_rg v282 1 6 := mm_add ev282 q254 mm_k1 (by decide) (by decide)
                have tv282 := mm_addEc ev282 q254 mm_k1 (by decide) (k := 1) (by decide)
                refine lv_goto (tgt := 16) hx hb dX12_heirsOf_83 (by decide) ?_
                exact ih16 v282 v277 n262 n263 n264 n265 (mm_wk rv282 (by decide)) (mm_wk rv277 (by decide)) w267 w268 (mm_mu hm16 tv282 (by decide) (rv282).2 (by decide)) H locs hP hD hS ls (lv_sub hl [0, 1, 3, 4, 5, 6] rfl)
            · exact mm_eqN c261.symm mm_k0 mm_k1 (by decide)
    exact L16_250 _ 0 (-1000000) i_13 i_14 i_15 f_6 (mm_wk mm_k0 (by decide)) (mm_wk mm_km1000000 (by decide)) h3 h40 (Nat.lt_succ_self _) H locs hP hD hS ls (lv_sub hl [0, 1, 2, 3, 4, 5] rfl)
  · have q283 := mm_eqI (lo := 0) (hi := 0) c1 h2 mm_k0 (by decide)
    refine lv_iconst (v := 0) hx hb dX12_heirsOf_4 (by decide) ?_
    refine lv_goto (tgt := 11) hx hb dX12_heirsOf_5 (by decide) ?_
    refine lv_istore (lv' := [(4, .int 0), (0, .ref a_0), (1, .int i_0), (2, .int i_1), (3, .int i_2)]) hx hb dX12_heirsOf_11 hl (by decide) rfl ?_
    clear hl
    clear ls
    intro ls hl
    refine lv_iconst (v := 0) hx hb dX12_heirsOf_13 (by decide) ?_
    refine lv_istore (lv' := [(5, .int 0), (4, .int 0), (0, .ref a_0), (1, .int i_0), (2, .int i_1), (3, .int i_2)]) hx hb dX12_heirsOf_14 hl (by decide) rfl ?_
    clear hl
    clear ls
    intro ls hl
    have L16_355 : ∀ (n : Nat) (x16_5_355 : Int32), mm_rg x16_5_355 0 6 → (6 - x16_5_355.toInt).toNat < n → ∀ (H : Heap) (locs : List Loc), va_P G vwCl [(a_0, .inr (12, [.int i_3, .ref a_1, .ref a_2, .ref a_3, .ref a_4, .ref a_5, .int i_4, .int i_5, .int i_6, .int i_7, .int i_8, .long j_0, .int i_9, .int i_10, .int i_11, .int i_12, .ref a_6, .ref a_7, .ref a_8, .ref a_9, .ref a_10, .ref a_11, .ref a_12, .ref a_13, .ref a_14, .ref a_15, .ref a_16, .ref a_17, .ref a_18, .int i_13, .int i_14, .int i_15, .int i_16, .int i_17, .int i_18, .ref a_19, .int i_19, .ref a_20])), (a_7, .inl (cy 1, 30, .inl (mm_g [i_20, i_21, i_22, i_23, i_24, i_25, i_26, i_27, i_28, i_29, i_30, i_31, i_32, i_33, i_34, i_35, i_36, i_37, i_38, i_39, i_40, i_41, i_42, i_43, i_44, i_45, i_46, i_47, i_48, i_49]))), (a_8, .inl (cy 1, 90, .inl f_0)), (a_11, .inl (cy 1, 30, .inl f_1)), (a_12, .inl (cy 1, 240, .inl f_2)), (a_13, .inl (cy 1, 450, .inl f_3)), (a_15, .inl (cy 1, 7200, .inl f_4)), (a_16, .inl (cy 1, 3, .inl f_5)), (a_18, .inl (cy 1, 8, .inl f_6))] H → va_D A [(a_0, .inr (12, [.int i_3, .ref a_1, .ref a_2, .ref a_3, .ref a_4, .ref a_5, .int i_4, .int i_5, .int i_6, .int i_7, .int i_8, .long j_0, .int i_9, .int i_10, .int i_11, .int i_12, .ref a_6, .ref a_7, .ref a_8, .ref a_9, .ref a_10, .ref a_11, .ref a_12, .ref a_13, .ref a_14, .ref a_15, .ref a_16, .ref a_17, .ref a_18, .int i_13, .int i_14, .int i_15, .int i_16, .int i_17, .int i_18, .ref a_19, .int i_19, .ref a_20])), (a_7, .inl (cy 1, 30, .inl (mm_g [i_20, i_21, i_22, i_23, i_24, i_25, i_26, i_27, i_28, i_29, i_30, i_31, i_32, i_33, i_34, i_35, i_36, i_37, i_38, i_39, i_40, i_41, i_42, i_43, i_44, i_45, i_46, i_47, i_48, i_49]))), (a_8, .inl (cy 1, 90, .inl f_0)), (a_11, .inl (cy 1, 30, .inl f_1)), (a_12, .inl (cy 1, 240, .inl f_2)), (a_13, .inl (cy 1, 450, .inl f_3)), (a_15, .inl (cy 1, 7200, .inl f_4)), (a_16, .inl (cy 1, 3, .inl f_5)), (a_18, .inl (cy 1, 8, .inl f_6))] → va_S A s.heap H locs → ∀ (ls : Array Slot), lv_has ls 7 [(5, .int x16_5_355), (4, .int 0), (0, .ref a_0), (1, .int i_0), (2, .int i_1), (3, .int i_2)] → W p l e R s m args below meth c H locs 0 0 Q (F0 m 16 ls []) := by
      intro n
      induction n with
      | zero => intro x16_5_355 rx16_5_355 hm; exact absurd hm (Nat.not_lt_zero _)
      | succ n ih16 =>
        intro x16_5_355 rx16_5_355 hm16 H locs hP hD hS ls hl
        refine lv_iload hx hb dX12_heirsOf_16 (lv_at hl 0 rfl) ?_
        refine lv_aload_n hx hb dX12_heirsOf_18 rfl (lv_at hl 2 rfl) ?_
        refine mm_finir (va_runV (As := []) (rest := [.int x16_5_355]) ⟨hx, hb, hml, hown, hts⟩ (M95_X12_texts l G cy H.size a_0 i_3 a_1 a_2 a_3 a_4 a_5 i_4 i_5 i_6 i_7 i_8 j_0 i_9 i_10 i_11 i_12 a_6 a_7 a_8 a_9 a_10 a_11 a_12 a_13 a_14 a_15 a_16 a_17 a_18 i_13 i_14 i_15 i_16 i_17 i_18 a_19 i_19 a_20 i_20 i_21 i_22 i_23 i_24 i_25 i_26 i_27 i_28 i_29 i_30 i_31 i_32 i_33 i_34 i_35 i_36 i_37 i_38 i_39 i_40 i_41 i_42 i_43 i_44 i_45 i_46 i_47 i_48 i_49 h4 h5 h6 h7 h8 h9 h10 h11 h12 h13 h14 h15 h16 h17 h18 h19 h20 h21 h22 h23 h24 h25 h26 h27 h28 h29 h30 h31 h32 h33) (cwV 0 hts (mm_gV mm_w617 mm_w618 mm_w619 mm_w5 mm_w620) rfl rfl rfl hd_X12_texts ⟨by rw [hRf]; exact Nat.le_of_ble_eq_true rfl, by rw [hRl]; exact Nat.le_of_ble_eq_true rfl⟩) (mm_preV hK hZ hS hA hP hD [0, 1] rfl rfl 0 rfl rfl rfl) rfl rfl hl.1 rfl (lv_room (Nat.le_of_ble_eq_true rfl)) dX12_heirsOf_19 ⟨by rw [hRc]; exact Nat.le_of_ble_eq_true rfl, by rw [hRs]; exact Nat.le_of_ble_eq_true rfl⟩) hP hD hS hA [0, 1] rfl (fun _ => rfl) ?_
        clear hP hD hS
        clear H locs
        intro v357 _u H locs hw hP hD hS
        subst hw
        refine lv_icmp_ge (tgt := 86) hx hb dX12_heirsOf_22 (by decide) (fun c358 => ?_) (fun c358 => ?_)
        · refine lv_iload hx hb dX12_heirsOf_86 (lv_at hl 1 rfl) ?_
          subst hAe
          rw [hQ]
          exact W.iret (v := 0) hx hb hr (fun t ht hW => ⟨⟨0, (i_13, i_14, i_15, f_6), rfl, ⟨h3, h40, (mm_wk mm_k0 (by decide))⟩, by rw [ht]; exact hP, hK.warm hW, hD⟩, hS.F ht⟩) hS.2.2 dX12_heirsOf_88
        · have q359 := mm_ltL (h := 5) (mm_nle c358) rx16_5_355 h8 (by decide)
          have q360 := mm_ltR (lo := 1) (mm_nle c358) rx16_5_355 h8 (by decide)
          refine lv_iload_n hx hb dX12_heirsOf_25 rfl (lv_at hl 5 rfl) ?_
          refine lv_iload hx hb dX12_heirsOf_26 (lv_at hl 0 rfl) ?_
          refine mm_finir (va_runS (As := [.int i_2, .int x16_5_355]) (rest := []) ⟨hx, hb, hml, hown, hts⟩ (M232_X12_isBit l G cy H.size i_2 x16_5_355 (mm_wk q283 (by decide)) q359) (va_cwS 2 hts (mm_gS mm_w1461 mm_w1462 mm_w5 mm_w1463) rfl rfl rfl hs_X12_isBit ⟨by rw [hRf]; exact Nat.le_of_ble_eq_true rfl, by rw [hRl]; exact Nat.le_of_ble_eq_true rfl⟩) (mm_preS hK hZ hS hA hP hD [] rfl rfl) rfl rfl hl.1 rfl (lv_room (Nat.le_of_ble_eq_true rfl)) dX12_heirsOf_28 ⟨by rw [hRc]; exact Nat.le_of_ble_eq_true rfl, by rw [hRs]; exact Nat.le_of_ble_eq_true rfl⟩) hP hD hS hA [] rfl (fun _ => rfl) ?_
          clear hP hD hS
          clear H locs
          intro v361 _u H locs hw hP hD hS
          rcases hw with ⟨rfl, w362⟩ | ⟨rfl, w363⟩
          · refine lv_if_ne (tgt := 37) hx hb dX12_heirsOf_31 (by decide) (fun c364 => ?_) (fun c364 => ?_)
            · exact absurd rfl (mm_ne c364)
            · refine lv_goto (tgt := 80) hx hb dX12_heirsOf_34 (by decide) ?_
              obtain ⟨v365, ev365⟩ : ∃ y : Int32, y = x16_5_355 + 1 := ⟨_, rfl⟩
              refine lv_iinc (v := v365) (lv' := [(5, .int v365), (4, .int 0), (0, .ref a_0), (1, .int i_0), (2, .int i_1), (3, .int i_2)]) hx hb dX12_heirsOf_80 hl (k := 0) rfl (by rw [ev365]; rfl) (by decide) rfl ?_
              clear hl
              clear ls
              intro ls hl
              have rv365 : mm_rg v365 1 6 := mm_add ev365 q359 mm_k1 (by decide) (by decide)
              have tv365 := mm_addEc ev365 q359 mm_k1 (by decide) (k := 1) (by decide)
              refine lv_goto (tgt := 16) hx hb dX12_heirsOf_83 (by decide) ?_
              exact ih16 v365 (mm_wk rv365 (by decide)) (mm_mu hm16 tv365 (by decide) (rv365).2 (by decide)) H locs hP hD hS ls (lv_sub hl [0, 1, 2, 3, 4, 5] rfl)
          · exact mm_bit_no w363 q283 (by decide)
    exact L16_355 _ 0 (mm_wk mm_k0 (by decide)) (Nat.lt_succ_self _) H locs hP hD hS ls (lv_sub hl [0, 1, 2, 3, 4, 5] rfl)

