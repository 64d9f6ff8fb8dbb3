theorem dX12_alike_0 : decode cX12_alike 0 = .ok (.aload_n 0, 1) := by decide +kernel
theorem dX12_alike_1 : decode cX12_alike 1 = .ok (.iconst 0, 1) := by decide +kernel
theorem dX12_alike_2 : decode cX12_alike 2 = .ok (.putfield 77, 3) := by decide +kernel
theorem dX12_alike_5 : decode cX12_alike 5 = .ok (.aload_n 0, 1) := by decide +kernel
theorem dX12_alike_6 : decode cX12_alike 6 = .ok (.iload_n 1, 1) := by decide +kernel
theorem dX12_alike_7 : decode cX12_alike 7 = .ok (.invokevirtual 265, 3) := by decide +kernel
theorem dX12_alike_10 : decode cX12_alike 10 = .ok (.ifCond .eq 23, 3) := by decide +kernel
theorem dX12_alike_13 : decode cX12_alike 13 = .ok (.aload_n 0, 1) := by decide +kernel
theorem dX12_alike_14 : decode cX12_alike 14 = .ok (.iload_n 2, 1) := by decide +kernel
theorem dX12_alike_15 : decode cX12_alike 15 = .ok (.invokevirtual 265, 3) := by decide +kernel
theorem dX12_alike_18 : decode cX12_alike 18 = .ok (.ifCond .eq 15, 3) := by decide +kernel
theorem dX12_alike_21 : decode cX12_alike 21 = .ok (.iload_n 3, 1) := by decide +kernel
theorem dX12_alike_22 : decode cX12_alike 22 = .ok (.i2l, 1) := by decide +kernel
theorem dX12_alike_23 : decode cX12_alike 23 = .ok (.lconst 1, 1) := by decide +kernel
theorem dX12_alike_24 : decode cX12_alike 24 = .ok (.ldc2_w 373, 3) := by decide +kernel
theorem dX12_alike_27 : decode cX12_alike 27 = .ok (.invokestatic 82, 3) := by decide +kernel
theorem dX12_alike_30 : decode cX12_alike 30 = .ok (.ifCond .ne 6, 3) := by decide +kernel
theorem dX12_alike_33 : decode cX12_alike 33 = .ok (.bipush (-2), 2) := by decide +kernel
theorem dX12_alike_35 : decode cX12_alike 35 = .ok (.ireturn, 1) := by decide +kernel
theorem dX12_alike_36 : decode cX12_alike 36 = .ok (.aload_n 0, 1) := by decide +kernel
theorem dX12_alike_37 : decode cX12_alike 37 = .ok (.invokevirtual 326, 3) := by decide +kernel
theorem dX12_alike_40 : decode cX12_alike 40 = .ok (.iconst 0, 1) := by decide +kernel
theorem dX12_alike_41 : decode cX12_alike 41 = .ok (.istore 4, 2) := by decide +kernel
theorem dX12_alike_43 : decode cX12_alike 43 = .ok (.iconst 0, 1) := by decide +kernel
theorem dX12_alike_44 : decode cX12_alike 44 = .ok (.istore 5, 2) := by decide +kernel
theorem dX12_alike_46 : decode cX12_alike 46 = .ok (.iload 5, 2) := by decide +kernel
theorem dX12_alike_48 : decode cX12_alike 48 = .ok (.iload_n 3, 1) := by decide +kernel
theorem dX12_alike_49 : decode cX12_alike 49 = .ok (.if_icmp .ge 32, 3) := by decide +kernel
theorem dX12_alike_52 : decode cX12_alike 52 = .ok (.iload 4, 2) := by decide +kernel
theorem dX12_alike_54 : decode cX12_alike 54 = .ok (.aload_n 0, 1) := by decide +kernel
theorem dX12_alike_55 : decode cX12_alike 55 = .ok (.iload_n 1, 1) := by decide +kernel
theorem dX12_alike_56 : decode cX12_alike 56 = .ok (.iload 5, 2) := by decide +kernel
theorem dX12_alike_58 : decode cX12_alike 58 = .ok (.iload_n 2, 1) := by decide +kernel
theorem dX12_alike_59 : decode cX12_alike 59 = .ok (.iload 5, 2) := by decide +kernel
theorem dX12_alike_61 : decode cX12_alike 61 = .ok (.invokevirtual 366, 3) := by decide +kernel
theorem dX12_alike_64 : decode cX12_alike 64 = .ok (.ifCond .eq 7, 3) := by decide +kernel
theorem dX12_alike_67 : decode cX12_alike 67 = .ok (.iconst 1, 1) := by decide +kernel
theorem dX12_alike_68 : decode cX12_alike 68 = .ok (.goto 4, 3) := by decide +kernel
theorem dX12_alike_71 : decode cX12_alike 71 = .ok (.iconst 0, 1) := by decide +kernel
theorem dX12_alike_72 : decode cX12_alike 72 = .ok (.iadd, 1) := by decide +kernel
theorem dX12_alike_73 : decode cX12_alike 73 = .ok (.istore 4, 2) := by decide +kernel
theorem dX12_alike_75 : decode cX12_alike 75 = .ok (.iinc 5 1, 3) := by decide +kernel
theorem dX12_alike_78 : decode cX12_alike 78 = .ok (.goto (-32), 3) := by decide +kernel
theorem dX12_alike_81 : decode cX12_alike 81 = .ok (.iload 4, 2) := by decide +kernel
theorem dX12_alike_83 : decode cX12_alike 83 = .ok (.ireturn, 1) := by decide +kernel
theorem dX12_differs_0 : decode cX12_differs 0 = .ok (.aload_n 0, 1) := by decide +kernel
theorem dX12_differs_1 : decode cX12_differs 1 = .ok (.iconst 0, 1) := by decide +kernel
theorem dX12_differs_2 : decode cX12_differs 2 = .ok (.putfield 77, 3) := by decide +kernel
theorem dX12_differs_5 : decode cX12_differs 5 = .ok (.aload_n 0, 1) := by decide +kernel
theorem dX12_differs_6 : decode cX12_differs 6 = .ok (.iload_n 1, 1) := by decide +kernel
theorem dX12_differs_7 : decode cX12_differs 7 = .ok (.invokevirtual 265, 3) := by decide +kernel
theorem dX12_differs_10 : decode cX12_differs 10 = .ok (.ifCond .eq 11, 3) := by decide +kernel
theorem dX12_differs_13 : decode cX12_differs 13 = .ok (.aload_n 0, 1) := by decide +kernel
theorem dX12_differs_14 : decode cX12_differs 14 = .ok (.iload_n 2, 1) := by decide +kernel
theorem dX12_differs_15 : decode cX12_differs 15 = .ok (.invokevirtual 265, 3) := by decide +kernel
theorem dX12_differs_18 : decode cX12_differs 18 = .ok (.ifCond .ne 6, 3) := by decide +kernel
theorem dX12_differs_21 : decode cX12_differs 21 = .ok (.bipush (-2), 2) := by decide +kernel
theorem dX12_differs_23 : decode cX12_differs 23 = .ok (.ireturn, 1) := by decide +kernel
theorem dX12_differs_24 : decode cX12_differs 24 = .ok (.aload_n 0, 1) := by decide +kernel
theorem dX12_differs_25 : decode cX12_differs 25 = .ok (.iload_n 1, 1) := by decide +kernel
theorem dX12_differs_26 : decode cX12_differs 26 = .ok (.iload_n 2, 1) := by decide +kernel
theorem dX12_differs_27 : decode cX12_differs 27 = .ok (.invokevirtual 370, 3) := by decide +kernel
theorem dX12_differs_30 : decode cX12_differs 30 = .ok (.istore_n 3, 1) := by decide +kernel
theorem dX12_differs_31 : decode cX12_differs 31 = .ok (.iconst 0, 1) := by decide +kernel
theorem dX12_differs_32 : decode cX12_differs 32 = .ok (.istore 4, 2) := by decide +kernel
theorem dX12_differs_34 : decode cX12_differs 34 = .ok (.iload 4, 2) := by decide +kernel
theorem dX12_differs_36 : decode cX12_differs 36 = .ok (.aload_n 0, 1) := by decide +kernel
theorem dX12_differs_37 : decode cX12_differs 37 = .ok (.invokevirtual 257, 3) := by decide +kernel
theorem dX12_differs_40 : decode cX12_differs 40 = .ok (.if_icmp .ge 36, 3) := by decide +kernel
theorem dX12_differs_43 : decode cX12_differs 43 = .ok (.iload_n 3, 1) := by decide +kernel
theorem dX12_differs_44 : decode cX12_differs 44 = .ok (.iconst (-1), 1) := by decide +kernel
theorem dX12_differs_45 : decode cX12_differs 45 = .ok (.if_icmp .eq 31, 3) := by decide +kernel
theorem dX12_differs_48 : decode cX12_differs 48 = .ok (.aload_n 0, 1) := by decide +kernel
theorem dX12_differs_49 : decode cX12_differs 49 = .ok (.iload_n 1, 1) := by decide +kernel
theorem dX12_differs_50 : decode cX12_differs 50 = .ok (.iload_n 3, 1) := by decide +kernel
theorem dX12_differs_51 : decode cX12_differs 51 = .ok (.iload 4, 2) := by decide +kernel
theorem dX12_differs_53 : decode cX12_differs 53 = .ok (.invokevirtual 289, 3) := by decide +kernel
theorem dX12_differs_56 : decode cX12_differs 56 = .ok (.aload_n 0, 1) := by decide +kernel
theorem dX12_differs_57 : decode cX12_differs 57 = .ok (.iload_n 2, 1) := by decide +kernel
theorem dX12_differs_58 : decode cX12_differs 58 = .ok (.iload_n 3, 1) := by decide +kernel
theorem dX12_differs_59 : decode cX12_differs 59 = .ok (.iload 4, 2) := by decide +kernel
theorem dX12_differs_61 : decode cX12_differs 61 = .ok (.invokevirtual 289, 3) := by decide +kernel
theorem dX12_differs_64 : decode cX12_differs 64 = .ok (.if_icmp .eq 6, 3) := by decide +kernel
theorem dX12_differs_67 : decode cX12_differs 67 = .ok (.iload 4, 2) := by decide +kernel
theorem dX12_differs_69 : decode cX12_differs 69 = .ok (.ireturn, 1) := by decide +kernel
theorem dX12_differs_70 : decode cX12_differs 70 = .ok (.iinc 4 1, 3) := by decide +kernel
theorem dX12_differs_73 : decode cX12_differs 73 = .ok (.goto (-39), 3) := by decide +kernel
theorem dX12_differs_76 : decode cX12_differs 76 = .ok (.iconst (-1), 1) := by decide +kernel
theorem dX12_differs_77 : decode cX12_differs 77 = .ok (.ireturn, 1) := by decide +kernel
theorem dX12_isSlot_0 : decode cX12_isSlot 0 = .ok (.iload_n 0, 1) := by decide +kernel
theorem dX12_isSlot_1 : decode cX12_isSlot 1 = .ok (.i2l, 1) := by decide +kernel
theorem dX12_isSlot_2 : decode cX12_isSlot 2 = .ok (.lconst 0, 1) := by decide +kernel
theorem dX12_isSlot_3 : decode cX12_isSlot 3 = .ok (.ldc2_w 80, 3) := by decide +kernel
theorem dX12_isSlot_6 : decode cX12_isSlot 6 = .ok (.invokestatic 82, 3) := by decide +kernel
theorem dX12_isSlot_9 : decode cX12_isSlot 9 = .ok (.ireturn, 1) := by decide +kernel
theorem dX12_isSo_0 : decode cX12_isSo 0 = .ok (.iconst 0, 1) := by decide +kernel
theorem dX12_isSo_1 : decode cX12_isSo 1 = .ok (.istore 4, 2) := by decide +kernel
theorem dX12_isSo_3 : decode cX12_isSo 3 = .ok (.iload 4, 2) := by decide +kernel
theorem dX12_isSo_5 : decode cX12_isSo 5 = .ok (.aload_n 0, 1) := by decide +kernel
theorem dX12_isSo_6 : decode cX12_isSo 6 = .ok (.getfield 13, 3) := by decide +kernel
theorem dX12_isSo_9 : decode cX12_isSo 9 = .ok (.iload_n 1, 1) := by decide +kernel
theorem dX12_isSo_10 : decode cX12_isSo 10 = .ok (.iaload, 1) := by decide +kernel
theorem dX12_isSo_11 : decode cX12_isSo 11 = .ok (.if_icmp .ge 49, 3) := by decide +kernel
theorem dX12_isSo_14 : decode cX12_isSo 14 = .ok (.aload_n 0, 1) := by decide +kernel
theorem dX12_isSo_15 : decode cX12_isSo 15 = .ok (.iload_n 2, 1) := by decide +kernel
theorem dX12_isSo_16 : decode cX12_isSo 16 = .ok (.iload_n 3, 1) := by decide +kernel
theorem dX12_isSo_17 : decode cX12_isSo 17 = .ok (.aload_n 0, 1) := by decide +kernel
theorem dX12_isSo_18 : decode cX12_isSo 18 = .ok (.getfield 16, 3) := by decide +kernel
theorem dX12_isSo_21 : decode cX12_isSo 21 = .ok (.bipush 60, 2) := by decide +kernel
theorem dX12_isSo_23 : decode cX12_isSo 23 = .ok (.iload_n 1, 1) := by decide +kernel
theorem dX12_isSo_24 : decode cX12_isSo 24 = .ok (.imul, 1) := by decide +kernel
theorem dX12_isSo_25 : decode cX12_isSo 25 = .ok (.iload 4, 2) := by decide +kernel
theorem dX12_isSo_27 : decode cX12_isSo 27 = .ok (.iadd, 1) := by decide +kernel
theorem dX12_isSo_28 : decode cX12_isSo 28 = .ok (.laload, 1) := by decide +kernel
theorem dX12_isSo_29 : decode cX12_isSo 29 = .ok (.l2i, 1) := by decide +kernel
theorem dX12_isSo_30 : decode cX12_isSo 30 = .ok (.invokevirtual 338, 3) := by decide +kernel
theorem dX12_isSo_33 : decode cX12_isSo 33 = .ok (.i2l, 1) := by decide +kernel
theorem dX12_isSo_34 : decode cX12_isSo 34 = .ok (.aload_n 0, 1) := by decide +kernel
theorem dX12_isSo_35 : decode cX12_isSo 35 = .ok (.getfield 16, 3) := by decide +kernel
theorem dX12_isSo_38 : decode cX12_isSo 38 = .ok (.bipush 60, 2) := by decide +kernel
theorem dX12_isSo_40 : decode cX12_isSo 40 = .ok (.iload_n 1, 1) := by decide +kernel
theorem dX12_isSo_41 : decode cX12_isSo 41 = .ok (.imul, 1) := by decide +kernel
theorem dX12_isSo_42 : decode cX12_isSo 42 = .ok (.iload 4, 2) := by decide +kernel
theorem dX12_isSo_44 : decode cX12_isSo 44 = .ok (.iadd, 1) := by decide +kernel
theorem dX12_isSo_45 : decode cX12_isSo 45 = .ok (.iconst 1, 1) := by decide +kernel
theorem dX12_isSo_46 : decode cX12_isSo 46 = .ok (.iadd, 1) := by decide +kernel
theorem dX12_isSo_47 : decode cX12_isSo 47 = .ok (.laload, 1) := by decide +kernel
theorem dX12_isSo_48 : decode cX12_isSo 48 = .ok (.lcmp, 1) := by decide +kernel
theorem dX12_isSo_49 : decode cX12_isSo 49 = .ok (.ifCond .eq 5, 3) := by decide +kernel
theorem dX12_isSo_52 : decode cX12_isSo 52 = .ok (.iconst 0, 1) := by decide +kernel
theorem dX12_isSo_53 : decode cX12_isSo 53 = .ok (.ireturn, 1) := by decide +kernel
theorem dX12_isSo_54 : decode cX12_isSo 54 = .ok (.iinc 4 2, 3) := by decide +kernel
theorem dX12_isSo_57 : decode cX12_isSo 57 = .ok (.goto (-54), 3) := by decide +kernel
theorem dX12_isSo_60 : decode cX12_isSo 60 = .ok (.iconst 1, 1) := by decide +kernel
theorem dX12_isSo_61 : decode cX12_isSo 61 = .ok (.ireturn, 1) := by decide +kernel
theorem dX12_whyNot_0 : decode cX12_whyNot 0 = .ok (.iload_n 1, 1) := by decide +kernel
theorem dX12_whyNot_1 : decode cX12_whyNot 1 = .ok (.invokestatic 86, 3) := by decide +kernel
theorem dX12_whyNot_4 : decode cX12_whyNot 4 = .ok (.ifCond .eq 7, 3) := by decide +kernel
theorem dX12_whyNot_7 : decode cX12_whyNot 7 = .ok (.iload_n 2, 1) := by decide +kernel
theorem dX12_whyNot_8 : decode cX12_whyNot 8 = .ok (.ifCond .ne 6, 3) := by decide +kernel
theorem dX12_whyNot_11 : decode cX12_whyNot 11 = .ok (.bipush (-2), 2) := by decide +kernel
theorem dX12_whyNot_13 : decode cX12_whyNot 13 = .ok (.ireturn, 1) := by decide +kernel
theorem dX12_whyNot_14 : decode cX12_whyNot 14 = .ok (.aload_n 0, 1) := by decide +kernel
theorem dX12_whyNot_15 : decode cX12_whyNot 15 = .ok (.getfield 7, 3) := by decide +kernel
theorem dX12_whyNot_18 : decode cX12_whyNot 18 = .ok (.iload_n 1, 1) := by decide +kernel
theorem dX12_whyNot_19 : decode cX12_whyNot 19 = .ok (.iaload, 1) := by decide +kernel
theorem dX12_whyNot_20 : decode cX12_whyNot 20 = .ok (.iconst (-1), 1) := by decide +kernel
theorem dX12_whyNot_21 : decode cX12_whyNot 21 = .ok (.if_icmp .ne 6, 3) := by decide +kernel
theorem dX12_whyNot_24 : decode cX12_whyNot 24 = .ok (.bipush (-6), 2) := by decide +kernel
theorem dX12_whyNot_26 : decode cX12_whyNot 26 = .ok (.ireturn, 1) := by decide +kernel
theorem dX12_whyNot_27 : decode cX12_whyNot 27 = .ok (.aload_n 0, 1) := by decide +kernel
theorem dX12_whyNot_28 : decode cX12_whyNot 28 = .ok (.getfield 13, 3) := by decide +kernel
theorem dX12_whyNot_31 : decode cX12_whyNot 31 = .ok (.iload_n 1, 1) := by decide +kernel
theorem dX12_whyNot_32 : decode cX12_whyNot 32 = .ok (.iaload, 1) := by decide +kernel
theorem dX12_whyNot_33 : decode cX12_whyNot 33 = .ok (.iconst 2, 1) := by decide +kernel
theorem dX12_whyNot_34 : decode cX12_whyNot 34 = .ok (.irem, 1) := by decide +kernel
theorem dX12_whyNot_35 : decode cX12_whyNot 35 = .ok (.ifCond .eq 6, 3) := by decide +kernel
theorem dX12_whyNot_38 : decode cX12_whyNot 38 = .ok (.bipush (-2), 2) := by decide +kernel
theorem dX12_whyNot_40 : decode cX12_whyNot 40 = .ok (.ireturn, 1) := by decide +kernel
theorem dX12_whyNot_41 : decode cX12_whyNot 41 = .ok (.iconst 0, 1) := by decide +kernel
theorem dX12_whyNot_42 : decode cX12_whyNot 42 = .ok (.istore_n 3, 1) := by decide +kernel
theorem dX12_whyNot_43 : decode cX12_whyNot 43 = .ok (.iload_n 3, 1) := by decide +kernel
theorem dX12_whyNot_44 : decode cX12_whyNot 44 = .ok (.aload_n 0, 1) := by decide +kernel
theorem dX12_whyNot_45 : decode cX12_whyNot 45 = .ok (.getfield 13, 3) := by decide +kernel
theorem dX12_whyNot_48 : decode cX12_whyNot 48 = .ok (.iload_n 1, 1) := by decide +kernel
theorem dX12_whyNot_49 : decode cX12_whyNot 49 = .ok (.iaload, 1) := by decide +kernel
theorem dX12_whyNot_50 : decode cX12_whyNot 50 = .ok (.if_icmp .ge 49, 3) := by decide +kernel
theorem dX12_whyNot_53 : decode cX12_whyNot 53 = .ok (.aload_n 0, 1) := by decide +kernel
theorem dX12_whyNot_54 : decode cX12_whyNot 54 = .ok (.aload_n 0, 1) := by decide +kernel
theorem dX12_whyNot_55 : decode cX12_whyNot 55 = .ok (.getfield 16, 3) := by decide +kernel
theorem dX12_whyNot_58 : decode cX12_whyNot 58 = .ok (.bipush 60, 2) := by decide +kernel
theorem dX12_whyNot_60 : decode cX12_whyNot 60 = .ok (.iload_n 1, 1) := by decide +kernel
theorem dX12_whyNot_61 : decode cX12_whyNot 61 = .ok (.imul, 1) := by decide +kernel
theorem dX12_whyNot_62 : decode cX12_whyNot 62 = .ok (.iload_n 3, 1) := by decide +kernel
theorem dX12_whyNot_63 : decode cX12_whyNot 63 = .ok (.iadd, 1) := by decide +kernel
theorem dX12_whyNot_64 : decode cX12_whyNot 64 = .ok (.laload, 1) := by decide +kernel
theorem dX12_whyNot_65 : decode cX12_whyNot 65 = .ok (.invokevirtual 317, 3) := by decide +kernel
theorem dX12_whyNot_68 : decode cX12_whyNot 68 = .ok (.ifCond .eq 22, 3) := by decide +kernel
theorem dX12_whyNot_71 : decode cX12_whyNot 71 = .ok (.aload_n 0, 1) := by decide +kernel
theorem dX12_whyNot_72 : decode cX12_whyNot 72 = .ok (.getfield 16, 3) := by decide +kernel
theorem dX12_whyNot_75 : decode cX12_whyNot 75 = .ok (.bipush 60, 2) := by decide +kernel
theorem dX12_whyNot_77 : decode cX12_whyNot 77 = .ok (.iload_n 1, 1) := by decide +kernel
theorem dX12_whyNot_78 : decode cX12_whyNot 78 = .ok (.imul, 1) := by decide +kernel
theorem dX12_whyNot_79 : decode cX12_whyNot 79 = .ok (.iload_n 3, 1) := by decide +kernel
theorem dX12_whyNot_80 : decode cX12_whyNot 80 = .ok (.iadd, 1) := by decide +kernel
theorem dX12_whyNot_81 : decode cX12_whyNot 81 = .ok (.iconst 1, 1) := by decide +kernel
theorem dX12_whyNot_82 : decode cX12_whyNot 82 = .ok (.iadd, 1) := by decide +kernel
theorem dX12_whyNot_83 : decode cX12_whyNot 83 = .ok (.laload, 1) := by decide +kernel
theorem dX12_whyNot_84 : decode cX12_whyNot 84 = .ok (.invokestatic 341, 3) := by decide +kernel
theorem dX12_whyNot_87 : decode cX12_whyNot 87 = .ok (.ifCond .ne 6, 3) := by decide +kernel
theorem dX12_whyNot_90 : decode cX12_whyNot 90 = .ok (.bipush (-2), 2) := by decide +kernel
theorem dX12_whyNot_92 : decode cX12_whyNot 92 = .ok (.ireturn, 1) := by decide +kernel
theorem dX12_whyNot_93 : decode cX12_whyNot 93 = .ok (.iinc 3 2, 3) := by decide +kernel
theorem dX12_whyNot_96 : decode cX12_whyNot 96 = .ok (.goto (-53), 3) := by decide +kernel
theorem dX12_whyNot_99 : decode cX12_whyNot 99 = .ok (.iconst 0, 1) := by decide +kernel
theorem dX12_whyNot_100 : decode cX12_whyNot 100 = .ok (.ireturn, 1) := by decide +kernel
theorem mm_kl10000 : mm_rl 10000 10000 10000 := ⟨by decide, by decide⟩
theorem mm_kl3 : mm_rl 3 3 3 := ⟨by decide, by decide⟩
theorem hs_X12_isSlot : yX12_isSlot.cls ≠ "java/lang/invoke/MethodHandle" ∧ yX12_isSlot.cls ≠ "java/lang/invoke/VarHandle" ∧ (parseMethodDescriptor yX12_isSlot.desc).map (fun d => d.parameters.length) = some 1 := by decide +kernel
set_option maxHeartbeats 4000000 in
set_option maxRecDepth 100000 in
theorem M195_X12_differs (l : Launch) (G : va_G) (cy : Nat → ClassId) (sz : Nat) (a_0 : Nat) (i_0 : Int32) (i_1 : Int32) (i_2 : Int32) (a_1 : Nat) (a_2 : Nat) (a_3 : Nat) (a_4 : Nat) (a_5 : Nat) (i_3 : Int32) (i_4 : Int32) (i_5 : Int32) (i_6 : Int32) (i_7 : Int32) (j_0 : Int64) (i_8 : Int32) (i_9 : Int32) (i_10 : Int32) (i_11 : Int32) (a_6 : Nat) (a_7 : Nat) (a_8 : Nat) (a_9 : Nat) (a_10 : Nat) (a_11 : Nat) (a_12 : Nat) (a_13 : Nat) (a_14 : Nat) (a_15 : Nat) (a_16 : Nat) (a_17 : Nat) (a_18 : Nat) (i_12 : Int32) (i_13 : Int32) (i_14 : Int32) (i_15 : Int32) (i_16 : Int32) (i_17 : Int32) (a_19 : Nat) (i_18 : Int32) (a_20 : Nat) (i_19 : Int32) (i_20 : Int32) (i_21 : Int32) (i_22 : Int32) (i_23 : Int32) (i_24 : Int32) (i_25 : Int32) (i_26 : Int32) (i_27 : Int32) (i_28 : Int32) (i_29 : Int32) (i_30 : Int32) (i_31 : Int32) (i_32 : Int32) (i_33 : Int32) (i_34 : Int32) (i_35 : Int32) (i_36 : Int32) (i_37 : Int32) (i_38 : Int32) (i_39 : Int32) (i_40 : Int32) (i_41 : Int32) (i_42 : Int32) (i_43 : Int32) (i_44 : Int32) (i_45 : Int32) (i_46 : Int32) (i_47 : Int32) (i_48 : Int32) (i_49 : Int32) (i_50 : Int32) (i_51 : Int32) (i_52 : Int32) (i_53 : Int32) (f_0 : Nat → Int32) (f_1 : Nat → Int32) (f_2 : Nat → Int32) (f_3 : Nat → Int32) (f_4 : Nat → Int32) (f_5 : Nat → Int32) (h0 : mm_rg i_19 0 601) (h1 : mm_rg i_20 0 601) (h2 : mm_rg i_21 0 601) (h3 : mm_rg i_22 0 601) (h4 : mm_rg i_23 0 601) (h5 : mm_rg i_24 0 10) (h6 : mm_rg i_25 0 99) (h7 : mm_rg i_26 0 9) (h8 : mm_rg i_27 0 3) (h9 : mm_rg i_28 0 6) (h10 : mm_rg i_29 0 30) (h11 : mm_rg i_30 0 10) (h12 : mm_rg i_31 0 99) (h13 : mm_rg i_32 0 9) (h14 : mm_rg i_33 0 3) (h15 : mm_rg i_34 0 6) (h16 : mm_rg i_35 0 30) (h17 : mm_rg i_36 0 10) (h18 : mm_rg i_37 0 99) (h19 : mm_rg i_38 0 9) (h20 : mm_rg i_39 0 3) (h21 : mm_rg i_40 0 6) (h22 : mm_rg i_41 0 30) (h23 : mm_rg i_42 0 10) (h24 : mm_rg i_43 0 99) (h25 : mm_rg i_44 0 9) (h26 : mm_rg i_45 0 3) (h27 : mm_rg i_46 0 6) (h28 : mm_rg i_47 0 30) (h29 : mm_rg i_48 0 10) (h30 : mm_rg i_49 0 99) (h31 : mm_rg i_50 0 9) (h32 : mm_rg i_51 0 3) (h33 : mm_rg i_52 0 6) (h34 : mm_rg i_53 0 30) (h35 : mm_ar f_0 0 7) (h36 : mm_ar f_1 0 9) (h37 : mm_ar f_2 (-1) 99) (h38 : mm_ar f_3 0 9) (h39 : mm_ar f_4 0 210) (h40 : mm_ar f_5 0 210) (h41 : mm_rls f_0 f_1 0 i_26 i_27) (h42 : mm_acs f_2 0 i_26 i_27 i_29) (h43 : mm_tl i_19 i_27 i_28) (h44 : mm_rls f_0 f_1 1 i_32 i_33) (h45 : mm_acs f_2 1 i_32 i_33 i_35) (h46 : mm_tl i_20 i_33 i_34) (h47 : mm_rls f_0 f_1 2 i_38 i_39) (h48 : mm_acs f_2 2 i_38 i_39 i_41) (h49 : mm_tl i_21 i_39 i_40) (h50 : mm_rls f_0 f_1 3 i_44 i_45) (h51 : mm_acs f_2 3 i_44 i_45 i_47) (h52 : mm_tl i_22 i_45 i_46)  : mm_CI l yX12_differs (mm_ws yX12_differs cX12_differs 5 (some .int)) ({ frames := 15, cells := 0, slots := 0, locals := 323 } : Room) G cy sz [(a_0, .inr (12, [.int i_2, .ref a_1, .ref a_2, .ref a_3, .ref a_4, .ref a_5, .int i_3, .int i_4, .int i_5, .int i_6, .int i_7, .long j_0, .int i_8, .int i_9, .int i_10, .int i_11, .ref a_6, .ref a_7, .ref a_8, .ref a_9, .ref a_10, .ref a_11, .ref a_12, .ref a_13, .ref a_14, .ref a_15, .ref a_16, .ref a_17, .ref a_18, .int i_12, .int i_13, .int i_14, .int i_15, .int i_16, .int i_17, .ref a_19, .int i_18, .ref a_20])), (a_6, .inl (cy 1, 5, .inl (mm_g [i_19, i_20, i_21, i_22, i_23]))), (a_7, .inl (cy 1, 30, .inl (mm_g [i_24, i_25, i_26, i_27, i_28, i_29, i_30, i_31, i_32, i_33, i_34, i_35, i_36, i_37, i_38, i_39, i_40, i_41, i_42, i_43, i_44, i_45, i_46, i_47, i_48, i_49, i_50, i_51, i_52, i_53]))), (a_9, .inl (cy 1, 15, .inl f_0)), (a_10, .inl (cy 1, 1050, .inl f_1)), (a_13, .inl (cy 1, 450, .inl f_2)), (a_15, .inl (cy 1, 7200, .inl f_3)), (a_16, .inl (cy 1, 3, .inl f_4)), (a_17, .inl (cy 1, 3, .inl f_5))] [.ref a_0, .int i_0, .int i_1] (fun u : (Nat → Int32) × (Nat → Int32) × (Nat → Int32) => [(a_0, .inr (12, [.int 0, .ref a_1, .ref a_2, .ref a_3, .ref a_4, .ref a_5, .int i_3, .int i_4, .int i_5, .int i_6, .int i_7, .long j_0, .int i_8, .int i_9, .int i_10, .int i_11, .ref a_6, .ref a_7, .ref a_8, .ref a_9, .ref a_10, .ref a_11, .ref a_12, .ref a_13, .ref a_14, .ref a_15, .ref a_16, .ref a_17, .ref a_18, .int i_12, .int i_13, .int i_14, .int i_15, .int i_16, .int i_17, .ref a_19, .int i_18, .ref a_20])), (a_6, .inl (cy 1, 5, .inl (mm_g [i_19, i_20, i_21, i_22, i_23]))), (a_7, .inl (cy 1, 30, .inl (mm_g [i_24, i_25, i_26, i_27, i_28, i_29, i_30, i_31, i_32, i_33, i_34, i_35, i_36, i_37, i_38, i_39, i_40, i_41, i_42, i_43, i_44, i_45, i_46, i_47, i_48, i_49, i_50, i_51, i_52, i_53]))), (a_9, .inl (cy 1, 15, .inl f_0)), (a_10, .inl (cy 1, 1050, .inl f_1)), (a_13, .inl (cy 1, 450, .inl f_2)), (a_15, .inl (cy 1, 7200, .inl u.1)), (a_16, .inl (cy 1, 3, .inl u.2.1)), (a_17, .inl (cy 1, 3, .inl u.2.2))]) (fun (r : Int32) (u : (Nat → Int32) × (Nat → Int32) × (Nat → Int32)) => mm_ar u.1 0 9 ∧ mm_ar u.2.1 0 210 ∧ mm_ar u.2.2 0 210 ∧ mm_rg r (-2) 9) 0 0 := by
  refine mm_begin (lv := [(0, .ref a_0), (1, .int i_0), (2, .int i_1)]) (by decide) (Nat.le_of_ble_eq_true rfl) rfl ?_
  intro p e s m below meth c A ls R args Q H locs hRe hQ hAe hx hb hr hlocks hml hown hnm hts hsz hA hS hP hK hD hZ hl
  have hRf : R.frames = 15 := by rw [hRe]
  have hRl : R.locals = 323 := by rw [hRe]
  have hRc : R.cells = 0 := by rw [hRe]
  have hRs : R.slots = 0 := by rw [hRe]
  refine lv_aload_n hx hb dX12_differs_0 rfl (lv_at hl 0 rfl) ?_
  refine lv_iconst (v := 0) hx hb dX12_differs_1 (by decide) ?_
  refine va_put (D := G) (ci := 12) (v := .int 0) (ty := tyX12 0) (C := RX12) (T := TX12) (N := 38) hx hb hts (mm_i inlX12) tyX12 tyX12_ok nmX12 hown hK.1 hP hD hS 0 rfl rfl 0 (by decide) (mm_h hts mm_w177) (fun _ h9 => h9) rfl (tyX12_ok 0 (by decide)) rfl rfl (Nat.le_of_ble_eq_true rfl) dX12_differs_2 ?_
  clear hP hD hS
  clear H locs
  intro H locs (hP : va_P G vwCl [(a_0, .inr (12, [.int 0, .ref a_1, .ref a_2, .ref a_3, .ref a_4, .ref a_5, .int i_3, .int i_4, .int i_5, .int i_6, .int i_7, .long j_0, .int i_8, .int i_9, .int i_10, .int i_11, .ref a_6, .ref a_7, .ref a_8, .ref a_9, .ref a_10, .ref a_11, .ref a_12, .ref a_13, .ref a_14, .ref a_15, .ref a_16, .ref a_17, .ref a_18, .int i_12, .int i_13, .int i_14, .int i_15, .int i_16, .int i_17, .ref a_19, .int i_18, .ref a_20])), (a_6, .inl (cy 1, 5, .inl (mm_g [i_19, i_20, i_21, i_22, i_23]))), (a_7, .inl (cy 1, 30, .inl (mm_g [i_24, i_25, i_26, i_27, i_28, i_29, i_30, i_31, i_32, i_33, i_34, i_35, i_36, i_37, i_38, i_39, i_40, i_41, i_42, i_43, i_44, i_45, i_46, i_47, i_48, i_49, i_50, i_51, i_52, i_53]))), (a_9, .inl (cy 1, 15, .inl f_0)), (a_10, .inl (cy 1, 1050, .inl f_1)), (a_13, .inl (cy 1, 450, .inl f_2)), (a_15, .inl (cy 1, 7200, .inl f_3)), (a_16, .inl (cy 1, 3, .inl f_4)), (a_17, .inl (cy 1, 3, .inl f_5))] H) (hD : va_D A [(a_0, .inr (12, [.int 0, .ref a_1, .ref a_2, .ref a_3, .ref a_4, .ref a_5, .int i_3, .int i_4, .int i_5, .int i_6, .int i_7, .long j_0, .int i_8, .int i_9, .int i_10, .int i_11, .ref a_6, .ref a_7, .ref a_8, .ref a_9, .ref a_10, .ref a_11, .ref a_12, .ref a_13, .ref a_14, .ref a_15, .ref a_16, .ref a_17, .ref a_18, .int i_12, .int i_13, .int i_14, .int i_15, .int i_16, .int i_17, .ref a_19, .int i_18, .ref a_20])), (a_6, .inl (cy 1, 5, .inl (mm_g [i_19, i_20, i_21, i_22, i_23]))), (a_7, .inl (cy 1, 30, .inl (mm_g [i_24, i_25, i_26, i_27, i_28, i_29, i_30, i_31, i_32, i_33, i_34, i_35, i_36, i_37, i_38, i_39, i_40, i_41, i_42, i_43, i_44, i_45, i_46, i_47, i_48, i_49, i_50, i_51, i_52, i_53]))), (a_9, .inl (cy 1, 15, .inl f_0)), (a_10, .inl (cy 1, 1050, .inl f_1)), (a_13, .inl (cy 1, 450, .inl f_2)), (a_15, .inl (cy 1, 7200, .inl f_3)), (a_16, .inl (cy 1, 3, .inl f_4)), (a_17, .inl (cy 1, 3, .inl f_5))]) hS
  refine lv_aload_n hx hb dX12_differs_5 rfl (lv_at hl 0 rfl) ?_
  refine lv_iload_n hx hb dX12_differs_6 rfl (lv_at hl 1 rfl) ?_
  refine mm_finir (va_runV (As := [.int i_0]) (rest := []) ⟨hx, hb, hml, hown, hts⟩ (M98_X12_isLand l G cy H.size a_0 i_0 0 a_1 a_2 a_3 a_4 a_5 i_3 i_4 i_5 i_6 i_7 j_0 i_8 i_9 i_10 i_11 a_6 a_7 a_8 a_9 a_10 a_11 a_12 a_13 a_14 a_15 a_16 a_17 a_18 i_12 i_13 i_14 i_15 i_16 i_17 a_19 i_18 a_20 i_24 i_25 i_26 i_27 i_28 i_29 i_30 i_31 i_32 i_33 i_34 i_35 i_36 i_37 i_38 i_39 i_40 i_41 i_42 i_43 i_44 i_45 i_46 i_47 i_48 i_49 i_50 i_51 i_52 i_53 h5 h6 h7 h8 h9 h10 h11 h12 h13 h14 h15 h16 h17 h18 h19 h20 h21 h22 h23 h24 h25 h26 h27 h28 h29 h30 h31 h32 h33 h34) (cwV 1 hts (mm_gV mm_w641 mm_w642 mm_w643 mm_w5 mm_w644) rfl rfl rfl hd_X12_isLand ⟨by rw [hRf]; exact Nat.le_of_ble_eq_true rfl, by rw [hRl]; exact Nat.le_of_ble_eq_true rfl⟩) (mm_preV hK hZ hS hA hP hD [0, 2] rfl rfl 0 rfl rfl rfl) rfl rfl hl.1 rfl (lv_room (Nat.le_of_ble_eq_true rfl)) dX12_differs_7 ⟨by rw [hRc]; exact Nat.le_of_ble_eq_true rfl, by rw [hRs]; exact Nat.le_of_ble_eq_true rfl⟩) hP hD hS hA [0, 2] rfl (fun _ => rfl) ?_
  clear hP hD hS
  clear H locs
  intro v1 _u H locs hw hP hD hS
  rcases hw with rfl | ⟨rfl, w2, w3⟩
  · refine lv_if_eq (tgt := 21) hx hb dX12_differs_10 (by decide) (fun c4 => ?_) (fun c4 => ?_)
    · refine lv_bipush (v := (-2)) hx hb dX12_differs_21 (by decide) ?_
      subst hAe
      rw [hQ]
      exact W.iret (v := (-2)) hx hb hr (fun t ht hW => ⟨⟨(-2), (f_3, f_4, f_5), rfl, ⟨h38, h39, h40, (mm_wk mm_km2 (by decide))⟩, by rw [ht]; exact hP, hK.warm hW, hD⟩, hS.F ht⟩) hS.2.2 dX12_differs_23
    · have q5 := mm_neL (lo := 1) (mm_ne c4) mm_k0 mm_k0 (by decide) (by decide)
      exact mm_no q5 (by decide)
  · have q6 := mm_ltR (lo := 1) w3 w2 h8 (by decide)
    have q7 : mm_rg i_19 1 601 := mm_tl_3 h43 q6 h0 (by decide)
    refine lv_if_eq (tgt := 21) hx hb dX12_differs_10 (by decide) (fun c8 => ?_) (fun c8 => ?_)
    · exact mm_eqN c8.symm mm_k0 mm_k1 (by decide)
    · refine lv_aload_n hx hb dX12_differs_13 rfl (lv_at hl 0 rfl) ?_
      refine lv_iload_n hx hb dX12_differs_14 rfl (lv_at hl 2 rfl) ?_
      refine mm_finir (va_runV (As := [.int i_1]) (rest := []) ⟨hx, hb, hml, hown, hts⟩ (M98_X12_isLand l G cy H.size a_0 i_1 0 a_1 a_2 a_3 a_4 a_5 i_3 i_4 i_5 i_6 i_7 j_0 i_8 i_9 i_10 i_11 a_6 a_7 a_8 a_9 a_10 a_11 a_12 a_13 a_14 a_15 a_16 a_17 a_18 i_12 i_13 i_14 i_15 i_16 i_17 a_19 i_18 a_20 i_24 i_25 i_26 i_27 i_28 i_29 i_30 i_31 i_32 i_33 i_34 i_35 i_36 i_37 i_38 i_39 i_40 i_41 i_42 i_43 i_44 i_45 i_46 i_47 i_48 i_49 i_50 i_51 i_52 i_53 h5 h6 h7 (mm_wk q6 (by decide)) h9 h10 h11 h12 h13 h14 h15 h16 h17 h18 h19 h20 h21 h22 h23 h24 h25 h26 h27 h28 h29 h30 h31 h32 h33 h34) (cwV 1 hts (mm_gV mm_w641 mm_w642 mm_w643 mm_w5 mm_w644) rfl rfl rfl hd_X12_isLand ⟨by rw [hRf]; exact Nat.le_of_ble_eq_true rfl, by rw [hRl]; exact Nat.le_of_ble_eq_true rfl⟩) (mm_preV hK hZ hS hA hP hD [0, 2] rfl rfl 0 rfl rfl rfl) rfl rfl hl.1 rfl (lv_room (Nat.le_of_ble_eq_true rfl)) dX12_differs_15 ⟨by rw [hRc]; exact Nat.le_of_ble_eq_true rfl, by rw [hRs]; exact Nat.le_of_ble_eq_true rfl⟩) hP hD hS hA [0, 2] rfl (fun _ => rfl) ?_
      clear hP hD hS
      clear H locs
      intro v9 _u H locs hw hP hD hS
      rcases hw with rfl | ⟨rfl, w10, w11⟩
      · refine lv_if_ne (tgt := 24) hx hb dX12_differs_18 (by decide) (fun c12 => ?_) (fun c12 => ?_)
        · have q13 := mm_neL (lo := 1) (mm_ne c12) mm_k0 mm_k0 (by decide) (by decide)
          exact mm_no q13 (by decide)
        · refine lv_bipush (v := (-2)) hx hb dX12_differs_21 (by decide) ?_
          subst hAe
          rw [hQ]
          exact W.iret (v := (-2)) hx hb hr (fun t ht hW => ⟨⟨(-2), (f_3, f_4, f_5), rfl, ⟨h38, h39, h40, (mm_wk mm_km2 (by decide))⟩, by rw [ht]; exact hP, hK.warm hW, hD⟩, hS.F ht⟩) hS.2.2 dX12_differs_23
      · refine lv_if_ne (tgt := 24) hx hb dX12_differs_18 (by decide) (fun c14 => ?_) (fun c14 => ?_)
        · refine lv_aload_n hx hb dX12_differs_24 rfl (lv_at hl 0 rfl) ?_
          refine lv_iload_n hx hb dX12_differs_25 rfl (lv_at hl 1 rfl) ?_
          refine lv_iload_n hx hb dX12_differs_26 rfl (lv_at hl 2 rfl) ?_
          refine mm_fini (va_runV (As := [.int i_0, .int i_1]) (rest := []) ⟨hx, hb, hml, hown, hts⟩ (M193_X12_differOf l G cy H.size a_0 i_0 i_1 0 a_1 a_2 a_3 a_4 a_5 i_3 i_4 i_5 i_6 i_7 j_0 i_8 i_9 i_10 i_11 a_6 a_7 a_8 a_9 a_10 a_11 a_12 a_13 a_14 a_15 a_16 a_17 a_18 i_12 i_13 i_14 i_15 i_16 i_17 a_19 i_18 a_20 i_19 i_20 i_21 i_22 i_23 i_24 i_25 i_26 i_27 i_28 i_29 i_30 i_31 i_32 i_33 i_34 i_35 i_36 i_37 i_38 i_39 i_40 i_41 i_42 i_43 i_44 i_45 i_46 i_47 i_48 i_49 i_50 i_51 i_52 i_53 f_0 f_1 f_2 f_3 f_4 f_5 w2 w10 (mm_wk q7 (by decide)) h1 h2 h3 h4 h5 h6 h7 (mm_wk q6 (by decide)) h9 h10 h11 h12 h13 h14 h15 h16 h17 h18 h19 h20 h21 h22 h23 h24 h25 h26 h27 h28 h29 h30 h31 h32 h33 h34 h35 h36 h37 h38 h39 h40 h41 h42 h43 h44 h45 h46 h47 h48 h49 h50 h51 h52 w3 w11) (cwV 2 hts (mm_gV mm_w1202 mm_w1203 mm_w1204 mm_w5 mm_w1205) rfl rfl rfl hd_X12_differOf ⟨by rw [hRf]; exact Nat.le_of_ble_eq_true rfl, by rw [hRl]; exact Nat.le_of_ble_eq_true rfl⟩) (mm_preV hK hZ hS hA hP hD [0, 1, 2, 3, 4, 5, 6, 7, 8] rfl rfl 0 rfl rfl rfl) rfl rfl hl.1 rfl (lv_room (Nat.le_of_ble_eq_true rfl)) dX12_differs_27 ⟨by rw [hRc]; exact Nat.le_of_ble_eq_true rfl, by rw [hRs]; exact Nat.le_of_ble_eq_true rfl⟩) hP hD hS hA (fun u : (Nat → Int32) × (Nat → Int32) × (Nat → Int32) => [(a_0, .inr (12, [.int 0, .ref a_1, .ref a_2, .ref a_3, .ref a_4, .ref a_5, .int i_3, .int i_4, .int i_5, .int i_6, .int i_7, .long j_0, .int i_8, .int i_9, .int i_10, .int i_11, .ref a_6, .ref a_7, .ref a_8, .ref a_9, .ref a_10, .ref a_11, .ref a_12, .ref a_13, .ref a_14, .ref a_15, .ref a_16, .ref a_17, .ref a_18, .int i_12, .int i_13, .int i_14, .int i_15, .int i_16, .int i_17, .ref a_19, .int i_18, .ref a_20])), (a_6, .inl (cy 1, 5, .inl (mm_g [i_19, i_20, i_21, i_22, i_23]))), (a_7, .inl (cy 1, 30, .inl (mm_g [i_24, i_25, i_26, i_27, i_28, i_29, i_30, i_31, i_32, i_33, i_34, i_35, i_36, i_37, i_38, i_39, i_40, i_41, i_42, i_43, i_44, i_45, i_46, i_47, i_48, i_49, i_50, i_51, i_52, i_53]))), (a_9, .inl (cy 1, 15, .inl f_0)), (a_10, .inl (cy 1, 1050, .inl f_1)), (a_13, .inl (cy 1, 450, .inl f_2)), (a_15, .inl (cy 1, 7200, .inl u.1)), (a_16, .inl (cy 1, 3, .inl u.2.1)), (a_17, .inl (cy 1, 3, .inl u.2.2))]) [0, 1, 2, 3, 4, 5, 6, 7, 8] [] (n := 9) (fun _ => rfl) (by decide +kernel) (by decide +kernel) rfl (fun _ => rfl) (wr := []) rfl (fun _ => rfl) (fun _ => @rfl _ ([a_0, a_6, a_7, a_9, a_10, a_13, a_15, a_16, a_17] : List Nat)) ?_
          clear hP hD hS
          clear H locs
          intro v18 u
          obtain ⟨n15, n16, n17⟩ := u
          intro H locs hw (hP : va_P G vwCl [(a_0, .inr (12, [.int 0, .ref a_1, .ref a_2, .ref a_3, .ref a_4, .ref a_5, .int i_3, .int i_4, .int i_5, .int i_6, .int i_7, .long j_0, .int i_8, .int i_9, .int i_10, .int i_11, .ref a_6, .ref a_7, .ref a_8, .ref a_9, .ref a_10, .ref a_11, .ref a_12, .ref a_13, .ref a_14, .ref a_15, .ref a_16, .ref a_17, .ref a_18, .int i_12, .int i_13, .int i_14, .int i_15, .int i_16, .int i_17, .ref a_19, .int i_18, .ref a_20])), (a_6, .inl (cy 1, 5, .inl (mm_g [i_19, i_20, i_21, i_22, i_23]))), (a_7, .inl (cy 1, 30, .inl (mm_g [i_24, i_25, i_26, i_27, i_28, i_29, i_30, i_31, i_32, i_33, i_34, i_35, i_36, i_37, i_38, i_39, i_40, i_41, i_42, i_43, i_44, i_45, i_46, i_47, i_48, i_49, i_50, i_51, i_52, i_53]))), (a_9, .inl (cy 1, 15, .inl f_0)), (a_10, .inl (cy 1, 1050, .inl f_1)), (a_13, .inl (cy 1, 450, .inl f_2)), (a_15, .inl (cy 1, 7200, .inl n15)), (a_16, .inl (cy 1, 3, .inl n16)), (a_17, .inl (cy 1, 3, .inl n17))] H) (hD : va_D A [(a_0, .inr (12, [.int 0, .ref a_1, .ref a_2, .ref a_3, .ref a_4, .ref a_5, .int i_3, .int i_4, .int i_5, .int i_6, .int i_7, .long j_0, .int i_8, .int i_9, .int i_10, .int i_11, .ref a_6, .ref a_7, .ref a_8, .ref a_9, .ref a_10, .ref a_11, .ref a_12, .ref a_13, .ref a_14, .ref a_15, .ref a_16, .ref a_17, .ref a_18, .int i_12, .int i_13, .int i_14, .int i_15, .int i_16, .int i_17, .ref a_19, .int i_18, .ref a_20])), (a_6, .inl (cy 1, 5, .inl (mm_g [i_19, i_20, i_21, i_22, i_23]))), (a_7, .inl (cy 1, 30, .inl (mm_g [i_24, i_25, i_26, i_27, i_28, i_29, i_30, i_31, i_32, i_33, i_34, i_35, i_36, i_37, i_38, i_39, i_40, i_41, i_42, i_43, i_44, i_45, i_46, i_47, i_48, i_49, i_50, i_51, i_52, i_53]))), (a_9, .inl (cy 1, 15, .inl f_0)), (a_10, .inl (cy 1, 1050, .inl f_1)), (a_13, .inl (cy 1, 450, .inl f_2)), (a_15, .inl (cy 1, 7200, .inl n15)), (a_16, .inl (cy 1, 3, .inl n16)), (a_17, .inl (cy 1, 3, .inl n17))]) hS
          obtain ⟨w19, w20, w21, w22, hw⟩ := hw
          replace w22 : mm_laid n16 n17 i_27 := w22
          have w23 := hw
          refine lv_istore_n (lv' := [(3, .int v18), (0, .ref a_0), (1, .int i_0), (2, .int i_1)]) hx hb dX12_differs_30 rfl hl (by decide) rfl ?_
          clear hl
          clear ls
          intro ls hl
          refine lv_iconst (v := 0) hx hb dX12_differs_31 (by decide) ?_
          refine lv_istore (lv' := [(4, .int 0), (3, .int v18), (0, .ref a_0), (1, .int i_0), (2, .int i_1)]) hx hb dX12_differs_32 hl (by decide) rfl ?_
          clear hl
          clear ls
          intro ls hl
          have L34_246 : ∀ (n : Nat) (x34_4_246 : Int32), mm_rg x34_4_246 0 10 → (10 - x34_4_246.toInt).toNat < n → ∀ (H : Heap) (locs : List Loc), va_P G vwCl [(a_0, .inr (12, [.int 0, .ref a_1, .ref a_2, .ref a_3, .ref a_4, .ref a_5, .int i_3, .int i_4, .int i_5, .int i_6, .int i_7, .long j_0, .int i_8, .int i_9, .int i_10, .int i_11, .ref a_6, .ref a_7, .ref a_8, .ref a_9, .ref a_10, .ref a_11, .ref a_12, .ref a_13, .ref a_14, .ref a_15, .ref a_16, .ref a_17, .ref a_18, .int i_12, .int i_13, .int i_14, .int i_15, .int i_16, .int i_17, .ref a_19, .int i_18, .ref a_20])), (a_6, .inl (cy 1, 5, .inl (mm_g [i_19, i_20, i_21, i_22, i_23]))), (a_7, .inl (cy 1, 30, .inl (mm_g [i_24, i_25, i_26, i_27, i_28, i_29, i_30, i_31, i_32, i_33, i_34, i_35, i_36, i_37, i_38, i_39, i_40, i_41, i_42, i_43, i_44, i_45, i_46, i_47, i_48, i_49, i_50, i_51, i_52, i_53]))), (a_9, .inl (cy 1, 15, .inl f_0)), (a_10, .inl (cy 1, 1050, .inl f_1)), (a_13, .inl (cy 1, 450, .inl f_2)), (a_15, .inl (cy 1, 7200, .inl n15)), (a_16, .inl (cy 1, 3, .inl n16)), (a_17, .inl (cy 1, 3, .inl n17))] H → va_D A [(a_0, .inr (12, [.int 0, .ref a_1, .ref a_2, .ref a_3, .ref a_4, .ref a_5, .int i_3, .int i_4, .int i_5, .int i_6, .int i_7, .long j_0, .int i_8, .int i_9, .int i_10, .int i_11, .ref a_6, .ref a_7, .ref a_8, .ref a_9, .ref a_10, .ref a_11, .ref a_12, .ref a_13, .ref a_14, .ref a_15, .ref a_16, .ref a_17, .ref a_18, .int i_12, .int i_13, .int i_14, .int i_15, .int i_16, .int i_17, .ref a_19, .int i_18, .ref a_20])), (a_6, .inl (cy 1, 5, .inl (mm_g [i_19, i_20, i_21, i_22, i_23]))), (a_7, .inl (cy 1, 30, .inl (mm_g [i_24, i_25, i_26, i_27, i_28, i_29, i_30, i_31, i_32, i_33, i_34, i_35, i_36, i_37, i_38, i_39, i_40, i_41, i_42, i_43, i_44, i_45, i_46, i_47, i_48, i_49, i_50, i_51, i_52, i_53]))), (a_9, .inl (cy 1, 15, .inl f_0)), (a_10, .inl (cy 1, 1050, .inl f_1)), (a_13, .inl (cy 1, 450, .inl f_2)), (a_15, .inl (cy 1, 7200, .inl n15)), (a_16, .inl (cy 1, 3, .inl n16)), (a_17, .inl (cy 1, 3, .inl n17))] → va_S A s.heap H locs → ∀ (ls : Array Slot), lv_has ls 5 [(4, .int x34_4_246), (3, .int v18), (0, .ref a_0), (1, .int i_0), (2, .int i_1)] → W p l e R s m args below meth c H locs 0 0 Q (F0 m 34 ls []) := by
            intro n
            induction n with
            | zero => intro x34_4_246 rx34_4_246 hm; exact absurd hm (Nat.not_lt_zero _)
            | succ n ih34 =>
              intro x34_4_246 rx34_4_246 hm34 H locs hP hD hS ls hl
              refine lv_iload hx hb dX12_differs_34 (lv_at hl 0 rfl) ?_
              refine lv_aload_n hx hb dX12_differs_36 rfl (lv_at hl 2 rfl) ?_
              refine mm_finir (va_runV (As := []) (rest := [.int x34_4_246]) ⟨hx, hb, hml, hown, hts⟩ (M100_X12_words l G cy H.size a_0 0 a_1 a_2 a_3 a_4 a_5 i_3 i_4 i_5 i_6 i_7 j_0 i_8 i_9 i_10 i_11 a_6 a_7 a_8 a_9 a_10 a_11 a_12 a_13 a_14 a_15 a_16 a_17 a_18 i_12 i_13 i_14 i_15 i_16 i_17 a_19 i_18 a_20 i_19 i_20 i_21 i_22 i_23 i_24 i_25 i_26 i_27 i_28 i_29 i_30 i_31 i_32 i_33 i_34 i_35 i_36 i_37 i_38 i_39 i_40 i_41 i_42 i_43 i_44 i_45 i_46 i_47 i_48 i_49 i_50 i_51 i_52 i_53 q7 h1 h2 h3 h4 h5 h6 h7 (mm_wk q6 (by decide)) h9 h10 h11 h12 h13 h14 h15 h16 h17 h18 h19 h20 h21 h22 h23 h24 h25 h26 h27 h28 h29 h30 h31 h32 h33 h34 h43 h46 h49 h52) (cwV 0 hts (mm_gV mm_w649 mm_w650 mm_w651 mm_w5 mm_w652) rfl rfl rfl hd_X12_words ⟨by rw [hRf]; exact Nat.le_of_ble_eq_true rfl, by rw [hRl]; exact Nat.le_of_ble_eq_true rfl⟩) (mm_preV hK hZ hS hA hP hD [0, 1, 2] rfl rfl 0 rfl rfl rfl) rfl rfl hl.1 rfl (lv_room (Nat.le_of_ble_eq_true rfl)) dX12_differs_37 ⟨by rw [hRc]; exact Nat.le_of_ble_eq_true rfl, by rw [hRs]; exact Nat.le_of_ble_eq_true rfl⟩) hP hD hS hA [0, 1, 2] rfl (fun _ => rfl) ?_
              clear hP hD hS
              clear H locs
              intro v248 _u H locs hw hP hD hS
              obtain ⟨w249, w250⟩ := hw
              have t251 : (v248 : Int32).toInt = (i_26 : Int32).toInt + 1 := w250
              refine lv_icmp_ge (tgt := 76) hx hb dX12_differs_40 (by decide) (fun c252 => ?_) (fun c252 => ?_)
              · have q253 := mm_leR (mm_le c252) w249 rx34_4_246
                refine lv_iconst (v := (-1)) hx hb dX12_differs_76 (by decide) ?_
                subst hAe
                rw [hQ]
                exact W.iret (v := (-1)) hx hb hr (fun t ht hW => ⟨⟨(-1), (n15, n16, n17), rfl, ⟨w19, w20, w21, (mm_wk mm_km1 (by decide))⟩, by rw [ht]; exact hP, hK.warm hW, hD⟩, hS.F ht⟩) hS.2.2 dX12_differs_77
              · have q254 := mm_ltL (h := 9) (mm_nle c252) rx34_4_246 w249 (by decide)
                refine lv_iload_n hx hb dX12_differs_43 rfl (lv_at hl 1 rfl) ?_
                refine lv_iconst (v := (-1)) hx hb dX12_differs_44 (by decide) ?_
                refine lv_icmp_eq (tgt := 76) hx hb dX12_differs_45 (by decide) (fun c255 => ?_) (fun c255 => ?_)
                · have q256 := mm_eqI (lo := (-1)) (hi := (-1)) c255 w23 mm_km1 (by decide)
                  refine lv_iconst (v := (-1)) hx hb dX12_differs_76 (by decide) ?_
                  subst hAe
                  rw [hQ]
                  exact W.iret (v := (-1)) hx hb hr (fun t ht hW => ⟨⟨(-1), (n15, n16, n17), rfl, ⟨w19, w20, w21, (mm_wk mm_km1 (by decide))⟩, by rw [ht]; exact hP, hK.warm hW, hD⟩, hS.F ht⟩) hS.2.2 dX12_differs_77
                · have q257 := mm_neL (lo := 0) (mm_ne c255) w23 mm_km1 (by decide) (by decide)
                  refine lv_aload_n hx hb dX12_differs_48 rfl (lv_at hl 2 rfl) ?_
                  refine lv_iload_n hx hb dX12_differs_49 rfl (lv_at hl 3 rfl) ?_
                  refine lv_iload_n hx hb dX12_differs_50 rfl (lv_at hl 1 rfl) ?_
                  refine lv_iload hx hb dX12_differs_51 (lv_at hl 0 rfl) ?_
                  refine mm_finir (va_runV (As := [.int i_0, .int v18, .int x34_4_246]) (rest := []) ⟨hx, hb, hml, hown, hts⟩ (M122_X12_means0 l G cy H.size a_0 i_0 v18 x34_4_246 0 a_1 a_2 a_3 a_4 a_5 i_3 i_4 i_5 i_6 i_7 j_0 i_8 i_9 i_10 i_11 a_6 a_7 a_8 a_9 a_10 a_11 a_12 a_13 a_14 a_15 a_16 a_17 a_18 i_12 i_13 i_14 i_15 i_16 i_17 a_19 i_18 a_20 n15 n16 w2 (mm_wk q257 (by decide)) q254 w19 w20 (mm_f1_l w22 w3 w2 (by decide))) (cwV 3 hts (mm_gV mm_w713 mm_w714 mm_w715 mm_w5 mm_w716) rfl rfl rfl hd_X12_means0 ⟨by rw [hRf]; exact Nat.le_of_ble_eq_true rfl, by rw [hRl]; exact Nat.le_of_ble_eq_true rfl⟩) (mm_preV hK hZ hS hA hP hD [0, 6, 7] rfl rfl 0 rfl rfl rfl) rfl rfl hl.1 rfl (lv_room (Nat.le_of_ble_eq_true rfl)) dX12_differs_53 ⟨by rw [hRc]; exact Nat.le_of_ble_eq_true rfl, by rw [hRs]; exact Nat.le_of_ble_eq_true rfl⟩) hP hD hS hA [0, 6, 7] rfl (fun _ => rfl) ?_
                  clear hP hD hS
                  clear H locs
                  intro v258 _u H locs hw hP hD hS
                  obtain ⟨w259, w260⟩ := hw
                  refine lv_aload_n hx hb dX12_differs_56 rfl (lv_at hl 2 rfl) ?_
                  refine lv_iload_n hx hb dX12_differs_57 rfl (lv_at hl 4 rfl) ?_
                  refine lv_iload_n hx hb dX12_differs_58 rfl (lv_at hl 1 rfl) ?_
                  refine lv_iload hx hb dX12_differs_59 (lv_at hl 0 rfl) ?_
                  refine mm_finir (va_runV (As := [.int i_1, .int v18, .int x34_4_246]) (rest := [.int v258]) ⟨hx, hb, hml, hown, hts⟩ (M122_X12_means0 l G cy H.size a_0 i_1 v18 x34_4_246 0 a_1 a_2 a_3 a_4 a_5 i_3 i_4 i_5 i_6 i_7 j_0 i_8 i_9 i_10 i_11 a_6 a_7 a_8 a_9 a_10 a_11 a_12 a_13 a_14 a_15 a_16 a_17 a_18 i_12 i_13 i_14 i_15 i_16 i_17 a_19 i_18 a_20 n15 n16 w10 (mm_wk q257 (by decide)) q254 w19 w20 (mm_f1_l w22 w11 w10 (by decide))) (cwV 3 hts (mm_gV mm_w713 mm_w714 mm_w715 mm_w5 mm_w716) rfl rfl rfl hd_X12_means0 ⟨by rw [hRf]; exact Nat.le_of_ble_eq_true rfl, by rw [hRl]; exact Nat.le_of_ble_eq_true rfl⟩) (mm_preV hK hZ hS hA hP hD [0, 6, 7] rfl rfl 0 rfl rfl rfl) rfl rfl hl.1 rfl (lv_room (Nat.le_of_ble_eq_true rfl)) dX12_differs_61 ⟨by rw [hRc]; exact Nat.le_of_ble_eq_true rfl, by rw [hRs]; exact Nat.le_of_ble_eq_true rfl⟩) hP hD hS hA [0, 6, 7] rfl (fun _ => rfl) ?_
                  clear hP hD hS
                  clear H locs
                  intro v261 _u H locs hw hP hD hS
                  obtain ⟨w262, w263⟩ := hw
                  refine lv_icmp_eq (tgt := 70) hx hb dX12_differs_64 (by decide) (fun c264 => ?_) (fun c264 => ?_)
                  · obtain ⟨v265, ev265⟩ : ∃ y : Int32, y = x34_4_246 + 1 := ⟨_, rfl⟩
                    refine lv_iinc (v := v265) (lv' := [(4, .int v265), (3, .int v18), (0, .ref a_0), (1, .int i_0), (2, .int i_1)]) hx hb dX12_differs_70 hl (k := 0) rfl (by rw [ev265]; rfl) (by decide) rfl ?_
                    clear hl
                    clear ls
                    intro ls hl
                    have rv265 : mm_rg v265 1 10 := mm_add ev265 q254 mm_k1 (by decide) (by decide)
                    have tv265 := mm_addEc ev265 q254 mm_k1 (by decide) (k := 1) (by decide)
                    refine lv_goto (tgt := 34) hx hb dX12_differs_73 (by decide) ?_
                    exact ih34 v265 (mm_wk rv265 (by decide)) (mm_mu hm34 tv265 (by decide) (rv265).2 (by decide)) H locs hP hD hS ls (lv_sub hl [0, 1, 2, 3, 4] rfl)
                  · refine lv_iload hx hb dX12_differs_67 (lv_at hl 0 rfl) ?_
                    subst hAe
                    rw [hQ]
                    exact W.iret (v := x34_4_246) hx hb hr (fun t ht hW => ⟨⟨x34_4_246, (n15, n16, n17), rfl, ⟨w19, w20, w21, (mm_wk q254 (by decide))⟩, by rw [ht]; exact hP, hK.warm hW, hD⟩, hS.F ht⟩) hS.2.2 dX12_differs_69
          exact L34_246 _ 0 (mm_wk mm_k0 (by decide)) (Nat.lt_succ_self _) H locs hP hD hS ls (lv_sub hl [0, 1, 2, 3, 4] rfl)
        · exact mm_eqN c14.symm mm_k0 mm_k1 (by decide)

set_option maxHeartbeats 4000000 in
set_option maxRecDepth 100000 in
theorem M196_X12_alike (l : Launch) (G : va_G) (cy : Nat → ClassId) (sz : Nat) (a_0 : Nat) (i_0 : Int32) (i_1 : Int32) (i_2 : Int32) (i_3 : Int32) (a_1 : Nat) (a_2 : Nat) (a_3 : Nat) (a_4 : Nat) (a_5 : Nat) (i_4 : Int32) (i_5 : Int32) (i_6 : Int32) (i_7 : Int32) (i_8 : Int32) (j_0 : Int64) (i_9 : Int32) (i_10 : Int32) (i_11 : Int32) (i_12 : Int32) (a_6 : Nat) (a_7 : Nat) (a_8 : Nat) (a_9 : Nat) (a_10 : Nat) (a_11 : Nat) (a_12 : Nat) (a_13 : Nat) (a_14 : Nat) (a_15 : Nat) (a_16 : Nat) (a_17 : Nat) (a_18 : Nat) (i_13 : Int32) (i_14 : Int32) (i_15 : Int32) (i_16 : Int32) (i_17 : Int32) (i_18 : Int32) (a_19 : Nat) (i_19 : Int32) (a_20 : Nat) (i_20 : Int32) (i_21 : Int32) (i_22 : Int32) (i_23 : Int32) (i_24 : Int32) (i_25 : Int32) (i_26 : Int32) (i_27 : Int32) (i_28 : Int32) (i_29 : Int32) (i_30 : Int32) (i_31 : Int32) (i_32 : Int32) (i_33 : Int32) (i_34 : Int32) (i_35 : Int32) (i_36 : Int32) (i_37 : Int32) (i_38 : Int32) (i_39 : Int32) (i_40 : Int32) (i_41 : Int32) (i_42 : Int32) (i_43 : Int32) (i_44 : Int32) (i_45 : Int32) (i_46 : Int32) (i_47 : Int32) (i_48 : Int32) (i_49 : Int32) (i_50 : Int32) (i_51 : Int32) (i_52 : Int32) (i_53 : Int32) (i_54 : Int32) (f_0 : Nat → Int32) (f_1 : Nat → Int32) (f_2 : Nat → Int32) (f_3 : Nat → Int32) (f_4 : Nat → Int32) (f_5 : Nat → Int32) (h0 : mm_rg i_20 0 601) (h1 : mm_rg i_21 0 601) (h2 : mm_rg i_22 0 601) (h3 : mm_rg i_23 0 601) (h4 : mm_rg i_24 0 601) (h5 : mm_rg i_25 0 10) (h6 : mm_rg i_26 0 99) (h7 : mm_rg i_27 0 9) (h8 : mm_rg i_28 0 3) (h9 : mm_rg i_29 0 6) (h10 : mm_rg i_30 0 30) (h11 : mm_rg i_31 0 10) (h12 : mm_rg i_32 0 99) (h13 : mm_rg i_33 0 9) (h14 : mm_rg i_34 0 3) (h15 : mm_rg i_35 0 6) (h16 : mm_rg i_36 0 30) (h17 : mm_rg i_37 0 10) (h18 : mm_rg i_38 0 99) (h19 : mm_rg i_39 0 9) (h20 : mm_rg i_40 0 3) (h21 : mm_rg i_41 0 6) (h22 : mm_rg i_42 0 30) (h23 : mm_rg i_43 0 10) (h24 : mm_rg i_44 0 99) (h25 : mm_rg i_45 0 9) (h26 : mm_rg i_46 0 3) (h27 : mm_rg i_47 0 6) (h28 : mm_rg i_48 0 30) (h29 : mm_rg i_49 0 10) (h30 : mm_rg i_50 0 99) (h31 : mm_rg i_51 0 9) (h32 : mm_rg i_52 0 3) (h33 : mm_rg i_53 0 6) (h34 : mm_rg i_54 0 30) (h35 : mm_ar f_0 0 7) (h36 : mm_ar f_1 0 9) (h37 : mm_ar f_2 (-1) 99) (h38 : mm_ar f_3 0 9) (h39 : mm_ar f_4 0 210) (h40 : mm_ar f_5 0 210) (h41 : mm_rls f_0 f_1 0 i_27 i_28) (h42 : mm_acs f_2 0 i_27 i_28 i_30) (h43 : mm_tl i_20 i_28 i_29) (h44 : mm_rls f_0 f_1 1 i_33 i_34) (h45 : mm_acs f_2 1 i_33 i_34 i_36) (h46 : mm_tl i_21 i_34 i_35) (h47 : mm_rls f_0 f_1 2 i_39 i_40) (h48 : mm_acs f_2 2 i_39 i_40 i_42) (h49 : mm_tl i_22 i_40 i_41) (h50 : mm_rls f_0 f_1 3 i_45 i_46) (h51 : mm_acs f_2 3 i_45 i_46 i_48) (h52 : mm_tl i_23 i_46 i_47)  : mm_CI l yX12_alike (mm_ws yX12_alike cX12_alike 6 (some .int)) ({ frames := 14, cells := 0, slots := 0, locals := 300 } : Room) G cy sz [(a_0, .inr (12, [.int i_3, .ref a_1, .ref a_2, .ref a_3, .ref a_4, .ref a_5, .int i_4, .int i_5, .int i_6, .int i_7, .int i_8, .long j_0, .int i_9, .int i_10, .int i_11, .int i_12, .ref a_6, .ref a_7, .ref a_8, .ref a_9, .ref a_10, .ref a_11, .ref a_12, .ref a_13, .ref a_14, .ref a_15, .ref a_16, .ref a_17, .ref a_18, .int i_13, .int i_14, .int i_15, .int i_16, .int i_17, .int i_18, .ref a_19, .int i_19, .ref a_20])), (a_6, .inl (cy 1, 5, .inl (mm_g [i_20, i_21, i_22, i_23, i_24]))), (a_7, .inl (cy 1, 30, .inl (mm_g [i_25, i_26, i_27, i_28, i_29, i_30, i_31, i_32, i_33, i_34, i_35, i_36, i_37, i_38, i_39, i_40, i_41, i_42, i_43, i_44, i_45, i_46, i_47, i_48, i_49, i_50, i_51, i_52, i_53, i_54]))), (a_9, .inl (cy 1, 15, .inl f_0)), (a_10, .inl (cy 1, 1050, .inl f_1)), (a_13, .inl (cy 1, 450, .inl f_2)), (a_15, .inl (cy 1, 7200, .inl f_3)), (a_16, .inl (cy 1, 3, .inl f_4)), (a_17, .inl (cy 1, 3, .inl f_5))] [.ref a_0, .int i_0, .int i_1, .int i_2] (fun u : (Nat → Int32) × (Nat → Int32) × (Nat → Int32) => [(a_0, .inr (12, [.int 0, .ref a_1, .ref a_2, .ref a_3, .ref a_4, .ref a_5, .int i_4, .int i_5, .int i_6, .int i_7, .int i_8, .long j_0, .int i_9, .int i_10, .int i_11, .int i_12, .ref a_6, .ref a_7, .ref a_8, .ref a_9, .ref a_10, .ref a_11, .ref a_12, .ref a_13, .ref a_14, .ref a_15, .ref a_16, .ref a_17, .ref a_18, .int i_13, .int i_14, .int i_15, .int i_16, .int i_17, .int i_18, .ref a_19, .int i_19, .ref a_20])), (a_6, .inl (cy 1, 5, .inl (mm_g [i_20, i_21, i_22, i_23, i_24]))), (a_7, .inl (cy 1, 30, .inl (mm_g [i_25, i_26, i_27, i_28, i_29, i_30, i_31, i_32, i_33, i_34, i_35, i_36, i_37, i_38, i_39, i_40, i_41, i_42, i_43, i_44, i_45, i_46, i_47, i_48, i_49, i_50, i_51, i_52, i_53, i_54]))), (a_9, .inl (cy 1, 15, .inl f_0)), (a_10, .inl (cy 1, 1050, .inl f_1)), (a_13, .inl (cy 1, 450, .inl f_2)), (a_15, .inl (cy 1, 7200, .inl u.1)), (a_16, .inl (cy 1, 3, .inl u.2.1)), (a_17, .inl (cy 1, 3, .inl u.2.2))]) (fun (r : Int32) (u : (Nat → Int32) × (Nat → Int32) × (Nat → Int32)) => mm_ar u.1 0 9 ∧ mm_ar u.2.1 0 210 ∧ mm_ar u.2.2 0 210 ∧ True) 0 0 := by
  refine mm_begin (lv := [(0, .ref a_0), (1, .int i_0), (2, .int i_1), (3, .int i_2)]) (by decide) (Nat.le_of_ble_eq_true rfl) rfl ?_
  intro p e s m below meth c A ls R args Q H locs hRe hQ hAe hx hb hr hlocks hml hown hnm hts hsz hA hS hP hK hD hZ hl
  have hRf : R.frames = 14 := by rw [hRe]
  have hRl : R.locals = 300 := by rw [hRe]
  have hRc : R.cells = 0 := by rw [hRe]
  have hRs : R.slots = 0 := by rw [hRe]
  refine lv_aload_n hx hb dX12_alike_0 rfl (lv_at hl 0 rfl) ?_
  refine lv_iconst (v := 0) hx hb dX12_alike_1 (by decide) ?_
  refine va_put (D := G) (ci := 12) (v := .int 0) (ty := tyX12 0) (C := RX12) (T := TX12) (N := 38) hx hb hts (mm_i inlX12) tyX12 tyX12_ok nmX12 hown hK.1 hP hD hS 0 rfl rfl 0 (by decide) (mm_h hts mm_w177) (fun _ h9 => h9) rfl (tyX12_ok 0 (by decide)) rfl rfl (Nat.le_of_ble_eq_true rfl) dX12_alike_2 ?_
  clear hP hD hS
  clear H locs
  intro H locs (hP : va_P G vwCl [(a_0, .inr (12, [.int 0, .ref a_1, .ref a_2, .ref a_3, .ref a_4, .ref a_5, .int i_4, .int i_5, .int i_6, .int i_7, .int i_8, .long j_0, .int i_9, .int i_10, .int i_11, .int i_12, .ref a_6, .ref a_7, .ref a_8, .ref a_9, .ref a_10, .ref a_11, .ref a_12, .ref a_13, .ref a_14, .ref a_15, .ref a_16, .ref a_17, .ref a_18, .int i_13, .int i_14, .int i_15, .int i_16, .int i_17, .int i_18, .ref a_19, .int i_19, .ref a_20])), (a_6, .inl (cy 1, 5, .inl (mm_g [i_20, i_21, i_22, i_23, i_24]))), (a_7, .inl (cy 1, 30, .inl (mm_g [i_25, i_26, i_27, i_28, i_29, i_30, i_31, i_32, i_33, i_34, i_35, i_36, i_37, i_38, i_39, i_40, i_41, i_42, i_43, i_44, i_45, i_46, i_47, i_48, i_49, i_50, i_51, i_52, i_53, i_54]))), (a_9, .inl (cy 1, 15, .inl f_0)), (a_10, .inl (cy 1, 1050, .inl f_1)), (a_13, .inl (cy 1, 450, .inl f_2)), (a_15, .inl (cy 1, 7200, .inl f_3)), (a_16, .inl (cy 1, 3, .inl f_4)), (a_17, .inl (cy 1, 3, .inl f_5))] H) (hD : va_D A [(a_0, .inr (12, [.int 0, .ref a_1, .ref a_2, .ref a_3, .ref a_4, .ref a_5, .int i_4, .int i_5, .int i_6, .int i_7, .int i_8, .long j_0, .int i_9, .int i_10, .int i_11, .int i_12, .ref a_6, .ref a_7, .ref a_8, .ref a_9, .ref a_10, .ref a_11, .ref a_12, .ref a_13, .ref a_14, .ref a_15, .ref a_16, .ref a_17, .ref a_18, .int i_13, .int i_14, .int i_15, .int i_16, .int i_17, .int i_18, .ref a_19, .int i_19, .ref a_20])), (a_6, .inl (cy 1, 5, .inl (mm_g [i_20, i_21, i_22, i_23, i_24]))), (a_7, .inl (cy 1, 30, .inl (mm_g [i_25, i_26, i_27, i_28, i_29, i_30, i_31, i_32, i_33, i_34, i_35, i_36, i_37, i_38, i_39, i_40, i_41, i_42, i_43, i_44, i_45, i_46, i_47, i_48, i_49, i_50, i_51, i_52, i_53, i_54]))), (a_9, .inl (cy 1, 15, .inl f_0)), (a_10, .inl (cy 1, 1050, .inl f_1)), (a_13, .inl (cy 1, 450, .inl f_2)), (a_15, .inl (cy 1, 7200, .inl f_3)), (a_16, .inl (cy 1, 3, .inl f_4)), (a_17, .inl (cy 1, 3, .inl f_5))]) hS
  refine lv_aload_n hx hb dX12_alike_5 rfl (lv_at hl 0 rfl) ?_
  refine lv_iload_n hx hb dX12_alike_6 rfl (lv_at hl 1 rfl) ?_
  refine mm_finir (va_runV (As := [.int i_0]) (rest := []) ⟨hx, hb, hml, hown, hts⟩ (M98_X12_isLand l G cy H.size a_0 i_0 0 a_1 a_2 a_3 a_4 a_5 i_4 i_5 i_6 i_7 i_8 j_0 i_9 i_10 i_11 i_12 a_6 a_7 a_8 a_9 a_10 a_11 a_12 a_13 a_14 a_15 a_16 a_17 a_18 i_13 i_14 i_15 i_16 i_17 i_18 a_19 i_19 a_20 i_25 i_26 i_27 i_28 i_29 i_30 i_31 i_32 i_33 i_34 i_35 i_36 i_37 i_38 i_39 i_40 i_41 i_42 i_43 i_44 i_45 i_46 i_47 i_48 i_49 i_50 i_51 i_52 i_53 i_54 h5 h6 h7 h8 h9 h10 h11 h12 h13 h14 h15 h16 h17 h18 h19 h20 h21 h22 h23 h24 h25 h26 h27 h28 h29 h30 h31 h32 h33 h34) (cwV 1 hts (mm_gV mm_w641 mm_w642 mm_w643 mm_w5 mm_w644) rfl rfl rfl hd_X12_isLand ⟨by rw [hRf]; exact Nat.le_of_ble_eq_true rfl, by rw [hRl]; exact Nat.le_of_ble_eq_true rfl⟩) (mm_preV hK hZ hS hA hP hD [0, 2] rfl rfl 0 rfl rfl rfl) rfl rfl hl.1 rfl (lv_room (Nat.le_of_ble_eq_true rfl)) dX12_alike_7 ⟨by rw [hRc]; exact Nat.le_of_ble_eq_true rfl, by rw [hRs]; exact Nat.le_of_ble_eq_true rfl⟩) hP hD hS hA [0, 2] rfl (fun _ => rfl) ?_
  clear hP hD hS
  clear H locs
  intro v1 _u H locs hw hP hD hS
  rcases hw with rfl | ⟨rfl, w2, w3⟩
  · refine lv_if_eq (tgt := 33) hx hb dX12_alike_10 (by decide) (fun c4 => ?_) (fun c4 => ?_)
    · refine lv_bipush (v := (-2)) hx hb dX12_alike_33 (by decide) ?_
      subst hAe
      rw [hQ]
      exact W.iret (v := (-2)) hx hb hr (fun t ht hW => ⟨⟨(-2), (f_3, f_4, f_5), rfl, ⟨h38, h39, h40, trivial⟩, by rw [ht]; exact hP, hK.warm hW, hD⟩, hS.F ht⟩) hS.2.2 dX12_alike_35
    · have q5 := mm_neL (lo := 1) (mm_ne c4) mm_k0 mm_k0 (by decide) (by decide)
      exact mm_no q5 (by decide)
  · have q6 := mm_ltR (lo := 1) w3 w2 h8 (by decide)
    have q7 : mm_rg i_20 1 601 := mm_tl_3 h43 q6 h0 (by decide)
    refine lv_if_eq (tgt := 33) hx hb dX12_alike_10 (by decide) (fun c8 => ?_) (fun c8 => ?_)
    · exact mm_eqN c8.symm mm_k0 mm_k1 (by decide)
    · refine lv_aload_n hx hb dX12_alike_13 rfl (lv_at hl 0 rfl) ?_
      refine lv_iload_n hx hb dX12_alike_14 rfl (lv_at hl 2 rfl) ?_
      refine mm_finir (va_runV (As := [.int i_1]) (rest := []) ⟨hx, hb, hml, hown, hts⟩ (M98_X12_isLand l G cy H.size a_0 i_1 0 a_1 a_2 a_3 a_4 a_5 i_4 i_5 i_6 i_7 i_8 j_0 i_9 i_10 i_11 i_12 a_6 a_7 a_8 a_9 a_10 a_11 a_12 a_13 a_14 a_15 a_16 a_17 a_18 i_13 i_14 i_15 i_16 i_17 i_18 a_19 i_19 a_20 i_25 i_26 i_27 i_28 i_29 i_30 i_31 i_32 i_33 i_34 i_35 i_36 i_37 i_38 i_39 i_40 i_41 i_42 i_43 i_44 i_45 i_46 i_47 i_48 i_49 i_50 i_51 i_52 i_53 i_54 h5 h6 h7 (mm_wk q6 (by decide)) h9 h10 h11 h12 h13 h14 h15 h16 h17 h18 h19 h20 h21 h22 h23 h24 h25 h26 h27 h28 h29 h30 h31 h32 h33 h34) (cwV 1 hts (mm_gV mm_w641 mm_w642 mm_w643 mm_w5 mm_w644) rfl rfl rfl hd_X12_isLand ⟨by rw [hRf]; exact Nat.le_of_ble_eq_true rfl, by rw [hRl]; exact Nat.le_of_ble_eq_true rfl⟩) (mm_preV hK hZ hS hA hP hD [0, 2] rfl rfl 0 rfl rfl rfl) rfl rfl hl.1 rfl (lv_room (Nat.le_of_ble_eq_true rfl)) dX12_alike_15 ⟨by rw [hRc]; exact Nat.le_of_ble_eq_true rfl, by rw [hRs]; exact Nat.le_of_ble_eq_true rfl⟩) hP hD hS hA [0, 2] rfl (fun _ => rfl) ?_
      clear hP hD hS
      clear H locs
      intro v9 _u H locs hw hP hD hS
      rcases hw with rfl | ⟨rfl, w10, w11⟩
      · refine lv_if_eq (tgt := 33) hx hb dX12_alike_18 (by decide) (fun c12 => ?_) (fun c12 => ?_)
        · refine lv_bipush (v := (-2)) hx hb dX12_alike_33 (by decide) ?_
          subst hAe
          rw [hQ]
          exact W.iret (v := (-2)) hx hb hr (fun t ht hW => ⟨⟨(-2), (f_3, f_4, f_5), rfl, ⟨h38, h39, h40, trivial⟩, by rw [ht]; exact hP, hK.warm hW, hD⟩, hS.F ht⟩) hS.2.2 dX12_alike_35
        · have q13 := mm_neL (lo := 1) (mm_ne c12) mm_k0 mm_k0 (by decide) (by decide)
          exact mm_no q13 (by decide)
      · refine lv_if_eq (tgt := 33) hx hb dX12_alike_18 (by decide) (fun c14 => ?_) (fun c14 => ?_)
        · exact mm_eqN c14.symm mm_k0 mm_k1 (by decide)
        · refine lv_iload_n hx hb dX12_alike_21 rfl (lv_at hl 3 rfl) ?_
          obtain ⟨v15, ev15⟩ : ∃ y : Int64, y = i_2.toInt64 := ⟨_, rfl⟩
          refine lv_i2l hx hb dX12_alike_22 ev15.symm ?_
          have rv15 : mm_rl v15 (-2147483648) 2147483647 := mm_i2l ev15 (mm_top i_2)
          refine lv_lconst (v := 1) hx hb dX12_alike_23 (by decide) ?_
          refine lv_ldc2 (v := 10000) hx hb hown (mm_h hts mm_w1223) dX12_alike_24 ?_
          refine mm_finir (va_runS (As := [.long v15, .long 1, .long 10000]) (rest := []) ⟨hx, hb, hml, hown, hts⟩ (M63_X12_in l G cy H.size v15 10000 ) (va_cwS 3 hts (mm_gS mm_w191 mm_w192 mm_w5 mm_w193) rfl rfl rfl hs_X12_in ⟨by rw [hRf]; exact Nat.le_of_ble_eq_true rfl, by rw [hRl]; exact Nat.le_of_ble_eq_true rfl⟩) (mm_preS hK hZ hS hA hP hD [] rfl rfl) rfl rfl hl.1 rfl (lv_room (Nat.le_of_ble_eq_true rfl)) dX12_alike_27 ⟨by rw [hRc]; exact Nat.le_of_ble_eq_true rfl, by rw [hRs]; exact Nat.le_of_ble_eq_true rfl⟩) hP hD hS hA [] rfl (fun _ => rfl) ?_
          clear hP hD hS
          clear H locs
          intro v16 _u H locs hw hP hD hS
          rcases hw with ⟨rfl, w17⟩ | ⟨rfl, w18, w19, w20, w21⟩
          · refine lv_if_ne (tgt := 36) hx hb dX12_alike_30 (by decide) (fun c22 => ?_) (fun c22 => ?_)
            · have q23 := mm_neL (lo := 1) (mm_ne c22) mm_k0 mm_k0 (by decide) (by decide)
              exact mm_no q23 (by decide)
            · refine lv_bipush (v := (-2)) hx hb dX12_alike_33 (by decide) ?_
              subst hAe
              rw [hQ]
              exact W.iret (v := (-2)) hx hb hr (fun t ht hW => ⟨⟨(-2), (f_3, f_4, f_5), rfl, ⟨h38, h39, h40, trivial⟩, by rw [ht]; exact hP, hK.warm hW, hD⟩, hS.F ht⟩) hS.2.2 dX12_alike_35
          · have q24 := mm_meetl (lo := 1) (hi := 2147483647) w18 rv15 (by decide)
            have q25 := mm_meet (lo := 1) (hi := 2147483647) (mm_l2x ev15 q24) (mm_top i_2) (by decide)
            have q26 := mm_leLl w20 q24 mm_kl10000
            have q27 := mm_meet (lo := 1) (hi := 10000) (mm_l2x ev15 q26) q25 (by decide)
            refine lv_if_ne (tgt := 36) hx hb dX12_alike_30 (by decide) (fun c28 => ?_) (fun c28 => ?_)
            · refine lv_aload_n hx hb dX12_alike_36 rfl (lv_at hl 0 rfl) ?_
              refine mm_finv (va_runV (As := []) (rest := []) ⟨hx, hb, hml, hown, hts⟩ (M125_X12_lays l G cy H.size a_0 0 a_1 a_2 a_3 a_4 a_5 i_4 i_5 i_6 i_7 i_8 j_0 i_9 i_10 i_11 i_12 a_6 a_7 a_8 a_9 a_10 a_11 a_12 a_13 a_14 a_15 a_16 a_17 a_18 i_13 i_14 i_15 i_16 i_17 i_18 a_19 i_19 a_20 i_20 i_21 i_22 i_23 i_24 i_25 i_26 i_27 i_28 i_29 i_30 i_31 i_32 i_33 i_34 i_35 i_36 i_37 i_38 i_39 i_40 i_41 i_42 i_43 i_44 i_45 i_46 i_47 i_48 i_49 i_50 i_51 i_52 i_53 i_54 f_0 f_1 f_2 f_3 f_4 f_5 (mm_wk q7 (by decide)) h1 h2 h3 h4 h5 h6 h7 (mm_wk q6 (by decide)) h9 h10 h11 h12 h13 h14 h15 h16 h17 h18 h19 h20 h21 h22 h23 h24 h25 h26 h27 h28 h29 h30 h31 h32 h33 h34 h35 h36 h37 h38 h39 h40 h41 h42 h43 h44 h45 h46 h47 h48 h49 h50 h51 h52) (cwV 0 hts (mm_gV mm_w686 mm_w687 mm_w688 mm_w5 mm_w689) rfl rfl rfl hd_X12_lays ⟨by rw [hRf]; exact Nat.le_of_ble_eq_true rfl, by rw [hRl]; exact Nat.le_of_ble_eq_true rfl⟩) (mm_preV hK hZ hS hA hP hD [0, 1, 2, 3, 4, 5, 6, 7, 8] rfl rfl 0 rfl rfl rfl) rfl rfl hl.1 rfl (lv_room (Nat.le_of_ble_eq_true rfl)) dX12_alike_37 ⟨by rw [hRc]; exact Nat.le_of_ble_eq_true rfl, by rw [hRs]; exact Nat.le_of_ble_eq_true rfl⟩) hP hD hS hA (fun u : (Nat → Int32) × (Nat → Int32) × (Nat → Int32) => [(a_0, .inr (12, [.int 0, .ref a_1, .ref a_2, .ref a_3, .ref a_4, .ref a_5, .int i_4, .int i_5, .int i_6, .int i_7, .int i_8, .long j_0, .int i_9, .int i_10, .int i_11, .int i_12, .ref a_6, .ref a_7, .ref a_8, .ref a_9, .ref a_10, .ref a_11, .ref a_12, .ref a_13, .ref a_14, .ref a_15, .ref a_16, .ref a_17, .ref a_18, .int i_13, .int i_14, .int i_15, .int i_16, .int i_17, .int i_18, .ref a_19, .int i_19, .ref a_20])), (a_6, .inl (cy 1, 5, .inl (mm_g [i_20, i_21, i_22, i_23, i_24]))), (a_7, .inl (cy 1, 30, .inl (mm_g [i_25, i_26, i_27, i_28, i_29, i_30, i_31, i_32, i_33, i_34, i_35, i_36, i_37, i_38, i_39, i_40, i_41, i_42, i_43, i_44, i_45, i_46, i_47, i_48, i_49, i_50, i_51, i_52, i_53, i_54]))), (a_9, .inl (cy 1, 15, .inl f_0)), (a_10, .inl (cy 1, 1050, .inl f_1)), (a_13, .inl (cy 1, 450, .inl f_2)), (a_15, .inl (cy 1, 7200, .inl u.1)), (a_16, .inl (cy 1, 3, .inl u.2.1)), (a_17, .inl (cy 1, 3, .inl u.2.2))]) [0, 1, 2, 3, 4, 5, 6, 7, 8] [] (n := 9) (fun _ => rfl) (by decide +kernel) (by decide +kernel) rfl (fun _ => rfl) (wr := []) rfl (fun _ => rfl) (fun _ => @rfl _ ([a_0, a_6, a_7, a_9, a_10, a_13, a_15, a_16, a_17] : List Nat)) ?_
              clear hP hD hS
              clear H locs
              intro u
              obtain ⟨n29, n30, n31⟩ := u
              intro H locs hw (hP : va_P G vwCl [(a_0, .inr (12, [.int 0, .ref a_1, .ref a_2, .ref a_3, .ref a_4, .ref a_5, .int i_4, .int i_5, .int i_6, .int i_7, .int i_8, .long j_0, .int i_9, .int i_10, .int i_11, .int i_12, .ref a_6, .ref a_7, .ref a_8, .ref a_9, .ref a_10, .ref a_11, .ref a_12, .ref a_13, .ref a_14, .ref a_15, .ref a_16, .ref a_17, .ref a_18, .int i_13, .int i_14, .int i_15, .int i_16, .int i_17, .int i_18, .ref a_19, .int i_19, .ref a_20])), (a_6, .inl (cy 1, 5, .inl (mm_g [i_20, i_21, i_22, i_23, i_24]))), (a_7, .inl (cy 1, 30, .inl (mm_g [i_25, i_26, i_27, i_28, i_29, i_30, i_31, i_32, i_33, i_34, i_35, i_36, i_37, i_38, i_39, i_40, i_41, i_42, i_43, i_44, i_45, i_46, i_47, i_48, i_49, i_50, i_51, i_52, i_53, i_54]))), (a_9, .inl (cy 1, 15, .inl f_0)), (a_10, .inl (cy 1, 1050, .inl f_1)), (a_13, .inl (cy 1, 450, .inl f_2)), (a_15, .inl (cy 1, 7200, .inl n29)), (a_16, .inl (cy 1, 3, .inl n30)), (a_17, .inl (cy 1, 3, .inl n31))] H) (hD : va_D A [(a_0, .inr (12, [.int 0, .ref a_1, .ref a_2, .ref a_3, .ref a_4, .ref a_5, .int i_4, .int i_5, .int i_6, .int i_7, .int i_8, .long j_0, .int i_9, .int i_10, .int i_11, .int i_12, .ref a_6, .ref a_7, .ref a_8, .ref a_9, .ref a_10, .ref a_11, .ref a_12, .ref a_13, .ref a_14, .ref a_15, .ref a_16, .ref a_17, .ref a_18, .int i_13, .int i_14, .int i_15, .int i_16, .int i_17, .int i_18, .ref a_19, .int i_19, .ref a_20])), (a_6, .inl (cy 1, 5, .inl (mm_g [i_20, i_21, i_22, i_23, i_24]))), (a_7, .inl (cy 1, 30, .inl (mm_g [i_25, i_26, i_27, i_28, i_29, i_30, i_31, i_32, i_33, i_34, i_35, i_36, i_37, i_38, i_39, i_40, i_41, i_42, i_43, i_44, i_45, i_46, i_47, i_48, i_49, i_50, i_51, i_52, i_53, i_54]))), (a_9, .inl (cy 1, 15, .inl f_0)), (a_10, .inl (cy 1, 1050, .inl f_1)), (a_13, .inl (cy 1, 450, .inl f_2)), (a_15, .inl (cy 1, 7200, .inl n29)), (a_16, .inl (cy 1, 3, .inl n30)), (a_17, .inl (cy 1, 3, .inl n31))]) hS
              obtain ⟨w32, w33, w34, w35, w36⟩ := hw
              replace w35 : mm_laid n30 n31 i_28 := w35
              replace w36 : mm_tab n29 n30 i_27 i_28 := w36
              refine lv_iconst (v := 0) hx hb dX12_alike_40 (by decide) ?_
              refine lv_istore (lv' := [(4, .int 0), (0, .ref a_0), (1, .int i_0), (2, .int i_1), (3, .int i_2)]) hx hb dX12_alike_41 hl (by decide) rfl ?_
              clear hl
              clear ls
              intro ls hl
              refine lv_iconst (v := 0) hx hb dX12_alike_43 (by decide) ?_
              refine lv_istore (lv' := [(5, .int 0), (4, .int 0), (0, .ref a_0), (1, .int i_0), (2, .int i_1), (3, .int i_2)]) hx hb dX12_alike_44 hl (by decide) rfl ?_
              clear hl
              clear ls
              intro ls hl
              have L46_298 : ∀ (n : Nat) (x46_5_297 : Int32) (x46_4_298 : Int32), mm_rg x46_5_297 0 10000 → (10000 - x46_5_297.toInt).toNat < n → ∀ (H : Heap) (locs : List Loc), va_P G vwCl [(a_0, .inr (12, [.int 0, .ref a_1, .ref a_2, .ref a_3, .ref a_4, .ref a_5, .int i_4, .int i_5, .int i_6, .int i_7, .int i_8, .long j_0, .int i_9, .int i_10, .int i_11, .int i_12, .ref a_6, .ref a_7, .ref a_8, .ref a_9, .ref a_10, .ref a_11, .ref a_12, .ref a_13, .ref a_14, .ref a_15, .ref a_16, .ref a_17, .ref a_18, .int i_13, .int i_14, .int i_15, .int i_16, .int i_17, .int i_18, .ref a_19, .int i_19, .ref a_20])), (a_6, .inl (cy 1, 5, .inl (mm_g [i_20, i_21, i_22, i_23, i_24]))), (a_7, .inl (cy 1, 30, .inl (mm_g [i_25, i_26, i_27, i_28, i_29, i_30, i_31, i_32, i_33, i_34, i_35, i_36, i_37, i_38, i_39, i_40, i_41, i_42, i_43, i_44, i_45, i_46, i_47, i_48, i_49, i_50, i_51, i_52, i_53, i_54]))), (a_9, .inl (cy 1, 15, .inl f_0)), (a_10, .inl (cy 1, 1050, .inl f_1)), (a_13, .inl (cy 1, 450, .inl f_2)), (a_15, .inl (cy 1, 7200, .inl n29)), (a_16, .inl (cy 1, 3, .inl n30)), (a_17, .inl (cy 1, 3, .inl n31))] H → va_D A [(a_0, .inr (12, [.int 0, .ref a_1, .ref a_2, .ref a_3, .ref a_4, .ref a_5, .int i_4, .int i_5, .int i_6, .int i_7, .int i_8, .long j_0, .int i_9, .int i_10, .int i_11, .int i_12, .ref a_6, .ref a_7, .ref a_8, .ref a_9, .ref a_10, .ref a_11, .ref a_12, .ref a_13, .ref a_14, .ref a_15, .ref a_16, .ref a_17, .ref a_18, .int i_13, .int i_14, .int i_15, .int i_16, .int i_17, .int i_18, .ref a_19, .int i_19, .ref a_20])), (a_6, .inl (cy 1, 5, .inl (mm_g [i_20, i_21, i_22, i_23, i_24]))), (a_7, .inl (cy 1, 30, .inl (mm_g [i_25, i_26, i_27, i_28, i_29, i_30, i_31, i_32, i_33, i_34, i_35, i_36, i_37, i_38, i_39, i_40, i_41, i_42, i_43, i_44, i_45, i_46, i_47, i_48, i_49, i_50, i_51, i_52, i_53, i_54]))), (a_9, .inl (cy 1, 15, .inl f_0)), (a_10, .inl (cy 1, 1050, .inl f_1)), (a_13, .inl (cy 1, 450, .inl f_2)), (a_15, .inl (cy 1, 7200, .inl n29)), (a_16, .inl (cy 1, 3, .inl n30)), (a_17, .inl (cy 1, 3, .inl n31))] → va_S A s.heap H locs → ∀ (ls : Array Slot), lv_has ls 6 [(5, .int x46_5_297), (4, .int x46_4_298), (0, .ref a_0), (1, .int i_0), (2, .int i_1), (3, .int i_2)] → W p l e R s m args below meth c H locs 0 0 Q (F0 m 46 ls []) := by
                intro n
                induction n with
                | zero => intro x46_5_297 x46_4_298 rx46_5_297 hm; exact absurd hm (Nat.not_lt_zero _)
                | succ n ih46 =>
                  intro x46_5_297 x46_4_298 rx46_5_297 hm46 H locs hP hD hS ls hl
                  refine lv_iload hx hb dX12_alike_46 (lv_at hl 0 rfl) ?_
                  refine lv_iload_n hx hb dX12_alike_48 rfl (lv_at hl 5 rfl) ?_
                  refine lv_icmp_ge (tgt := 81) hx hb dX12_alike_49 (by decide) (fun c300 => ?_) (fun c300 => ?_)
                  · have q301 := mm_leR (mm_le c300) q27 rx46_5_297
                    refine lv_iload hx hb dX12_alike_81 (lv_at hl 1 rfl) ?_
                    subst hAe
                    rw [hQ]
                    exact W.iret (v := x46_4_298) hx hb hr (fun t ht hW => ⟨⟨x46_4_298, (n29, n30, n31), rfl, ⟨w32, w33, w34, trivial⟩, by rw [ht]; exact hP, hK.warm hW, hD⟩, hS.F ht⟩) hS.2.2 dX12_alike_83
                  · have q302 := mm_ltL (h := 9999) (mm_nle c300) rx46_5_297 q27 (by decide)
                    refine lv_iload hx hb dX12_alike_52 (lv_at hl 1 rfl) ?_
                    refine lv_aload_n hx hb dX12_alike_54 rfl (lv_at hl 2 rfl) ?_
                    refine lv_iload_n hx hb dX12_alike_55 rfl (lv_at hl 3 rfl) ?_
                    refine lv_iload hx hb dX12_alike_56 (lv_at hl 0 rfl) ?_
                    refine lv_iload_n hx hb dX12_alike_58 rfl (lv_at hl 4 rfl) ?_
                    refine lv_iload hx hb dX12_alike_59 (lv_at hl 0 rfl) ?_
                    refine mm_finir (va_runV (As := [.int i_0, .int x46_5_297, .int i_1, .int x46_5_297]) (rest := [.int x46_4_298]) ⟨hx, hb, hml, hown, hts⟩ (M189_X12_areAlike l G cy H.size a_0 i_0 x46_5_297 i_1 x46_5_297 0 a_1 a_2 a_3 a_4 a_5 i_4 i_5 i_6 i_7 i_8 j_0 i_9 i_10 i_11 i_12 a_6 a_7 a_8 a_9 a_10 a_11 a_12 a_13 a_14 a_15 a_16 a_17 a_18 i_13 i_14 i_15 i_16 i_17 i_18 a_19 i_19 a_20 i_20 i_21 i_22 i_23 i_24 i_25 i_26 i_27 i_28 i_29 i_30 i_31 i_32 i_33 i_34 i_35 i_36 i_37 i_38 i_39 i_40 i_41 i_42 i_43 i_44 i_45 i_46 i_47 i_48 i_49 i_50 i_51 i_52 i_53 i_54 n29 n30 w2 (mm_wk q302 (by decide)) w10 (mm_wk q302 (by decide)) (mm_wk q7 (by decide)) h1 h2 h3 h4 h5 h6 h7 (mm_wk q6 (by decide)) h9 h10 h11 h12 h13 h14 h15 h16 h17 h18 h19 h20 h21 h22 h23 h24 h25 h26 h27 h28 h29 h30 h31 h32 h33 h34 w32 w33 h43 h46 h49 h52 (mm_f1_l w35 w3 w2 (by decide)) (mm_f1_l w35 w11 w10 (by decide))) (cwV 4 hts (mm_gV mm_w1169 mm_w1170 mm_w1171 mm_w5 mm_w1172) rfl rfl rfl hd_X12_areAlike ⟨by rw [hRf]; exact Nat.le_of_ble_eq_true rfl, by rw [hRl]; exact Nat.le_of_ble_eq_true rfl⟩) (mm_preV hK hZ hS hA hP hD [0, 1, 2, 6, 7] rfl rfl 0 rfl rfl rfl) rfl rfl hl.1 rfl (lv_room (Nat.le_of_ble_eq_true rfl)) dX12_alike_61 ⟨by rw [hRc]; exact Nat.le_of_ble_eq_true rfl, by rw [hRs]; exact Nat.le_of_ble_eq_true rfl⟩) hP hD hS hA [0, 1, 2, 6, 7] rfl (fun _ => rfl) ?_
                    clear hP hD hS
                    clear H locs
                    intro v303 _u H locs hw hP hD hS
                    rcases hw with rfl | rfl
                    · refine lv_if_eq (tgt := 71) hx hb dX12_alike_64 (by decide) (fun c304 => ?_) (fun c304 => ?_)
                      · refine lv_iconst (v := 0) hx hb dX12_alike_71 (by decide) ?_
                        refine lv_iadd hx hb dX12_alike_72 ?_
                        refine lv_topi (fun v305 ev305 => ?_)
                        have rv305 : mm_rg v305 (-2147483648) 2147483647 := mm_add ev305 (mm_top x46_4_298) mm_k0 (by decide) (by decide)
                        have tv305 := mm_addEc ev305 (mm_top x46_4_298) mm_k0 (by decide) (k := 0) (by decide)
                        refine lv_istore (lv' := [(4, .int v305), (5, .int x46_5_297), (0, .ref a_0), (1, .int i_0), (2, .int i_1), (3, .int i_2)]) hx hb dX12_alike_73 hl (by decide) rfl ?_
                        clear hl
                        clear ls
                        intro ls hl
                        obtain ⟨v306, ev306⟩ : ∃ y : Int32, y = x46_5_297 + 1 := ⟨_, rfl⟩
                        refine lv_iinc (v := v306) (lv' := [(5, .int v306), (4, .int v305), (0, .ref a_0), (1, .int i_0), (2, .int i_1), (3, .int i_2)]) hx hb dX12_alike_75 hl (k := 1) rfl (by rw [ev306]; rfl) (by decide) rfl ?_
                        clear hl
                        clear ls
                        intro ls hl
                        have rv306 : mm_rg v306 1 10000 := mm_add ev306 q302 mm_k1 (by decide) (by decide)
                        have tv306 := mm_addEc ev306 q302 mm_k1 (by decide) (k := 1) (by decide)
                        refine lv_goto (tgt := 46) hx hb dX12_alike_78 (by decide) ?_
                        exact ih46 v306 v305 (mm_wk rv306 (by decide)) (mm_mu hm46 tv306 (by decide) (rv306).2 (by decide)) H locs hP hD hS ls (lv_sub hl [0, 1, 2, 3, 4, 5] rfl)
                      · have q307 := mm_neL (lo := 1) (mm_ne c304) mm_k0 mm_k0 (by decide) (by decide)
                        exact mm_no q307 (by decide)
                    · refine lv_if_eq (tgt := 71) hx hb dX12_alike_64 (by decide) (fun c308 => ?_) (fun c308 => ?_)
                      · exact mm_eqN c308.symm mm_k0 mm_k1 (by decide)
                      · refine lv_iconst (v := 1) hx hb dX12_alike_67 (by decide) ?_
                        refine lv_goto (tgt := 72) hx hb dX12_alike_68 (by decide) ?_
                        refine lv_iadd hx hb dX12_alike_72 ?_
                        refine lv_topi (fun v309 ev309 => ?_)
                        refine lv_istore (lv' := [(4, .int v309), (5, .int x46_5_297), (0, .ref a_0), (1, .int i_0), (2, .int i_1), (3, .int i_2)]) hx hb dX12_alike_73 hl (by decide) rfl ?_
                        clear hl
                        clear ls
                        intro ls hl
                        obtain ⟨v310, ev310⟩ : ∃ y : Int32, y = x46_5_297 + 1 := ⟨_, rfl⟩
                        refine lv_iinc (v := v310) (lv' := [(5, .int v310), (4, .int v309), (0, .ref a_0), (1, .int i_0), (2, .int i_1), (3, .int i_2)]) hx hb dX12_alike_75 hl (k := 1) rfl (by rw [ev310]; rfl) (by decide) rfl ?_
                        clear hl
                        clear ls
                        intro ls hl
                        have rv310 : mm_rg v310 1 10000 := mm_add ev310 q302 mm_k1 (by decide) (by decide)
                        have tv310 := mm_addEc ev310 q302 mm_k1 (by decide) (k := 1) (by decide)
                        refine lv_goto (tgt := 46) hx hb dX12_alike_78 (by decide) ?_
                        exact ih46 v310 v309 (mm_wk rv310 (by decide)) (mm_mu hm46 tv310 (by decide) (rv310).2 (by decide)) H locs hP hD hS ls (lv_sub hl [0, 1, 2, 3, 4, 5] rfl)
              exact L46_298 _ 0 0 (mm_wk mm_k0 (by decide)) (Nat.lt_succ_self _) H locs hP hD hS ls (lv_sub hl [0, 1, 2, 3, 4, 5] rfl)
            · exact mm_eqN c28.symm mm_k0 mm_k1 (by decide)

set_option maxHeartbeats 4000000 in
set_option maxRecDepth 100000 in
theorem M197_X12_isSlot (l : Launch) (G : va_G) (cy : Nat → ClassId) (sz : Nat) (i_0 : Int32)   : mm_CI l yX12_isSlot (mm_ws yX12_isSlot cX12_isSlot 1 (some .boolean)) ({ frames := 1, cells := 0, slots := 0, locals := 25 } : Room) G cy sz [] [.int i_0] (fun u : Unit => []) (fun (r : Int32) (u : Unit) => ((0 = r) ∨ (1 = r ∧ mm_rg i_0 0 3))) 0 0 := by
  refine mm_begin (lv := [(0, .int i_0)]) (by decide) (Nat.le_of_ble_eq_true rfl) rfl ?_
  intro p e s m below meth c A ls R args Q H locs hRe hQ hAe hx hb hr hlocks hml hown hnm hts hsz hA hS hP hK hD hZ hl
  have hRf : R.frames = 1 := by rw [hRe]
  have hRl : R.locals = 25 := by rw [hRe]
  have hRc : R.cells = 0 := by rw [hRe]
  have hRs : R.slots = 0 := by rw [hRe]
  refine lv_iload_n hx hb dX12_isSlot_0 rfl (lv_at hl 0 rfl) ?_
  obtain ⟨v1, ev1⟩ : ∃ y : Int64, y = i_0.toInt64 := ⟨_, rfl⟩
  refine lv_i2l hx hb dX12_isSlot_1 ev1.symm ?_
  have rv1 : mm_rl v1 (-2147483648) 2147483647 := mm_i2l ev1 (mm_top i_0)
  refine lv_lconst (v := 0) hx hb dX12_isSlot_2 (by decide) ?_
  refine lv_ldc2 (v := 3) hx hb hown (mm_h hts mm_w1272) dX12_isSlot_3 ?_
  refine mm_finir (va_runS (As := [.long v1, .long 0, .long 3]) (rest := []) ⟨hx, hb, hml, hown, hts⟩ (M7_X12_in l G cy H.size v1 3 ) (va_cwS 3 hts (mm_gS mm_w191 mm_w192 mm_w5 mm_w193) rfl rfl rfl hs_X12_in ⟨by rw [hRf]; exact Nat.le_of_ble_eq_true rfl, by rw [hRl]; exact Nat.le_of_ble_eq_true rfl⟩) (mm_preS hK hZ hS hA hP hD [] rfl rfl) rfl rfl hl.1 rfl (lv_room (Nat.le_of_ble_eq_true rfl)) dX12_isSlot_6 ⟨by rw [hRc]; exact Nat.le_of_ble_eq_true rfl, by rw [hRs]; exact Nat.le_of_ble_eq_true rfl⟩) hP hD hS hA [] rfl (fun _ => rfl) ?_
  clear hP hD hS
  clear H locs
  intro v2 _u H locs hw hP hD hS
  rcases hw with ⟨rfl, w3⟩ | ⟨rfl, w4, w5, w6, w7⟩
  · subst hAe
    rw [hQ]
    exact W.zret (v := 0) hx hb hr rfl (fun t ht hW => ⟨⟨0, (), rfl, (Or.inl rfl), by rw [ht]; exact hP, hK.warm hW, hD⟩, hS.F ht⟩) hS.2.2 dX12_isSlot_9
  · have q8 := mm_meetl (lo := 0) (hi := 2147483647) w4 rv1 (by decide)
    have q9 := mm_meet (lo := 0) (hi := 2147483647) (mm_l2x ev1 q8) (mm_top i_0) (by decide)
    have q10 := mm_leLl w6 q8 mm_kl3
    have q11 := mm_meet (lo := 0) (hi := 3) (mm_l2x ev1 q10) q9 (by decide)
    subst hAe
    rw [hQ]
    exact W.zret (v := 1) hx hb hr rfl (fun t ht hW => ⟨⟨1, (), rfl, (Or.inr ⟨rfl, q11⟩), by rw [ht]; exact hP, hK.warm hW, hD⟩, hS.F ht⟩) hS.2.2 dX12_isSlot_9

set_option maxHeartbeats 4000000 in
set_option maxRecDepth 100000 in
theorem M198_X12_whyNot (l : Launch) (G : va_G) (cy : Nat → ClassId) (sz : Nat) (a_0 : Nat) (i_0 : Int32)   : mm_CI l yX12_whyNot (mm_ws yX12_whyNot cX12_whyNot 4 (some .int)) ({ frames := 2, cells := 0, slots := 0, locals := 45 } : Room) G cy sz [] [.ref a_0, .int i_0, .int 0] (fun u : Unit => []) (fun (r : Int32) (u : Unit) => (-2) = r) 0 0 := by
  refine mm_begin (lv := [(0, .ref a_0), (1, .int i_0), (2, .int 0)]) (by decide) (Nat.le_of_ble_eq_true rfl) rfl ?_
  intro p e s m below meth c A ls R args Q H locs hRe hQ hAe hx hb hr hlocks hml hown hnm hts hsz hA hS hP hK hD hZ hl
  have hRf : R.frames = 2 := by rw [hRe]
  have hRl : R.locals = 45 := by rw [hRe]
  have hRc : R.cells = 0 := by rw [hRe]
  have hRs : R.slots = 0 := by rw [hRe]
  refine lv_iload_n hx hb dX12_whyNot_0 rfl (lv_at hl 1 rfl) ?_
  refine mm_finir (va_runS (As := [.int i_0]) (rest := []) ⟨hx, hb, hml, hown, hts⟩ (M197_X12_isSlot l G cy H.size i_0 ) (va_cwS 1 hts (mm_gS mm_w1269 mm_w1270 mm_w5 mm_w1271) rfl rfl rfl hs_X12_isSlot ⟨by rw [hRf]; exact Nat.le_of_ble_eq_true rfl, by rw [hRl]; exact Nat.le_of_ble_eq_true rfl⟩) (mm_preS hK hZ hS hA hP hD [] rfl rfl) rfl rfl hl.1 rfl (lv_room (Nat.le_of_ble_eq_true rfl)) dX12_whyNot_1 ⟨by rw [hRc]; exact Nat.le_of_ble_eq_true rfl, by rw [hRs]; exact Nat.le_of_ble_eq_true rfl⟩) hP hD hS hA [] rfl (fun _ => rfl) ?_
  clear hP hD hS
  clear H locs
  intro v1 _u H locs hw hP hD hS
  rcases hw with rfl | ⟨rfl, w2⟩
  · refine lv_if_eq (tgt := 11) hx hb dX12_whyNot_4 (by decide) (fun c3 => ?_) (fun c3 => ?_)
    · refine lv_bipush (v := (-2)) hx hb dX12_whyNot_11 (by decide) ?_
      subst hAe
      rw [hQ]
      exact W.iret (v := (-2)) hx hb hr (fun t ht hW => ⟨⟨(-2), (), rfl, rfl, by rw [ht]; exact hP, hK.warm hW, hD⟩, hS.F ht⟩) hS.2.2 dX12_whyNot_13
    · have q4 := mm_neL (lo := 1) (mm_ne c3) mm_k0 mm_k0 (by decide) (by decide)
      exact mm_no q4 (by decide)
  · refine lv_if_eq (tgt := 11) hx hb dX12_whyNot_4 (by decide) (fun c5 => ?_) (fun c5 => ?_)
    · exact mm_eqN c5.symm mm_k0 mm_k1 (by decide)
    · refine lv_iload_n hx hb dX12_whyNot_7 rfl (lv_at hl 2 rfl) ?_
      refine lv_if_ne (tgt := 14) hx hb dX12_whyNot_8 (by decide) (fun c6 => ?_) (fun c6 => ?_)
      · have q7 := mm_neL (lo := 1) (mm_ne c6) mm_k0 mm_k0 (by decide) (by decide)
        exact mm_no q7 (by decide)
      · refine lv_bipush (v := (-2)) hx hb dX12_whyNot_11 (by decide) ?_
        subst hAe
        rw [hQ]
        exact W.iret (v := (-2)) hx hb hr (fun t ht hW => ⟨⟨(-2), (), rfl, rfl, by rw [ht]; exact hP, hK.warm hW, hD⟩, hS.F ht⟩) hS.2.2 dX12_whyNot_13

set_option maxHeartbeats 4000000 in
set_option maxRecDepth 100000 in
theorem M199_X12_isStock (l : Launch) (G : va_G) (cy : Nat → ClassId) (sz : Nat) (j_0 : Int64)   : mm_CI l yX12_isStock (mm_ws yX12_isStock cX12_isStock 2 (some .boolean)) ({ frames := 1, cells := 0, slots := 0, locals := 25 } : Room) G cy sz [] [.long j_0] (fun u : Unit => []) (fun (r : Int32) (u : Unit) => ((0 = r) ∨ (1 = r ∧ mm_rl j_0 0 9999))) 0 0 := by
  refine mm_begin (lv := [(0, .long j_0)]) (by decide) (Nat.le_of_ble_eq_true rfl) rfl ?_
  intro p e s m below meth c A ls R args Q H locs hRe hQ hAe hx hb hr hlocks hml hown hnm hts hsz hA hS hP hK hD hZ hl
  have hRf : R.frames = 1 := by rw [hRe]
  have hRl : R.locals = 25 := by rw [hRe]
  have hRc : R.cells = 0 := by rw [hRe]
  have hRs : R.slots = 0 := by rw [hRe]
  refine lv_lload_n hx hb dX12_isStock_0 rfl (lv_at hl 0 rfl) ?_
  refine lv_lconst (v := 0) hx hb dX12_isStock_1 (by decide) ?_
  refine lv_ldc2 (v := 9999) hx hb hown (mm_h hts mm_w925) dX12_isStock_2 ?_
  refine mm_finir (va_runS (As := [.long j_0, .long 0, .long 9999]) (rest := []) ⟨hx, hb, hml, hown, hts⟩ (M7_X12_in l G cy H.size j_0 9999 ) (va_cwS 3 hts (mm_gS mm_w191 mm_w192 mm_w5 mm_w193) rfl rfl rfl hs_X12_in ⟨by rw [hRf]; exact Nat.le_of_ble_eq_true rfl, by rw [hRl]; exact Nat.le_of_ble_eq_true rfl⟩) (mm_preS hK hZ hS hA hP hD [] rfl rfl) rfl rfl hl.1 rfl (lv_room (Nat.le_of_ble_eq_true rfl)) dX12_isStock_5 ⟨by rw [hRc]; exact Nat.le_of_ble_eq_true rfl, by rw [hRs]; exact Nat.le_of_ble_eq_true rfl⟩) hP hD hS hA [] rfl (fun _ => rfl) ?_
  clear hP hD hS
  clear H locs
  intro v1 _u H locs hw hP hD hS
  rcases hw with ⟨rfl, w2⟩ | ⟨rfl, w3, w4, w5, w6⟩
  · subst hAe
    rw [hQ]
    exact W.zret (v := 0) hx hb hr rfl (fun t ht hW => ⟨⟨0, (), rfl, (Or.inl rfl), by rw [ht]; exact hP, hK.warm hW, hD⟩, hS.F ht⟩) hS.2.2 dX12_isStock_8
  · have q7 := mm_leLl w5 w3 mm_kl9999
    subst hAe
    rw [hQ]
    exact W.zret (v := 1) hx hb hr rfl (fun t ht hW => ⟨⟨1, (), rfl, (Or.inr ⟨rfl, q7⟩), by rw [ht]; exact hP, hK.warm hW, hD⟩, hS.F ht⟩) hS.2.2 dX12_isStock_8

set_option maxHeartbeats 4000000 in
set_option maxRecDepth 100000 in
theorem M200_X12_whyNot (l : Launch) (G : va_G) (cy : Nat → ClassId) (sz : Nat) (a_0 : Nat) (i_0 : Int32) (i_1 : Int32) (a_1 : Nat) (a_2 : Nat) (a_3 : Nat) (a_4 : Nat) (a_5 : Nat) (i_2 : Int32) (i_3 : Int32) (i_4 : Int32) (i_5 : Int32) (i_6 : Int32) (j_0 : Int64) (i_7 : Int32) (i_8 : Int32) (i_9 : Int32) (i_10 : Int32) (a_6 : Nat) (a_7 : Nat) (a_8 : Nat) (a_9 : Nat) (a_10 : Nat) (a_11 : Nat) (a_12 : Nat) (a_13 : Nat) (a_14 : Nat) (a_15 : Nat) (a_16 : Nat) (a_17 : Nat) (a_18 : Nat) (i_11 : Int32) (i_12 : Int32) (i_13 : Int32) (i_14 : Int32) (i_15 : Int32) (i_16 : Int32) (a_19 : Nat) (i_17 : Int32) (a_20 : Nat) (f_0 : Nat → Int32) (f_1 : Nat → Int32) (f_2 : Nat → Int64) (i_18 : Int32) (i_19 : Int32) (i_20 : Int32) (i_21 : Int32) (i_22 : Int32) (i_23 : Int32) (i_24 : Int32) (i_25 : Int32) (i_26 : Int32) (i_27 : Int32) (i_28 : Int32) (i_29 : Int32) (i_30 : Int32) (i_31 : Int32) (i_32 : Int32) (i_33 : Int32) (i_34 : Int32) (i_35 : Int32) (i_36 : Int32) (i_37 : Int32) (i_38 : Int32) (i_39 : Int32) (i_40 : Int32) (i_41 : Int32) (i_42 : Int32) (i_43 : Int32) (i_44 : Int32) (i_45 : Int32) (i_46 : Int32) (i_47 : Int32) (h0 : mm_ar f_0 (-1) 3) (h1 : mm_ar f_1 0 60) (h2 : mm_rg i_18 0 10) (h3 : mm_rg i_19 0 99) (h4 : mm_rg i_20 0 9) (h5 : mm_rg i_21 0 3) (h6 : mm_rg i_22 0 6) (h7 : mm_rg i_23 0 30) (h8 : mm_rg i_24 0 10) (h9 : mm_rg i_25 0 99) (h10 : mm_rg i_26 0 9) (h11 : mm_rg i_27 0 3) (h12 : mm_rg i_28 0 6) (h13 : mm_rg i_29 0 30) (h14 : mm_rg i_30 0 10) (h15 : mm_rg i_31 0 99) (h16 : mm_rg i_32 0 9) (h17 : mm_rg i_33 0 3) (h18 : mm_rg i_34 0 6) (h19 : mm_rg i_35 0 30) (h20 : mm_rg i_36 0 10) (h21 : mm_rg i_37 0 99) (h22 : mm_rg i_38 0 9) (h23 : mm_rg i_39 0 3) (h24 : mm_rg i_40 0 6) (h25 : mm_rg i_41 0 30) (h26 : mm_rg i_42 0 10) (h27 : mm_rg i_43 0 99) (h28 : mm_rg i_44 0 9) (h29 : mm_rg i_45 0 3) (h30 : mm_rg i_46 0 6) (h31 : mm_rg i_47 0 30)  : mm_CI l yX12_whyNot (mm_ws yX12_whyNot cX12_whyNot 4 (some .int)) ({ frames := 2, cells := 0, slots := 0, locals := 47 } : Room) G cy sz [(a_0, .inr (12, [.int i_1, .ref a_1, .ref a_2, .ref a_3, .ref a_4, .ref a_5, .int i_2, .int i_3, .int i_4, .int i_5, .int i_6, .long j_0, .int i_7, .int i_8, .int i_9, .int i_10, .ref a_6, .ref a_7, .ref a_8, .ref a_9, .ref a_10, .ref a_11, .ref a_12, .ref a_13, .ref a_14, .ref a_15, .ref a_16, .ref a_17, .ref a_18, .int i_11, .int i_12, .int i_13, .int i_14, .int i_15, .int i_16, .ref a_19, .int i_17, .ref a_20])), (a_1, .inl (cy 1, 4, .inl f_0)), (a_2, .inl (cy 1, 4, .inl f_1)), (a_3, .inl (cy 2, 240, .inr (.inl f_2))), (a_7, .inl (cy 1, 30, .inl (mm_g [i_18, i_19, i_20, i_21, i_22, i_23, i_24, i_25, i_26, i_27, i_28, i_29, i_30, i_31, i_32, i_33, i_34, i_35, i_36, i_37, i_38, i_39, i_40, i_41, i_42, i_43, i_44, i_45, i_46, i_47])))] [.ref a_0, .int i_0, .int 1] (fun u : Unit => [(a_0, .inr (12, [.int i_1, .ref a_1, .ref a_2, .ref a_3, .ref a_4, .ref a_5, .int i_2, .int i_3, .int i_4, .int i_5, .int i_6, .long j_0, .int i_7, .int i_8, .int i_9, .int i_10, .ref a_6, .ref a_7, .ref a_8, .ref a_9, .ref a_10, .ref a_11, .ref a_12, .ref a_13, .ref a_14, .ref a_15, .ref a_16, .ref a_17, .ref a_18, .int i_11, .int i_12, .int i_13, .int i_14, .int i_15, .int i_16, .ref a_19, .int i_17, .ref a_20])), (a_1, .inl (cy 1, 4, .inl f_0)), (a_2, .inl (cy 1, 4, .inl f_1)), (a_3, .inl (cy 2, 240, .inr (.inl f_2))), (a_7, .inl (cy 1, 30, .inl (mm_g [i_18, i_19, i_20, i_21, i_22, i_23, i_24, i_25, i_26, i_27, i_28, i_29, i_30, i_31, i_32, i_33, i_34, i_35, i_36, i_37, i_38, i_39, i_40, i_41, i_42, i_43, i_44, i_45, i_46, i_47])))]) (fun (r : Int32) (u : Unit) => (((-2) = r) ∨ ((-6) = r ∧ mm_rg i_0 0 3) ∨ (0 = r ∧ mm_rg i_0 0 3 ∧ mm_wn f_2 f_1 i_0 i_22))) 0 0 := by
  refine mm_begin (lv := [(0, .ref a_0), (1, .int i_0), (2, .int 1)]) (by decide) (Nat.le_of_ble_eq_true rfl) rfl ?_
  intro p e s m below meth c A ls R args Q H locs hRe hQ hAe hx hb hr hlocks hml hown hnm hts hsz hA hS hP hK hD hZ hl
  have hRf : R.frames = 2 := by rw [hRe]
  have hRl : R.locals = 47 := by rw [hRe]
  have hRc : R.cells = 0 := by rw [hRe]
  have hRs : R.slots = 0 := by rw [hRe]
  refine lv_iload_n hx hb dX12_whyNot_0 rfl (lv_at hl 1 rfl) ?_
  refine mm_finir (va_runS (As := [.int i_0]) (rest := []) ⟨hx, hb, hml, hown, hts⟩ (M197_X12_isSlot l G cy H.size i_0 ) (va_cwS 1 hts (mm_gS mm_w1269 mm_w1270 mm_w5 mm_w1271) rfl rfl rfl hs_X12_isSlot ⟨by rw [hRf]; exact Nat.le_of_ble_eq_true rfl, by rw [hRl]; exact Nat.le_of_ble_eq_true rfl⟩) (mm_preS hK hZ hS hA hP hD [] rfl rfl) rfl rfl hl.1 rfl (lv_room (Nat.le_of_ble_eq_true rfl)) dX12_whyNot_1 ⟨by rw [hRc]; exact Nat.le_of_ble_eq_true rfl, by rw [hRs]; exact Nat.le_of_ble_eq_true rfl⟩) hP hD hS hA [] rfl (fun _ => rfl) ?_
  clear hP hD hS
  clear H locs
  intro v1 _u H locs hw hP hD hS
  rcases hw with rfl | ⟨rfl, w2⟩
  · refine lv_if_eq (tgt := 11) hx hb dX12_whyNot_4 (by decide) (fun c3 => ?_) (fun c3 => ?_)
    · refine lv_bipush (v := (-2)) hx hb dX12_whyNot_11 (by decide) ?_
      subst hAe
      rw [hQ]
      exact W.iret (v := (-2)) hx hb hr (fun t ht hW => ⟨⟨(-2), (), rfl, (Or.inl rfl), by rw [ht]; exact hP, hK.warm hW, hD⟩, hS.F ht⟩) hS.2.2 dX12_whyNot_13
    · have q4 := mm_neL (lo := 1) (mm_ne c3) mm_k0 mm_k0 (by decide) (by decide)
      exact mm_no q4 (by decide)
  · refine lv_if_eq (tgt := 11) hx hb dX12_whyNot_4 (by decide) (fun c5 => ?_) (fun c5 => ?_)
    · exact mm_eqN c5.symm mm_k0 mm_k1 (by decide)
    · refine lv_iload_n hx hb dX12_whyNot_7 rfl (lv_at hl 2 rfl) ?_
      refine lv_if_ne (tgt := 14) hx hb dX12_whyNot_8 (by decide) (fun c6 => ?_) (fun c6 => ?_)
      · refine lv_aload_n hx hb dX12_whyNot_14 rfl (lv_at hl 0 rfl) ?_
        refine va_get (D := G) (ci := 12) (v := .ref a_1) (C := RX12) (T := TX12) (N := 38) hx hb hts (mm_i inlX12) hown hK.1 hP 0 rfl rfl 1 (by decide) (mm_h hts mm_w142) (fun _ h9 => h9) rfl dX12_whyNot_15 ?_
        refine lv_iload_n hx hb dX12_whyNot_18 rfl (lv_at hl 1 rfl) ?_
        refine va_iald hx hb hK.1 hP 1 1 rfl rfl (mm_in w2 (by decide)) dX12_whyNot_19 ?_
        refine lv_topi (fun v7 ev7 => ?_)
        have rv7 : mm_rg v7 (-1) 3 := mm_eqv ev7 (h0 _)
        refine lv_iconst (v := (-1)) hx hb dX12_whyNot_20 (by decide) ?_
        refine lv_icmp_ne (tgt := 27) hx hb dX12_whyNot_21 (by decide) (fun c8 => ?_) (fun c8 => ?_)
        · have q9 := mm_neL (lo := 0) (mm_ne c8) rv7 mm_km1 (by decide) (by decide)
          refine lv_aload_n hx hb dX12_whyNot_27 rfl (lv_at hl 0 rfl) ?_
          refine va_get (D := G) (ci := 12) (v := .ref a_2) (C := RX12) (T := TX12) (N := 38) hx hb hts (mm_i inlX12) hown hK.1 hP 0 rfl rfl 2 (by decide) (mm_h hts mm_w143) (fun _ h9 => h9) rfl dX12_whyNot_28 ?_
          refine lv_iload_n hx hb dX12_whyNot_31 rfl (lv_at hl 1 rfl) ?_
          refine va_iald hx hb hK.1 hP 2 1 rfl rfl (mm_in w2 (by decide)) dX12_whyNot_32 ?_
          refine lv_topi (fun v10 ev10 => ?_)
          have rv10 : mm_rg v10 0 60 := mm_eqv ev10 (h1 _)
          refine lv_iconst (v := 2) hx hb dX12_whyNot_33 (by decide) ?_
          refine lv_irem hx hb dX12_whyNot_34 (mm_nz mm_k2 (by decide)) ?_
          refine lv_topi (fun v11 ev11 => ?_)
          have rv11 : mm_rg v11 0 1 := mm_rem ev11 rv10 mm_k2 (by decide) (by decide)
          refine lv_if_eq (tgt := 41) hx hb dX12_whyNot_35 (by decide) (fun c12 => ?_) (fun c12 => ?_)
          · have q13 := mm_eqI (lo := 0) (hi := 0) c12 rv11 mm_k0 (by decide)
            refine lv_iconst (v := 0) hx hb dX12_whyNot_41 (by decide) ?_
            refine lv_istore_n (lv' := [(3, .int 0), (0, .ref a_0), (1, .int i_0), (2, .int 1)]) hx hb dX12_whyNot_42 rfl hl (by decide) rfl ?_
            clear hl
            clear ls
            intro ls hl
            have L43_224 : ∀ (n : Nat) (x43_3_222 : Int32), mm_rg x43_3_222 0 60 → mm_evn x43_3_222 → mm_wns f_2 i_0 x43_3_222 i_22 → (60 - x43_3_222.toInt).toNat < n → ∀ (H : Heap) (locs : List Loc), va_P G vwCl [(a_0, .inr (12, [.int i_1, .ref a_1, .ref a_2, .ref a_3, .ref a_4, .ref a_5, .int i_2, .int i_3, .int i_4, .int i_5, .int i_6, .long j_0, .int i_7, .int i_8, .int i_9, .int i_10, .ref a_6, .ref a_7, .ref a_8, .ref a_9, .ref a_10, .ref a_11, .ref a_12, .ref a_13, .ref a_14, .ref a_15, .ref a_16, .ref a_17, .ref a_18, .int i_11, .int i_12, .int i_13, .int i_14, .int i_15, .int i_16, .ref a_19, .int i_17, .ref a_20])), (a_1, .inl (cy 1, 4, .inl f_0)), (a_2, .inl (cy 1, 4, .inl f_1)), (a_3, .inl (cy 2, 240, .inr (.inl f_2))), (a_7, .inl (cy 1, 30, .inl (mm_g [i_18, i_19, i_20, i_21, i_22, i_23, i_24, i_25, i_26, i_27, i_28, i_29, i_30, i_31, i_32, i_33, i_34, i_35, i_36, i_37, i_38, i_39, i_40, i_41, i_42, i_43, i_44, i_45, i_46, i_47])))] H → va_D A [(a_0, .inr (12, [.int i_1, .ref a_1, .ref a_2, .ref a_3, .ref a_4, .ref a_5, .int i_2, .int i_3, .int i_4, .int i_5, .int i_6, .long j_0, .int i_7, .int i_8, .int i_9, .int i_10, .ref a_6, .ref a_7, .ref a_8, .ref a_9, .ref a_10, .ref a_11, .ref a_12, .ref a_13, .ref a_14, .ref a_15, .ref a_16, .ref a_17, .ref a_18, .int i_11, .int i_12, .int i_13, .int i_14, .int i_15, .int i_16, .ref a_19, .int i_17, .ref a_20])), (a_1, .inl (cy 1, 4, .inl f_0)), (a_2, .inl (cy 1, 4, .inl f_1)), (a_3, .inl (cy 2, 240, .inr (.inl f_2))), (a_7, .inl (cy 1, 30, .inl (mm_g [i_18, i_19, i_20, i_21, i_22, i_23, i_24, i_25, i_26, i_27, i_28, i_29, i_30, i_31, i_32, i_33, i_34, i_35, i_36, i_37, i_38, i_39, i_40, i_41, i_42, i_43, i_44, i_45, i_46, i_47])))] → va_S A s.heap H locs → ∀ (ls : Array Slot), lv_has ls 4 [(3, .int x43_3_222), (0, .ref a_0), (1, .int i_0), (2, .int 1)] → W p l e R s m args below meth c H locs 0 0 Q (F0 m 43 ls []) := by
              intro n
              induction n with
              | zero => intro x43_3_222 rx43_3_222 w223 w224 hm; exact absurd hm (Nat.not_lt_zero _)
              | succ n ih43 =>
                intro x43_3_222 rx43_3_222 w223 w224 hm43 H locs hP hD hS ls hl
                refine lv_iload_n hx hb dX12_whyNot_43 rfl (lv_at hl 0 rfl) ?_
                refine lv_aload_n hx hb dX12_whyNot_44 rfl (lv_at hl 1 rfl) ?_
                refine va_get (D := G) (ci := 12) (v := .ref a_2) (C := RX12) (T := TX12) (N := 38) hx hb hts (mm_i inlX12) hown hK.1 hP 0 rfl rfl 2 (by decide) (mm_h hts mm_w143) (fun _ h9 => h9) rfl dX12_whyNot_45 ?_
                refine lv_iload_n hx hb dX12_whyNot_48 rfl (lv_at hl 2 rfl) ?_
                refine va_iald hx hb hK.1 hP 2 1 rfl rfl (mm_in w2 (by decide)) dX12_whyNot_49 ?_
                refine lv_topi (fun v226 ev226 => ?_)
                have rv226 : mm_rg v226 0 60 := mm_eqv ev226 (h1 _)
                obtain rfl : v10 = v226 := ev10.trans ev226.symm
                refine lv_icmp_ge (tgt := 99) hx hb dX12_whyNot_50 (by decide) (fun c227 => ?_) (fun c227 => ?_)
                · refine lv_iconst (v := 0) hx hb dX12_whyNot_99 (by decide) ?_
                  have w228 : mm_wn f_2 f_1 i_0 i_22 := (mm_wn_of w224 ev10 (mm_le c227))
                  subst hAe
                  rw [hQ]
                  exact W.iret (v := 0) hx hb hr (fun t ht hW => ⟨⟨0, (), rfl, (Or.inr (Or.inr ⟨rfl, w2, w228⟩)), by rw [ht]; exact hP, hK.warm hW, hD⟩, hS.F ht⟩) hS.2.2 dX12_whyNot_100
                · have q229 := mm_ltL (h := 59) (mm_nle c227) rx43_3_222 rv10 (by decide)
                  have q230 := mm_ltR (lo := 1) (mm_nle c227) rx43_3_222 rv10 (by decide)
                  have q231 : mm_rg x43_3_222 0 58 := mm_evn_d w223 q229 (by decide)
                  refine lv_aload_n hx hb dX12_whyNot_53 rfl (lv_at hl 1 rfl) ?_
                  refine lv_aload_n hx hb dX12_whyNot_54 rfl (lv_at hl 1 rfl) ?_
                  refine va_get (D := G) (ci := 12) (v := .ref a_3) (C := RX12) (T := TX12) (N := 38) hx hb hts (mm_i inlX12) hown hK.1 hP 0 rfl rfl 3 (by decide) (mm_h hts mm_w144) (fun _ h9 => h9) rfl dX12_whyNot_55 ?_
                  refine lv_bipush (v := 60) hx hb dX12_whyNot_58 (by decide) ?_
                  refine lv_iload_n hx hb dX12_whyNot_60 rfl (lv_at hl 2 rfl) ?_
                  refine lv_imul hx hb dX12_whyNot_61 ?_
                  refine lv_topi (fun v232 ev232 => ?_)
                  have rv232 : mm_rg v232 0 180 := mm_mul ev232 mm_k60 w2 (by decide) (by decide)
                  have tv232 := mm_mulEc ev232 mm_k60 w2 (by decide) (k := 60) (by decide)
                  refine lv_iload_n hx hb dX12_whyNot_62 rfl (lv_at hl 0 rfl) ?_
                  refine lv_iadd hx hb dX12_whyNot_63 ?_
                  refine lv_topi (fun v233 ev233 => ?_)
                  have rv233 : mm_rg v233 0 238 := mm_add ev233 rv232 q231 (by decide) (by decide)
                  have tv233 := mm_addE ev233 rv232 q231 (by decide)
                  refine va_lald hx hb hK.1 hP 3 2 rfl rfl (mm_in rv233 (by decide)) dX12_whyNot_64 ?_
                  refine lv_topl (fun v234 ev234 => ?_)
                  refine mm_finir (va_runV (As := [.long v234]) (rest := []) ⟨hx, hb, hml, hown, hts⟩ (M96_X12_isText l G cy H.size a_0 v234 i_1 a_1 a_2 a_3 a_4 a_5 i_2 i_3 i_4 i_5 i_6 j_0 i_7 i_8 i_9 i_10 a_6 a_7 a_8 a_9 a_10 a_11 a_12 a_13 a_14 a_15 a_16 a_17 a_18 i_11 i_12 i_13 i_14 i_15 i_16 a_19 i_17 a_20 i_18 i_19 i_20 i_21 i_22 i_23 i_24 i_25 i_26 i_27 i_28 i_29 i_30 i_31 i_32 i_33 i_34 i_35 i_36 i_37 i_38 i_39 i_40 i_41 i_42 i_43 i_44 i_45 i_46 i_47 h2 h3 h4 h5 h6 h7 h8 h9 h10 h11 h12 h13 h14 h15 h16 h17 h18 h19 h20 h21 h22 h23 h24 h25 h26 h27 h28 h29 h30 h31) (cwV 1 hts (mm_gV mm_w613 mm_w614 mm_w615 mm_w5 mm_w616) rfl rfl rfl hd_X12_isText ⟨by rw [hRf]; exact Nat.le_of_ble_eq_true rfl, by rw [hRl]; exact Nat.le_of_ble_eq_true rfl⟩) (mm_preV hK hZ hS hA hP hD [0, 4] rfl rfl 0 rfl rfl rfl) rfl rfl hl.1 rfl (lv_room (Nat.le_of_ble_eq_true rfl)) dX12_whyNot_65 ⟨by rw [hRc]; exact Nat.le_of_ble_eq_true rfl, by rw [hRs]; exact Nat.le_of_ble_eq_true rfl⟩) hP hD hS hA [0, 4] rfl (fun _ => rfl) ?_
                  clear hP hD hS
                  clear H locs
                  intro v235 _u H locs hw hP hD hS
                  rcases hw with rfl | ⟨rfl, w236, w237⟩
                  · refine lv_if_eq (tgt := 90) hx hb dX12_whyNot_68 (by decide) (fun c238 => ?_) (fun c238 => ?_)
                    · refine lv_bipush (v := (-2)) hx hb dX12_whyNot_90 (by decide) ?_
                      subst hAe
                      rw [hQ]
                      exact W.iret (v := (-2)) hx hb hr (fun t ht hW => ⟨⟨(-2), (), rfl, (Or.inl rfl), by rw [ht]; exact hP, hK.warm hW, hD⟩, hS.F ht⟩) hS.2.2 dX12_whyNot_92
                    · have q239 := mm_neL (lo := 1) (mm_ne c238) mm_k0 mm_k0 (by decide) (by decide)
                      exact mm_no q239 (by decide)
                  · refine lv_if_eq (tgt := 90) hx hb dX12_whyNot_68 (by decide) (fun c240 => ?_) (fun c240 => ?_)
                    · exact mm_eqN c240.symm mm_k0 mm_k1 (by decide)
                    · refine lv_aload_n hx hb dX12_whyNot_71 rfl (lv_at hl 1 rfl) ?_
                      refine va_get (D := G) (ci := 12) (v := .ref a_3) (C := RX12) (T := TX12) (N := 38) hx hb hts (mm_i inlX12) hown hK.1 hP 0 rfl rfl 3 (by decide) (mm_h hts mm_w144) (fun _ h9 => h9) rfl dX12_whyNot_72 ?_
                      refine lv_bipush (v := 60) hx hb dX12_whyNot_75 (by decide) ?_
                      refine lv_iload_n hx hb dX12_whyNot_77 rfl (lv_at hl 2 rfl) ?_
                      refine lv_imul hx hb dX12_whyNot_78 ?_
                      refine lv_topi (fun v241 ev241 => ?_)
                      have rv241 : mm_rg v241 0 180 := mm_mul ev241 mm_k60 w2 (by decide) (by decide)
                      have tv241 := mm_mulEc ev241 mm_k60 w2 (by decide) (k := 60) (by decide)
                      refine lv_iload_n hx hb dX12_whyNot_79 rfl (lv_at hl 0 rfl) ?_
                      refine lv_iadd hx hb dX12_whyNot_80 ?_
                      refine lv_topi (fun v242 ev242 => ?_)
                      have rv242 : mm_rg v242 0 238 := mm_add ev242 rv241 q231 (by decide) (by decide)
                      have tv242 := mm_addE ev242 rv241 q231 (by decide)
                      refine lv_iconst (v := 1) hx hb dX12_whyNot_81 (by decide) ?_
                      refine lv_iadd hx hb dX12_whyNot_82 ?_
                      refine lv_topi (fun v243 ev243 => ?_)
                      have rv243 : mm_rg v243 1 239 := mm_add ev243 rv242 mm_k1 (by decide) (by decide)
                      have tv243 := mm_addEc ev243 rv242 mm_k1 (by decide) (k := 1) (by decide)
                      refine va_lald hx hb hK.1 hP 3 2 rfl rfl (mm_in rv243 (by decide)) dX12_whyNot_83 ?_
                      refine lv_topl (fun v244 ev244 => ?_)
                      refine mm_finir (va_runS (As := [.long v244]) (rest := []) ⟨hx, hb, hml, hown, hts⟩ (M199_X12_isStock l G cy H.size v244 ) (va_cwS 1 hts (mm_gS mm_w922 mm_w923 mm_w5 mm_w924) rfl rfl rfl hs_X12_isStock ⟨by rw [hRf]; exact Nat.le_of_ble_eq_true rfl, by rw [hRl]; exact Nat.le_of_ble_eq_true rfl⟩) (mm_preS hK hZ hS hA hP hD [] rfl rfl) rfl rfl hl.1 rfl (lv_room (Nat.le_of_ble_eq_true rfl)) dX12_whyNot_84 ⟨by rw [hRc]; exact Nat.le_of_ble_eq_true rfl, by rw [hRs]; exact Nat.le_of_ble_eq_true rfl⟩) hP hD hS hA [] rfl (fun _ => rfl) ?_
                      clear hP hD hS
                      clear H locs
                      intro v245 _u H locs hw hP hD hS
                      rcases hw with rfl | ⟨rfl, w246⟩
                      · refine lv_if_ne (tgt := 93) hx hb dX12_whyNot_87 (by decide) (fun c247 => ?_) (fun c247 => ?_)
                        · have q248 := mm_neL (lo := 1) (mm_ne c247) mm_k0 mm_k0 (by decide) (by decide)
                          exact mm_no q248 (by decide)
                        · refine lv_bipush (v := (-2)) hx hb dX12_whyNot_90 (by decide) ?_
                          subst hAe
                          rw [hQ]
                          exact W.iret (v := (-2)) hx hb hr (fun t ht hW => ⟨⟨(-2), (), rfl, (Or.inl rfl), by rw [ht]; exact hP, hK.warm hW, hD⟩, hS.F ht⟩) hS.2.2 dX12_whyNot_92
                      · refine lv_if_ne (tgt := 93) hx hb dX12_whyNot_87 (by decide) (fun c249 => ?_) (fun c249 => ?_)
                        · obtain ⟨v250, ev250⟩ : ∃ y : Int32, y = x43_3_222 + 2 := ⟨_, rfl⟩
                          refine lv_iinc (v := v250) (lv' := [(3, .int v250), (0, .ref a_0), (1, .int i_0), (2, .int 1)]) hx hb dX12_whyNot_93 hl (k := 0) rfl (by rw [ev250]; rfl) (by decide) rfl ?_
                          clear hl
                          clear ls
                          intro ls hl
                          have rv250 : mm_rg v250 2 60 := mm_add ev250 q231 mm_k2 (by decide) (by decide)
                          have tv250 := mm_addEc ev250 q231 mm_k2 (by decide) (k := 2) (by decide)
                          refine lv_goto (tgt := 43) hx hb dX12_whyNot_96 (by decide) ?_
                          exact ih43 v250 (mm_wk rv250 (by decide)) (mm_evn_s w223 tv250) (mm_wns_s w224 tv250 ev234 w237 (by have := tv233; have := tv232; omega) q231 w2 (by decide)) (mm_mu hm43 tv250 (by decide) (rv250).2 (by decide)) H locs hP hD hS ls (lv_sub hl [0, 1, 2, 3] rfl)
                        · exact mm_eqN c249.symm mm_k0 mm_k1 (by decide)
            exact L43_224 _ 0 (mm_wk mm_k0 (by decide)) mm_evn_0 (mm_wns_0 _ _ _) (Nat.lt_succ_self _) H locs hP hD hS ls (lv_sub hl [0, 1, 2, 3] rfl)
          · have q251 := mm_neL (lo := 1) (mm_ne c12) rv11 mm_k0 (by decide) (by decide)
            refine lv_bipush (v := (-2)) hx hb dX12_whyNot_38 (by decide) ?_
            subst hAe
            rw [hQ]
            exact W.iret (v := (-2)) hx hb hr (fun t ht hW => ⟨⟨(-2), (), rfl, (Or.inl rfl), by rw [ht]; exact hP, hK.warm hW, hD⟩, hS.F ht⟩) hS.2.2 dX12_whyNot_40
        · have q252 := mm_eqI (lo := (-1)) (hi := (-1)) c8 rv7 mm_km1 (by decide)
          refine lv_bipush (v := (-6)) hx hb dX12_whyNot_24 (by decide) ?_
          subst hAe
          rw [hQ]
          exact W.iret (v := (-6)) hx hb hr (fun t ht hW => ⟨⟨(-6), (), rfl, (Or.inr (Or.inl ⟨rfl, w2⟩)), by rw [ht]; exact hP, hK.warm hW, hD⟩, hS.F ht⟩) hS.2.2 dX12_whyNot_26
      · exact mm_eqN c6.symm mm_k0 mm_k1 (by decide)

set_option maxHeartbeats 4000000 in
set_option maxRecDepth 100000 in
theorem M201_X12_isSo (l : Launch) (G : va_G) (cy : Nat → ClassId) (sz : Nat) (a_0 : Nat) (i_0 : Int32) (i_1 : Int32) (i_2 : Int32) (i_3 : Int32) (a_1 : Nat) (a_2 : Nat) (a_3 : Nat) (a_4 : Nat) (a_5 : Nat) (i_4 : Int32) (i_5 : Int32) (i_6 : Int32) (i_7 : Int32) (i_8 : Int32) (j_0 : Int64) (i_9 : Int32) (i_10 : Int32) (i_11 : Int32) (i_12 : Int32) (a_6 : Nat) (a_7 : Nat) (a_8 : Nat) (a_9 : Nat) (a_10 : Nat) (a_11 : Nat) (a_12 : Nat) (a_13 : Nat) (a_14 : Nat) (a_15 : Nat) (a_16 : Nat) (a_17 : Nat) (a_18 : Nat) (i_13 : Int32) (i_14 : Int32) (i_15 : Int32) (i_16 : Int32) (i_17 : Int32) (i_18 : Int32) (a_19 : Nat) (i_19 : Int32) (a_20 : Nat) (f_0 : Nat → Int32) (f_1 : Nat → Int64) (i_20 : Int32) (i_21 : Int32) (i_22 : Int32) (i_23 : Int32) (i_24 : Int32) (i_25 : Int32) (i_26 : Int32) (i_27 : Int32) (i_28 : Int32) (i_29 : Int32) (i_30 : Int32) (i_31 : Int32) (i_32 : Int32) (i_33 : Int32) (i_34 : Int32) (i_35 : Int32) (i_36 : Int32) (i_37 : Int32) (i_38 : Int32) (i_39 : Int32) (i_40 : Int32) (i_41 : Int32) (i_42 : Int32) (i_43 : Int32) (i_44 : Int32) (i_45 : Int32) (i_46 : Int32) (i_47 : Int32) (i_48 : Int32) (i_49 : Int32) (f_2 : Nat → Int32) (f_3 : Nat → Int32) (f_4 : Nat → Int32) (f_5 : Nat → Int32) (f_6 : Nat → Int32) (f_7 : Nat → Int32) (f_8 : Nat → Int32) (h0 : mm_rg i_0 0 3) (h1 : mm_rg i_1 0 2) (h2 : mm_rg i_2 0 1100000000) (h3 : mm_rg i_13 0 8) (h4 : mm_ar f_0 0 60) (h5 : mm_rg i_20 0 10) (h6 : mm_rg i_21 0 99) (h7 : mm_rg i_22 0 9) (h8 : mm_rg i_23 0 3) (h9 : mm_rg i_24 0 6) (h10 : mm_rg i_25 0 30) (h11 : mm_rg i_26 0 10) (h12 : mm_rg i_27 0 99) (h13 : mm_rg i_28 0 9) (h14 : mm_rg i_29 0 3) (h15 : mm_rg i_30 0 6) (h16 : mm_rg i_31 0 30) (h17 : mm_rg i_32 0 10) (h18 : mm_rg i_33 0 99) (h19 : mm_rg i_34 0 9) (h20 : mm_rg i_35 0 3) (h21 : mm_rg i_36 0 6) (h22 : mm_rg i_37 0 30) (h23 : mm_rg i_38 0 10) (h24 : mm_rg i_39 0 99) (h25 : mm_rg i_40 0 9) (h26 : mm_rg i_41 0 3) (h27 : mm_rg i_42 0 6) (h28 : mm_rg i_43 0 30) (h29 : mm_rg i_44 0 10) (h30 : mm_rg i_45 0 99) (h31 : mm_rg i_46 0 9) (h32 : mm_rg i_47 0 3) (h33 : mm_rg i_48 0 6) (h34 : mm_rg i_49 0 30) (h35 : mm_ar f_2 0 99) (h36 : mm_ar f_3 0 8) (h37 : mm_ar f_4 0 9) (h38 : mm_ar f_5 (-1) 99) (h39 : mm_ar f_6 0 9) (h40 : mm_ar f_7 0 210) (h41 : mm_ar f_8 0 9) (h42 : mm_txs f_3 f_4 0 i_22 i_24) (h43 : mm_acs f_5 0 i_22 i_23 i_25) (h44 : mm_txs f_3 f_4 1 i_28 i_30) (h45 : mm_acs f_5 1 i_28 i_29 i_31) (h46 : mm_txs f_3 f_4 2 i_34 i_36) (h47 : mm_acs f_5 2 i_34 i_35 i_37) (h48 : mm_txs f_3 f_4 3 i_40 i_42) (h49 : mm_acs f_5 3 i_40 i_41 i_43) (h50 : mm_f1 f_7 i_1) (h51 : mm_wn f_1 f_0 i_0 i_24)  : mm_CI l yX12_isSo (mm_ws yX12_isSo cX12_isSo 5 (some .boolean)) ({ frames := 3, cells := 0, slots := 0, locals := 73 } : Room) G cy sz [(a_0, .inr (12, [.int i_3, .ref a_1, .ref a_2, .ref a_3, .ref a_4, .ref a_5, .int i_4, .int i_5, .int i_6, .int i_7, .int i_8, .long j_0, .int i_9, .int i_10, .int i_11, .int i_12, .ref a_6, .ref a_7, .ref a_8, .ref a_9, .ref a_10, .ref a_11, .ref a_12, .ref a_13, .ref a_14, .ref a_15, .ref a_16, .ref a_17, .ref a_18, .int i_13, .int i_14, .int i_15, .int i_16, .int i_17, .int i_18, .ref a_19, .int i_19, .ref a_20])), (a_2, .inl (cy 1, 4, .inl f_0)), (a_3, .inl (cy 2, 240, .inr (.inl f_1))), (a_7, .inl (cy 1, 30, .inl (mm_g [i_20, i_21, i_22, i_23, i_24, i_25, i_26, i_27, i_28, i_29, i_30, i_31, i_32, i_33, i_34, i_35, i_36, i_37, i_38, i_39, i_40, i_41, i_42, i_43, i_44, i_45, i_46, i_47, i_48, i_49]))), (a_8, .inl (cy 1, 90, .inl f_2)), (a_11, .inl (cy 1, 30, .inl f_3)), (a_12, .inl (cy 1, 240, .inl f_4)), (a_13, .inl (cy 1, 450, .inl f_5)), (a_15, .inl (cy 1, 7200, .inl f_6)), (a_16, .inl (cy 1, 3, .inl f_7)), (a_18, .inl (cy 1, 8, .inl f_8))] [.ref a_0, .int i_0, .int i_1, .int i_2] (fun u : Int32 × Int32 × Int32 × (Nat → Int32) => [(a_0, .inr (12, [.int i_3, .ref a_1, .ref a_2, .ref a_3, .ref a_4, .ref a_5, .int i_4, .int i_5, .int i_6, .int i_7, .int i_8, .long j_0, .int i_9, .int i_10, .int i_11, .int i_12, .ref a_6, .ref a_7, .ref a_8, .ref a_9, .ref a_10, .ref a_11, .ref a_12, .ref a_13, .ref a_14, .ref a_15, .ref a_16, .ref a_17, .ref a_18, .int u.1, .int u.2.1, .int u.2.2.1, .int i_16, .int i_17, .int i_18, .ref a_19, .int i_19, .ref a_20])), (a_2, .inl (cy 1, 4, .inl f_0)), (a_3, .inl (cy 2, 240, .inr (.inl f_1))), (a_7, .inl (cy 1, 30, .inl (mm_g [i_20, i_21, i_22, i_23, i_24, i_25, i_26, i_27, i_28, i_29, i_30, i_31, i_32, i_33, i_34, i_35, i_36, i_37, i_38, i_39, i_40, i_41, i_42, i_43, i_44, i_45, i_46, i_47, i_48, i_49]))), (a_8, .inl (cy 1, 90, .inl f_2)), (a_11, .inl (cy 1, 30, .inl f_3)), (a_12, .inl (cy 1, 240, .inl f_4)), (a_13, .inl (cy 1, 450, .inl f_5)), (a_15, .inl (cy 1, 7200, .inl f_6)), (a_16, .inl (cy 1, 3, .inl f_7)), (a_18, .inl (cy 1, 8, .inl u.2.2.2))]) (fun (r : Int32) (u : Int32 × Int32 × Int32 × (Nat → Int32)) => mm_rg u.1 0 8 ∧ mm_ar u.2.2.2 0 9 ∧ ((0 = r) ∨ (1 = r))) 0 0 := by
  refine mm_begin (lv := [(0, .ref a_0), (1, .int i_0), (2, .int i_1), (3, .int i_2)]) (by decide) (Nat.le_of_ble_eq_true rfl) rfl ?_
  intro p e s m below meth c A ls R args Q H locs hRe hQ hAe hx hb hr hlocks hml hown hnm hts hsz hA hS hP hK hD hZ hl
  have hRf : R.frames = 3 := by rw [hRe]
  have hRl : R.locals = 73 := by rw [hRe]
  have hRc : R.cells = 0 := by rw [hRe]
  have hRs : R.slots = 0 := by rw [hRe]
  refine lv_iconst (v := 0) hx hb dX12_isSo_0 (by decide) ?_
  refine lv_istore (lv' := [(4, .int 0), (0, .ref a_0), (1, .int i_0), (2, .int i_1), (3, .int i_2)]) hx hb dX12_isSo_1 hl (by decide) rfl ?_
  clear hl
  clear ls
  intro ls hl
  have L3_249 : ∀ (n : Nat) (x3_4_244 : Int32) (y3_0_29_245 : Int32) (y3_0_30_246 : Int32) (y3_0_31_247 : Int32) (z3_10_248 : Nat → Int32), mm_rg x3_4_244 0 60 → mm_rg y3_0_29_245 0 8 → mm_ar z3_10_248 0 9 → mm_evn x3_4_244 → (60 - x3_4_244.toInt).toNat < n → ∀ (H : Heap) (locs : List Loc), va_P G vwCl [(a_0, .inr (12, [.int i_3, .ref a_1, .ref a_2, .ref a_3, .ref a_4, .ref a_5, .int i_4, .int i_5, .int i_6, .int i_7, .int i_8, .long j_0, .int i_9, .int i_10, .int i_11, .int i_12, .ref a_6, .ref a_7, .ref a_8, .ref a_9, .ref a_10, .ref a_11, .ref a_12, .ref a_13, .ref a_14, .ref a_15, .ref a_16, .ref a_17, .ref a_18, .int y3_0_29_245, .int y3_0_30_246, .int y3_0_31_247, .int i_16, .int i_17, .int i_18, .ref a_19, .int i_19, .ref a_20])), (a_2, .inl (cy 1, 4, .inl f_0)), (a_3, .inl (cy 2, 240, .inr (.inl f_1))), (a_7, .inl (cy 1, 30, .inl (mm_g [i_20, i_21, i_22, i_23, i_24, i_25, i_26, i_27, i_28, i_29, i_30, i_31, i_32, i_33, i_34, i_35, i_36, i_37, i_38, i_39, i_40, i_41, i_42, i_43, i_44, i_45, i_46, i_47, i_48, i_49]))), (a_8, .inl (cy 1, 90, .inl f_2)), (a_11, .inl (cy 1, 30, .inl f_3)), (a_12, .inl (cy 1, 240, .inl f_4)), (a_13, .inl (cy 1, 450, .inl f_5)), (a_15, .inl (cy 1, 7200, .inl f_6)), (a_16, .inl (cy 1, 3, .inl f_7)), (a_18, .inl (cy 1, 8, .inl z3_10_248))] H → va_D A [(a_0, .inr (12, [.int i_3, .ref a_1, .ref a_2, .ref a_3, .ref a_4, .ref a_5, .int i_4, .int i_5, .int i_6, .int i_7, .int i_8, .long j_0, .int i_9, .int i_10, .int i_11, .int i_12, .ref a_6, .ref a_7, .ref a_8, .ref a_9, .ref a_10, .ref a_11, .ref a_12, .ref a_13, .ref a_14, .ref a_15, .ref a_16, .ref a_17, .ref a_18, .int y3_0_29_245, .int y3_0_30_246, .int y3_0_31_247, .int i_16, .int i_17, .int i_18, .ref a_19, .int i_19, .ref a_20])), (a_2, .inl (cy 1, 4, .inl f_0)), (a_3, .inl (cy 2, 240, .inr (.inl f_1))), (a_7, .inl (cy 1, 30, .inl (mm_g [i_20, i_21, i_22, i_23, i_24, i_25, i_26, i_27, i_28, i_29, i_30, i_31, i_32, i_33, i_34, i_35, i_36, i_37, i_38, i_39, i_40, i_41, i_42, i_43, i_44, i_45, i_46, i_47, i_48, i_49]))), (a_8, .inl (cy 1, 90, .inl f_2)), (a_11, .inl (cy 1, 30, .inl f_3)), (a_12, .inl (cy 1, 240, .inl f_4)), (a_13, .inl (cy 1, 450, .inl f_5)), (a_15, .inl (cy 1, 7200, .inl f_6)), (a_16, .inl (cy 1, 3, .inl f_7)), (a_18, .inl (cy 1, 8, .inl z3_10_248))] → va_S A s.heap H locs → ∀ (ls : Array Slot), lv_has ls 5 [(4, .int x3_4_244), (0, .ref a_0), (1, .int i_0), (2, .int i_1), (3, .int i_2)] → W p l e R s m args below meth c H locs 0 0 Q (F0 m 3 ls []) := by
    intro n
    induction n with
    | zero => intro x3_4_244 y3_0_29_245 y3_0_30_246 y3_0_31_247 z3_10_248 rx3_4_244 ry3_0_29_245 rz3_10_248 w249 hm; exact absurd hm (Nat.not_lt_zero _)
    | succ n ih3 =>
      intro x3_4_244 y3_0_29_245 y3_0_30_246 y3_0_31_247 z3_10_248 rx3_4_244 ry3_0_29_245 rz3_10_248 w249 hm3 H locs hP hD hS ls hl
      refine lv_iload hx hb dX12_isSo_3 (lv_at hl 0 rfl) ?_
      refine lv_aload_n hx hb dX12_isSo_5 rfl (lv_at hl 1 rfl) ?_
      refine va_get (D := G) (ci := 12) (v := .ref a_2) (C := RX12) (T := TX12) (N := 38) hx hb hts (mm_i inlX12) hown hK.1 hP 0 rfl rfl 2 (by decide) (mm_h hts mm_w143) (fun _ h9 => h9) rfl dX12_isSo_6 ?_
      refine lv_iload_n hx hb dX12_isSo_9 rfl (lv_at hl 2 rfl) ?_
      refine va_iald hx hb hK.1 hP 1 1 rfl rfl (mm_in h0 (by decide)) dX12_isSo_10 ?_
      refine lv_topi (fun v251 ev251 => ?_)
      have rv251 : mm_rg v251 0 60 := mm_eqv ev251 (h4 _)
      refine lv_icmp_ge (tgt := 60) hx hb dX12_isSo_11 (by decide) (fun c252 => ?_) (fun c252 => ?_)
      · refine lv_iconst (v := 1) hx hb dX12_isSo_60 (by decide) ?_
        subst hAe
        rw [hQ]
        exact W.zret (v := 1) hx hb hr rfl (fun t ht hW => ⟨⟨1, (y3_0_29_245, y3_0_30_246, y3_0_31_247, z3_10_248), rfl, ⟨ry3_0_29_245, rz3_10_248, (Or.inr rfl)⟩, by rw [ht]; exact hP, hK.warm hW, hD⟩, hS.F ht⟩) hS.2.2 dX12_isSo_61
      · have q253 := mm_ltL (h := 59) (mm_nle c252) rx3_4_244 rv251 (by decide)
        have q254 := mm_ltR (lo := 1) (mm_nle c252) rx3_4_244 rv251 (by decide)
        have q255 : mm_rg x3_4_244 0 58 := mm_evn_d w249 q253 (by decide)
        refine lv_aload_n hx hb dX12_isSo_14 rfl (lv_at hl 1 rfl) ?_
        refine lv_iload_n hx hb dX12_isSo_15 rfl (lv_at hl 3 rfl) ?_
        refine lv_iload_n hx hb dX12_isSo_16 rfl (lv_at hl 4 rfl) ?_
        refine lv_aload_n hx hb dX12_isSo_17 rfl (lv_at hl 1 rfl) ?_
        refine va_get (D := G) (ci := 12) (v := .ref a_3) (C := RX12) (T := TX12) (N := 38) hx hb hts (mm_i inlX12) hown hK.1 hP 0 rfl rfl 3 (by decide) (mm_h hts mm_w144) (fun _ h9 => h9) rfl dX12_isSo_18 ?_
        refine lv_bipush (v := 60) hx hb dX12_isSo_21 (by decide) ?_
        refine lv_iload_n hx hb dX12_isSo_23 rfl (lv_at hl 2 rfl) ?_
        refine lv_imul hx hb dX12_isSo_24 ?_
        refine lv_topi (fun v256 ev256 => ?_)
        have rv256 : mm_rg v256 0 180 := mm_mul ev256 mm_k60 h0 (by decide) (by decide)
        have tv256 := mm_mulEc ev256 mm_k60 h0 (by decide) (k := 60) (by decide)
        refine lv_iload hx hb dX12_isSo_25 (lv_at hl 0 rfl) ?_
        refine lv_iadd hx hb dX12_isSo_27 ?_
        refine lv_topi (fun v257 ev257 => ?_)
        have rv257 : mm_rg v257 0 238 := mm_add ev257 rv256 q255 (by decide) (by decide)
        have tv257 := mm_addE ev257 rv256 q255 (by decide)
        refine va_lald hx hb hK.1 hP 2 2 rfl rfl (mm_in rv257 (by decide)) dX12_isSo_28 ?_
        refine lv_topl (fun v258 ev258 => ?_)
        have q259 : mm_rl v258 0 5 := mm_wn_ld h51 w249 ev258 (by have := tv257; have := tv256; omega) ev251 (mm_nle c252) q255 h0 h9 (by decide)
        obtain ⟨v260, ev260⟩ : ∃ y : Int32, y = v258.toInt32 := ⟨_, rfl⟩
        refine lv_l2i hx hb dX12_isSo_29 ev260.symm ?_
        have rv260 : mm_rg v260 0 5 := mm_l2i ev260 q259 (by decide)
        refine mm_fini (va_runV (As := [.int i_1, .int i_2, .int v260]) (rest := []) ⟨hx, hb, hml, hown, hts⟩ (M141_X12_reads l G cy H.size a_0 i_1 i_2 v260 i_3 a_1 a_2 a_3 a_4 a_5 i_4 i_5 i_6 i_7 i_8 j_0 i_9 i_10 i_11 i_12 a_6 a_7 a_8 a_9 a_10 a_11 a_12 a_13 a_14 a_15 a_16 a_17 a_18 y3_0_29_245 y3_0_30_246 y3_0_31_247 i_16 i_17 i_18 a_19 i_19 a_20 i_20 i_21 i_22 i_23 i_24 i_25 i_26 i_27 i_28 i_29 i_30 i_31 i_32 i_33 i_34 i_35 i_36 i_37 i_38 i_39 i_40 i_41 i_42 i_43 i_44 i_45 i_46 i_47 i_48 i_49 f_2 f_3 f_4 f_5 f_6 f_7 z3_10_248 h1 h2 rv260 ry3_0_29_245 h5 h6 h7 h8 h9 h10 h11 h12 h13 h14 h15 h16 h17 h18 h19 h20 h21 h22 h23 h24 h25 h26 h27 h28 h29 h30 h31 h32 h33 h34 h35 h36 h37 h38 h39 h40 rz3_10_248 h42 h43 h44 h45 h46 h47 h48 h49 h50) (cwV 3 hts (mm_gV mm_w852 mm_w853 mm_w854 mm_w5 mm_w855) rfl rfl rfl hd_X12_reads ⟨by rw [hRf]; exact Nat.le_of_ble_eq_true rfl, by rw [hRl]; exact Nat.le_of_ble_eq_true rfl⟩) (mm_preV hK hZ hS hA hP hD [0, 3, 4, 5, 6, 7, 8, 9, 10] rfl rfl 0 rfl rfl rfl) rfl rfl hl.1 rfl (lv_room (Nat.le_of_ble_eq_true rfl)) dX12_isSo_30 ⟨by rw [hRc]; exact Nat.le_of_ble_eq_true rfl, by rw [hRs]; exact Nat.le_of_ble_eq_true rfl⟩) hP hD hS hA (fun u : Int32 × Int32 × Int32 × (Nat → Int32) => [(a_0, .inr (12, [.int i_3, .ref a_1, .ref a_2, .ref a_3, .ref a_4, .ref a_5, .int i_4, .int i_5, .int i_6, .int i_7, .int i_8, .long j_0, .int i_9, .int i_10, .int i_11, .int i_12, .ref a_6, .ref a_7, .ref a_8, .ref a_9, .ref a_10, .ref a_11, .ref a_12, .ref a_13, .ref a_14, .ref a_15, .ref a_16, .ref a_17, .ref a_18, .int u.1, .int u.2.1, .int u.2.2.1, .int i_16, .int i_17, .int i_18, .ref a_19, .int i_19, .ref a_20])), (a_2, .inl (cy 1, 4, .inl f_0)), (a_3, .inl (cy 2, 240, .inr (.inl f_1))), (a_7, .inl (cy 1, 30, .inl (mm_g [i_20, i_21, i_22, i_23, i_24, i_25, i_26, i_27, i_28, i_29, i_30, i_31, i_32, i_33, i_34, i_35, i_36, i_37, i_38, i_39, i_40, i_41, i_42, i_43, i_44, i_45, i_46, i_47, i_48, i_49]))), (a_8, .inl (cy 1, 90, .inl f_2)), (a_11, .inl (cy 1, 30, .inl f_3)), (a_12, .inl (cy 1, 240, .inl f_4)), (a_13, .inl (cy 1, 450, .inl f_5)), (a_15, .inl (cy 1, 7200, .inl f_6)), (a_16, .inl (cy 1, 3, .inl f_7)), (a_18, .inl (cy 1, 8, .inl u.2.2.2))]) [0, 3, 4, 5, 6, 7, 8, 9, 10] [1, 2] (n := 11) (fun _ => rfl) (by decide +kernel) (by decide +kernel) rfl (fun _ => rfl) (wr := [(a_2, .inl (cy 1, 4, .inl f_0)), (a_3, .inl (cy 2, 240, .inr (.inl f_1)))]) rfl (fun _ => rfl) (fun _ => @rfl _ ([a_0, a_7, a_8, a_11, a_12, a_13, a_15, a_16, a_18] : List Nat)) ?_
        clear hP hD hS
        clear H locs
        intro v265 u
        obtain ⟨n261, n262, n263, n264⟩ := u
        intro H locs hw (hP : va_P G vwCl [(a_0, .inr (12, [.int i_3, .ref a_1, .ref a_2, .ref a_3, .ref a_4, .ref a_5, .int i_4, .int i_5, .int i_6, .int i_7, .int i_8, .long j_0, .int i_9, .int i_10, .int i_11, .int i_12, .ref a_6, .ref a_7, .ref a_8, .ref a_9, .ref a_10, .ref a_11, .ref a_12, .ref a_13, .ref a_14, .ref a_15, .ref a_16, .ref a_17, .ref a_18, .int n261, .int n262, .int n263, .int i_16, .int i_17, .int i_18, .ref a_19, .int i_19, .ref a_20])), (a_2, .inl (cy 1, 4, .inl f_0)), (a_3, .inl (cy 2, 240, .inr (.inl f_1))), (a_7, .inl (cy 1, 30, .inl (mm_g [i_20, i_21, i_22, i_23, i_24, i_25, i_26, i_27, i_28, i_29, i_30, i_31, i_32, i_33, i_34, i_35, i_36, i_37, i_38, i_39, i_40, i_41, i_42, i_43, i_44, i_45, i_46, i_47, i_48, i_49]))), (a_8, .inl (cy 1, 90, .inl f_2)), (a_11, .inl (cy 1, 30, .inl f_3)), (a_12, .inl (cy 1, 240, .inl f_4)), (a_13, .inl (cy 1, 450, .inl f_5)), (a_15, .inl (cy 1, 7200, .inl f_6)), (a_16, .inl (cy 1, 3, .inl f_7)), (a_18, .inl (cy 1, 8, .inl n264))] H) (hD : va_D A [(a_0, .inr (12, [.int i_3, .ref a_1, .ref a_2, .ref a_3, .ref a_4, .ref a_5, .int i_4, .int i_5, .int i_6, .int i_7, .int i_8, .long j_0, .int i_9, .int i_10, .int i_11, .int i_12, .ref a_6, .ref a_7, .ref a_8, .ref a_9, .ref a_10, .ref a_11, .ref a_12, .ref a_13, .ref a_14, .ref a_15, .ref a_16, .ref a_17, .ref a_18, .int n261, .int n262, .int n263, .int i_16, .int i_17, .int i_18, .ref a_19, .int i_19, .ref a_20])), (a_2, .inl (cy 1, 4, .inl f_0)), (a_3, .inl (cy 2, 240, .inr (.inl f_1))), (a_7, .inl (cy 1, 30, .inl (mm_g [i_20, i_21, i_22, i_23, i_24, i_25, i_26, i_27, i_28, i_29, i_30, i_31, i_32, i_33, i_34, i_35, i_36, i_37, i_38, i_39, i_40, i_41, i_42, i_43, i_44, i_45, i_46, i_47, i_48, i_49]))), (a_8, .inl (cy 1, 90, .inl f_2)), (a_11, .inl (cy 1, 30, .inl f_3)), (a_12, .inl (cy 1, 240, .inl f_4)), (a_13, .inl (cy 1, 450, .inl f_5)), (a_15, .inl (cy 1, 7200, .inl f_6)), (a_16, .inl (cy 1, 3, .inl f_7)), (a_18, .inl (cy 1, 8, .inl n264))]) hS
        obtain ⟨w266, w267, hw⟩ := hw
        obtain ⟨w268, w269⟩ := hw
        replace w269 : mm_rd f_6 f_7 f_2 f_3 f_4 f_5 i_1 i_2 v260 i_21 i_22 i_25 v265 := w269
        obtain ⟨v270, ev270⟩ : ∃ y : Int64, y = v265.toInt64 := ⟨_, rfl⟩
        refine lv_i2l hx hb dX12_isSo_33 ev270.symm ?_
        have rv270 : mm_rl v270 0 9999 := mm_i2l ev270 w268
        refine lv_aload_n hx hb dX12_isSo_34 rfl (lv_at hl 1 rfl) ?_
        refine va_get (D := G) (ci := 12) (v := .ref a_3) (C := RX12) (T := TX12) (N := 38) hx hb hts (mm_i inlX12) hown hK.1 hP 0 rfl rfl 3 (by decide) (mm_h hts mm_w144) (fun _ h9 => h9) rfl dX12_isSo_35 ?_
        refine lv_bipush (v := 60) hx hb dX12_isSo_38 (by decide) ?_
        refine lv_iload_n hx hb dX12_isSo_40 rfl (lv_at hl 2 rfl) ?_
        refine lv_imul hx hb dX12_isSo_41 ?_
        refine lv_topi (fun v271 ev271 => ?_)
        have rv271 : mm_rg v271 0 180 := mm_mul ev271 mm_k60 h0 (by decide) (by decide)
        have tv271 := mm_mulEc ev271 mm_k60 h0 (by decide) (k := 60) (by decide)
        refine lv_iload hx hb dX12_isSo_42 (lv_at hl 0 rfl) ?_
        refine lv_iadd hx hb dX12_isSo_44 ?_
        refine lv_topi (fun v272 ev272 => ?_)
        have rv272 : mm_rg v272 0 238 := mm_add ev272 rv271 q255 (by decide) (by decide)
        have tv272 := mm_addE ev272 rv271 q255 (by decide)
        refine lv_iconst (v := 1) hx hb dX12_isSo_45 (by decide) ?_
        refine lv_iadd hx hb dX12_isSo_46 ?_
        refine lv_topi (fun v273 ev273 => ?_)
        have rv273 : mm_rg v273 1 239 := mm_add ev273 rv272 mm_k1 (by decide) (by decide)
        have tv273 := mm_addEc ev273 rv272 mm_k1 (by decide) (k := 1) (by decide)
        refine va_lald hx hb hK.1 hP 2 2 rfl rfl (mm_in rv273 (by decide)) dX12_isSo_47 ?_
        refine lv_topl (fun v274 ev274 => ?_)
        refine W.lcmp hx hb dX12_isSo_48 ?_
        refine lv_topi (fun v275 ev275 => ?_)
        refine lv_if_eq (tgt := 54) hx hb dX12_isSo_49 (by decide) (fun c276 => ?_) (fun c276 => ?_)
        · have q277 := mm_eqIl (lo := 0) (hi := 9999) (mm_cmp_eq ev275 c276).symm (mm_topl v274) rv270 (by decide)
          obtain ⟨v278, ev278⟩ : ∃ y : Int32, y = x3_4_244 + 2 := ⟨_, rfl⟩
          refine lv_iinc (v := v278) (lv' := [(4, .int v278), (0, .ref a_0), (1, .int i_0), (2, .int i_1), (3, .int i_2)]) hx hb dX12_isSo_54 hl (k := 0) rfl (by rw [ev278]; rfl) (by decide) rfl ?_
          clear hl
          clear ls
          intro ls hl
          have rv278 : mm_rg v278 2 60 := mm_add ev278 q255 mm_k2 (by decide) (by decide)
          have tv278 := mm_addEc ev278 q255 mm_k2 (by decide) (k := 2) (by decide)
          refine lv_goto (tgt := 3) hx hb dX12_isSo_57 (by decide) ?_
          exact ih3 v278 n261 n262 n263 n264 (mm_wk rv278 (by decide)) w266 w267 (mm_evn_s w249 tv278) (mm_mu hm3 tv278 (by decide) (rv278).2 (by decide)) H locs hP hD hS ls (lv_sub hl [0, 1, 2, 3, 4] rfl)
        · refine lv_iconst (v := 0) hx hb dX12_isSo_52 (by decide) ?_
          subst hAe
          rw [hQ]
          exact W.zret (v := 0) hx hb hr rfl (fun t ht hW => ⟨⟨0, (n261, n262, n263, n264), rfl, ⟨w266, w267, (Or.inl rfl)⟩, by rw [ht]; exact hP, hK.warm hW, hD⟩, hS.F ht⟩) hS.2.2 dX12_isSo_53
  exact L3_249 _ 0 i_13 i_14 i_15 f_8 (mm_wk mm_k0 (by decide)) h3 h41 mm_evn_0 (Nat.lt_succ_self _) H locs hP hD hS ls (lv_sub hl [0, 1, 2, 3, 4] rfl)

