theorem dX12_anew_0 : decode cX12_anew 0 = .ok (.aload_n 0, 1) := by decide +kernel
theorem dX12_anew_1 : decode cX12_anew 1 = .ok (.iconst 0, 1) := by decide +kernel
theorem dX12_anew_2 : decode cX12_anew 2 = .ok (.putfield 77, 3) := by decide +kernel
theorem dX12_anew_5 : decode cX12_anew 5 = .ok (.aload_n 0, 1) := by decide +kernel
theorem dX12_anew_6 : decode cX12_anew 6 = .ok (.invokevirtual 251, 3) := by decide +kernel
theorem dX12_anew_9 : decode cX12_anew 9 = .ok (.ifCond .ne 6, 3) := by decide +kernel
theorem dX12_anew_12 : decode cX12_anew 12 = .ok (.bipush (-2), 2) := by decide +kernel
theorem dX12_anew_14 : decode cX12_anew 14 = .ok (.ireturn, 1) := by decide +kernel
theorem dX12_anew_15 : decode cX12_anew 15 = .ok (.aload_n 0, 1) := by decide +kernel
theorem dX12_anew_16 : decode cX12_anew 16 = .ok (.getfield 34, 3) := by decide +kernel
theorem dX12_anew_19 : decode cX12_anew 19 = .ok (.iconst 5, 1) := by decide +kernel
theorem dX12_anew_20 : decode cX12_anew 20 = .ok (.iaload, 1) := by decide +kernel
theorem dX12_anew_21 : decode cX12_anew 21 = .ok (.istore_n 1, 1) := by decide +kernel
theorem dX12_anew_22 : decode cX12_anew 22 = .ok (.aload_n 0, 1) := by decide +kernel
theorem dX12_anew_23 : decode cX12_anew 23 = .ok (.getfield 34, 3) := by decide +kernel
theorem dX12_anew_26 : decode cX12_anew 26 = .ok (.iconst 5, 1) := by decide +kernel
theorem dX12_anew_27 : decode cX12_anew 27 = .ok (.iconst 0, 1) := by decide +kernel
theorem dX12_anew_28 : decode cX12_anew 28 = .ok (.iastore, 1) := by decide +kernel
theorem dX12_anew_29 : decode cX12_anew 29 = .ok (.iload_n 1, 1) := by decide +kernel
theorem dX12_anew_30 : decode cX12_anew 30 = .ok (.ireturn, 1) := by decide +kernel
theorem dX12_drawnOf_0 : decode cX12_drawnOf 0 = .ok (.lload_n 1, 1) := by decide +kernel
theorem dX12_drawnOf_1 : decode cX12_drawnOf 1 = .ok (.lstore 4, 2) := by decide +kernel
theorem dX12_drawnOf_3 : decode cX12_drawnOf 3 = .ok (.iconst 0, 1) := by decide +kernel
theorem dX12_drawnOf_4 : decode cX12_drawnOf 4 = .ok (.istore 6, 2) := by decide +kernel
theorem dX12_drawnOf_6 : decode cX12_drawnOf 6 = .ok (.iconst 0, 1) := by decide +kernel
theorem dX12_drawnOf_7 : decode cX12_drawnOf 7 = .ok (.istore 7, 2) := by decide +kernel
theorem dX12_drawnOf_9 : decode cX12_drawnOf 9 = .ok (.iload 7, 2) := by decide +kernel
theorem dX12_drawnOf_11 : decode cX12_drawnOf 11 = .ok (.iload_n 3, 1) := by decide +kernel
theorem dX12_drawnOf_12 : decode cX12_drawnOf 12 = .ok (.if_icmp .ge 56, 3) := by decide +kernel
theorem dX12_drawnOf_15 : decode cX12_drawnOf 15 = .ok (.ldc2_w 444, 3) := by decide +kernel
theorem dX12_drawnOf_18 : decode cX12_drawnOf 18 = .ok (.lload 4, 2) := by decide +kernel
theorem dX12_drawnOf_20 : decode cX12_drawnOf 20 = .ok (.lmul, 1) := by decide +kernel
theorem dX12_drawnOf_21 : decode cX12_drawnOf 21 = .ok (.ldc2_w 446, 3) := by decide +kernel
theorem dX12_drawnOf_24 : decode cX12_drawnOf 24 = .ok (.ladd, 1) := by decide +kernel
theorem dX12_drawnOf_25 : decode cX12_drawnOf 25 = .ok (.ldc2_w 448, 3) := by decide +kernel
theorem dX12_drawnOf_28 : decode cX12_drawnOf 28 = .ok (.lrem, 1) := by decide +kernel
theorem dX12_drawnOf_29 : decode cX12_drawnOf 29 = .ok (.lstore 4, 2) := by decide +kernel
theorem dX12_drawnOf_31 : decode cX12_drawnOf 31 = .ok (.iload 6, 2) := by decide +kernel
theorem dX12_drawnOf_33 : decode cX12_drawnOf 33 = .ok (.lload 4, 2) := by decide +kernel
theorem dX12_drawnOf_35 : decode cX12_drawnOf 35 = .ok (.ldc2_w 450, 3) := by decide +kernel
theorem dX12_drawnOf_38 : decode cX12_drawnOf 38 = .ok (.ldiv, 1) := by decide +kernel
theorem dX12_drawnOf_39 : decode cX12_drawnOf 39 = .ok (.ldc2_w 433, 3) := by decide +kernel
theorem dX12_drawnOf_42 : decode cX12_drawnOf 42 = .ok (.lrem, 1) := by decide +kernel
theorem dX12_drawnOf_43 : decode cX12_drawnOf 43 = .ok (.aload_n 0, 1) := by decide +kernel
theorem dX12_drawnOf_44 : decode cX12_drawnOf 44 = .ok (.getfield 34, 3) := by decide +kernel
theorem dX12_drawnOf_47 : decode cX12_drawnOf 47 = .ok (.iconst 0, 1) := by decide +kernel
theorem dX12_drawnOf_48 : decode cX12_drawnOf 48 = .ok (.iaload, 1) := by decide +kernel
theorem dX12_drawnOf_49 : decode cX12_drawnOf 49 = .ok (.i2l, 1) := by decide +kernel
theorem dX12_drawnOf_50 : decode cX12_drawnOf 50 = .ok (.lcmp, 1) := by decide +kernel
theorem dX12_drawnOf_51 : decode cX12_drawnOf 51 = .ok (.ifCond .ge 7, 3) := by decide +kernel
theorem dX12_drawnOf_54 : decode cX12_drawnOf 54 = .ok (.iconst 1, 1) := by decide +kernel
theorem dX12_drawnOf_55 : decode cX12_drawnOf 55 = .ok (.goto 4, 3) := by decide +kernel
theorem dX12_drawnOf_58 : decode cX12_drawnOf 58 = .ok (.iconst 0, 1) := by decide +kernel
theorem dX12_drawnOf_59 : decode cX12_drawnOf 59 = .ok (.iadd, 1) := by decide +kernel
theorem dX12_drawnOf_60 : decode cX12_drawnOf 60 = .ok (.istore 6, 2) := by decide +kernel
theorem dX12_drawnOf_62 : decode cX12_drawnOf 62 = .ok (.iinc 7 1, 3) := by decide +kernel
theorem dX12_drawnOf_65 : decode cX12_drawnOf 65 = .ok (.goto (-56), 3) := by decide +kernel
theorem dX12_drawnOf_68 : decode cX12_drawnOf 68 = .ok (.iload 6, 2) := by decide +kernel
theorem dX12_drawnOf_70 : decode cX12_drawnOf 70 = .ok (.ireturn, 1) := by decide +kernel
theorem dX12_isSeed_0 : decode cX12_isSeed 0 = .ok (.iload_n 0, 1) := by decide +kernel
theorem dX12_isSeed_1 : decode cX12_isSeed 1 = .ok (.i2l, 1) := by decide +kernel
theorem dX12_isSeed_2 : decode cX12_isSeed 2 = .ok (.lconst 0, 1) := by decide +kernel
theorem dX12_isSeed_3 : decode cX12_isSeed 3 = .ok (.ldc2_w 452, 3) := by decide +kernel
theorem dX12_isSeed_6 : decode cX12_isSeed 6 = .ok (.invokestatic 82, 3) := by decide +kernel
theorem dX12_isSeed_9 : decode cX12_isSeed 9 = .ok (.ireturn, 1) := by decide +kernel
theorem dX12_stock_0 : decode cX12_stock 0 = .ok (.aload_n 0, 1) := by decide +kernel
theorem dX12_stock_1 : decode cX12_stock 1 = .ok (.iconst 0, 1) := by decide +kernel
theorem dX12_stock_2 : decode cX12_stock 2 = .ok (.putfield 77, 3) := by decide +kernel
theorem dX12_stock_5 : decode cX12_stock 5 = .ok (.aload_n 0, 1) := by decide +kernel
theorem dX12_stock_6 : decode cX12_stock 6 = .ok (.invokevirtual 251, 3) := by decide +kernel
theorem dX12_stock_9 : decode cX12_stock 9 = .ok (.ifCond .eq 15, 3) := by decide +kernel
theorem dX12_stock_12 : decode cX12_stock 12 = .ok (.iload_n 1, 1) := by decide +kernel
theorem dX12_stock_13 : decode cX12_stock 13 = .ok (.i2l, 1) := by decide +kernel
theorem dX12_stock_14 : decode cX12_stock 14 = .ok (.lconst 0, 1) := by decide +kernel
theorem dX12_stock_15 : decode cX12_stock 15 = .ok (.ldc2_w 467, 3) := by decide +kernel
theorem dX12_stock_18 : decode cX12_stock 18 = .ok (.invokestatic 82, 3) := by decide +kernel
theorem dX12_stock_21 : decode cX12_stock 21 = .ok (.ifCond .ne 6, 3) := by decide +kernel
theorem dX12_stock_24 : decode cX12_stock 24 = .ok (.bipush (-2), 2) := by decide +kernel
theorem dX12_stock_26 : decode cX12_stock 26 = .ok (.ireturn, 1) := by decide +kernel
theorem dX12_stock_27 : decode cX12_stock 27 = .ok (.aload_n 0, 1) := by decide +kernel
theorem dX12_stock_28 : decode cX12_stock 28 = .ok (.getfield 34, 3) := by decide +kernel
theorem dX12_stock_31 : decode cX12_stock 31 = .ok (.iconst 5, 1) := by decide +kernel
theorem dX12_stock_32 : decode cX12_stock 32 = .ok (.iaload, 1) := by decide +kernel
theorem dX12_stock_33 : decode cX12_stock 33 = .ok (.bipush 30, 2) := by decide +kernel
theorem dX12_stock_35 : decode cX12_stock 35 = .ok (.if_icmp .ne 6, 3) := by decide +kernel
theorem dX12_stock_38 : decode cX12_stock 38 = .ok (.bipush (-5), 2) := by decide +kernel
theorem dX12_stock_40 : decode cX12_stock 40 = .ok (.ireturn, 1) := by decide +kernel
theorem dX12_stock_41 : decode cX12_stock 41 = .ok (.aload_n 0, 1) := by decide +kernel
theorem dX12_stock_42 : decode cX12_stock 42 = .ok (.invokevirtual 308, 3) := by decide +kernel
theorem dX12_stock_45 : decode cX12_stock 45 = .ok (.istore_n 2, 1) := by decide +kernel
theorem dX12_stock_46 : decode cX12_stock 46 = .ok (.aload_n 0, 1) := by decide +kernel
theorem dX12_stock_47 : decode cX12_stock 47 = .ok (.iconst (-1), 1) := by decide +kernel
theorem dX12_stock_48 : decode cX12_stock 48 = .ok (.iconst 0, 1) := by decide +kernel
theorem dX12_stock_49 : decode cX12_stock 49 = .ok (.iload_n 1, 1) := by decide +kernel
theorem dX12_stock_50 : decode cX12_stock 50 = .ok (.invokevirtual 463, 3) := by decide +kernel
theorem dX12_stock_53 : decode cX12_stock 53 = .ok (.iload_n 2, 1) := by decide +kernel
theorem dX12_stock_54 : decode cX12_stock 54 = .ok (.ireturn, 1) := by decide +kernel
theorem dX12_swaps_0 : decode cX12_swaps 0 = .ok (.aload_n 0, 1) := by decide +kernel
theorem dX12_swaps_1 : decode cX12_swaps 1 = .ok (.iconst 0, 1) := by decide +kernel
theorem dX12_swaps_2 : decode cX12_swaps 2 = .ok (.putfield 77, 3) := by decide +kernel
theorem dX12_swaps_5 : decode cX12_swaps 5 = .ok (.aload_n 0, 1) := by decide +kernel
theorem dX12_swaps_6 : decode cX12_swaps 6 = .ok (.iload_n 1, 1) := by decide +kernel
theorem dX12_swaps_7 : decode cX12_swaps 7 = .ok (.invokevirtual 265, 3) := by decide +kernel
theorem dX12_swaps_10 : decode cX12_swaps 10 = .ok (.ifCond .eq 24, 3) := by decide +kernel
theorem dX12_swaps_13 : decode cX12_swaps 13 = .ok (.aload_n 0, 1) := by decide +kernel
theorem dX12_swaps_14 : decode cX12_swaps 14 = .ok (.iload_n 2, 1) := by decide +kernel
theorem dX12_swaps_15 : decode cX12_swaps 15 = .ok (.invokevirtual 320, 3) := by decide +kernel
theorem dX12_swaps_18 : decode cX12_swaps 18 = .ok (.ifCond .eq 16, 3) := by decide +kernel
theorem dX12_swaps_21 : decode cX12_swaps 21 = .ok (.aload_n 0, 1) := by decide +kernel
theorem dX12_swaps_22 : decode cX12_swaps 22 = .ok (.iload_n 3, 1) := by decide +kernel
theorem dX12_swaps_23 : decode cX12_swaps 23 = .ok (.invokevirtual 320, 3) := by decide +kernel
theorem dX12_swaps_26 : decode cX12_swaps 26 = .ok (.ifCond .eq 8, 3) := by decide +kernel
theorem dX12_swaps_29 : decode cX12_swaps 29 = .ok (.iload_n 2, 1) := by decide +kernel
theorem dX12_swaps_30 : decode cX12_swaps 30 = .ok (.iload_n 3, 1) := by decide +kernel
theorem dX12_swaps_31 : decode cX12_swaps 31 = .ok (.if_icmp .ne 6, 3) := by decide +kernel
theorem dX12_swaps_34 : decode cX12_swaps 34 = .ok (.bipush (-2), 2) := by decide +kernel
theorem dX12_swaps_36 : decode cX12_swaps 36 = .ok (.ireturn, 1) := by decide +kernel
theorem dX12_swaps_37 : decode cX12_swaps 37 = .ok (.aload_n 0, 1) := by decide +kernel
theorem dX12_swaps_38 : decode cX12_swaps 38 = .ok (.getfield 34, 3) := by decide +kernel
theorem dX12_swaps_41 : decode cX12_swaps 41 = .ok (.iconst 5, 1) := by decide +kernel
theorem dX12_swaps_42 : decode cX12_swaps 42 = .ok (.iaload, 1) := by decide +kernel
theorem dX12_swaps_43 : decode cX12_swaps 43 = .ok (.bipush 30, 2) := by decide +kernel
theorem dX12_swaps_45 : decode cX12_swaps 45 = .ok (.if_icmp .ne 6, 3) := by decide +kernel
theorem dX12_swaps_48 : decode cX12_swaps 48 = .ok (.bipush (-5), 2) := by decide +kernel
theorem dX12_swaps_50 : decode cX12_swaps 50 = .ok (.ireturn, 1) := by decide +kernel
theorem dX12_swaps_51 : decode cX12_swaps 51 = .ok (.aload_n 0, 1) := by decide +kernel
theorem dX12_swaps_52 : decode cX12_swaps 52 = .ok (.invokevirtual 326, 3) := by decide +kernel
theorem dX12_swaps_55 : decode cX12_swaps 55 = .ok (.aload_n 0, 1) := by decide +kernel
theorem dX12_swaps_56 : decode cX12_swaps 56 = .ok (.iload_n 1, 1) := by decide +kernel
theorem dX12_swaps_57 : decode cX12_swaps 57 = .ok (.iconst 0, 1) := by decide +kernel
theorem dX12_swaps_58 : decode cX12_swaps 58 = .ok (.iload_n 2, 1) := by decide +kernel
theorem dX12_swaps_59 : decode cX12_swaps 59 = .ok (.invokevirtual 289, 3) := by decide +kernel
theorem dX12_swaps_62 : decode cX12_swaps 62 = .ok (.istore 4, 2) := by decide +kernel
theorem dX12_swaps_64 : decode cX12_swaps 64 = .ok (.aload_n 0, 1) := by decide +kernel
theorem dX12_swaps_65 : decode cX12_swaps 65 = .ok (.iload_n 1, 1) := by decide +kernel
theorem dX12_swaps_66 : decode cX12_swaps 66 = .ok (.iload_n 2, 1) := by decide +kernel
theorem dX12_swaps_67 : decode cX12_swaps 67 = .ok (.iload_n 3, 1) := by decide +kernel
theorem dX12_swaps_68 : decode cX12_swaps 68 = .ok (.invokevirtual 463, 3) := by decide +kernel
theorem dX12_swaps_71 : decode cX12_swaps 71 = .ok (.iload 4, 2) := by decide +kernel
theorem dX12_swaps_73 : decode cX12_swaps 73 = .ok (.ireturn, 1) := by decide +kernel
theorem dX12_undo_0 : decode cX12_undo 0 = .ok (.aload_n 0, 1) := by decide +kernel
theorem dX12_undo_1 : decode cX12_undo 1 = .ok (.iconst 0, 1) := by decide +kernel
theorem dX12_undo_2 : decode cX12_undo 2 = .ok (.putfield 77, 3) := by decide +kernel
theorem dX12_undo_5 : decode cX12_undo 5 = .ok (.aload_n 0, 1) := by decide +kernel
theorem dX12_undo_6 : decode cX12_undo 6 = .ok (.invokevirtual 251, 3) := by decide +kernel
theorem dX12_undo_9 : decode cX12_undo 9 = .ok (.ifCond .ne 6, 3) := by decide +kernel
theorem dX12_undo_12 : decode cX12_undo 12 = .ok (.bipush (-2), 2) := by decide +kernel
theorem dX12_undo_14 : decode cX12_undo 14 = .ok (.ireturn, 1) := by decide +kernel
theorem dX12_undo_15 : decode cX12_undo 15 = .ok (.aload_n 0, 1) := by decide +kernel
theorem dX12_undo_16 : decode cX12_undo 16 = .ok (.getfield 34, 3) := by decide +kernel
theorem dX12_undo_19 : decode cX12_undo 19 = .ok (.iconst 5, 1) := by decide +kernel
theorem dX12_undo_20 : decode cX12_undo 20 = .ok (.iaload, 1) := by decide +kernel
theorem dX12_undo_21 : decode cX12_undo 21 = .ok (.ifCond .ne 6, 3) := by decide +kernel
theorem dX12_undo_24 : decode cX12_undo 24 = .ok (.bipush (-5), 2) := by decide +kernel
theorem dX12_undo_26 : decode cX12_undo 26 = .ok (.ireturn, 1) := by decide +kernel
theorem dX12_undo_27 : decode cX12_undo 27 = .ok (.aload_n 0, 1) := by decide +kernel
theorem dX12_undo_28 : decode cX12_undo 28 = .ok (.getfield 34, 3) := by decide +kernel
theorem dX12_undo_31 : decode cX12_undo 31 = .ok (.iconst 5, 1) := by decide +kernel
theorem dX12_undo_32 : decode cX12_undo 32 = .ok (.dup2, 1) := by decide +kernel
theorem dX12_undo_33 : decode cX12_undo 33 = .ok (.iaload, 1) := by decide +kernel
theorem dX12_undo_34 : decode cX12_undo 34 = .ok (.iconst 1, 1) := by decide +kernel
theorem dX12_undo_35 : decode cX12_undo 35 = .ok (.isub, 1) := by decide +kernel
theorem dX12_undo_36 : decode cX12_undo 36 = .ok (.iastore, 1) := by decide +kernel
theorem dX12_undo_37 : decode cX12_undo 37 = .ok (.aload_n 0, 1) := by decide +kernel
theorem dX12_undo_38 : decode cX12_undo 38 = .ok (.getfield 34, 3) := by decide +kernel
theorem dX12_undo_41 : decode cX12_undo 41 = .ok (.iconst 5, 1) := by decide +kernel
theorem dX12_undo_42 : decode cX12_undo 42 = .ok (.iaload, 1) := by decide +kernel
theorem dX12_undo_43 : decode cX12_undo 43 = .ok (.ireturn, 1) := by decide +kernel
theorem mm_kl2000000000 : mm_rl 2000000000 2000000000 2000000000 := ⟨by decide, by decide⟩
theorem hd_X12_does : yX12_does.cls = RX12 ∧ yX12_does.cls ≠ "java/lang/invoke/MethodHandle" ∧ yX12_does.cls ≠ "java/lang/invoke/VarHandle" ∧ (parseMethodDescriptor yX12_does.desc).map (fun d => d.parameters.length) = some 3 := by decide +kernel
set_option maxHeartbeats 4000000 in
set_option maxRecDepth 100000 in
theorem M300_X12_swaps (l : Launch) (G : va_G) (cy : Nat → ClassId) (sz : Nat) (a_0 : Nat) (i_0 : Int32) (i_1 : Int32) (i_2 : Int32) (i_3 : Int32) (a_1 : Nat) (a_2 : Nat) (a_3 : Nat) (a_4 : Nat) (a_5 : Nat) (i_4 : Int32) (i_5 : Int32) (i_6 : Int32) (i_7 : Int32) (i_8 : Int32) (j_0 : Int64) (i_9 : Int32) (i_10 : Int32) (i_11 : Int32) (i_12 : Int32) (a_6 : Nat) (a_7 : Nat) (a_8 : Nat) (a_9 : Nat) (a_10 : Nat) (a_11 : Nat) (a_12 : Nat) (a_13 : Nat) (a_14 : Nat) (a_15 : Nat) (a_16 : Nat) (a_17 : Nat) (a_18 : Nat) (i_13 : Int32) (i_14 : Int32) (i_15 : Int32) (i_16 : Int32) (i_17 : Int32) (i_18 : Int32) (a_19 : Nat) (i_19 : Int32) (a_20 : Nat) (i_20 : Int32) (i_21 : Int32) (i_22 : Int32) (i_23 : Int32) (i_24 : Int32) (i_25 : Int32) (i_26 : Int32) (i_27 : Int32) (i_28 : Int32) (i_29 : Int32) (i_30 : Int32) (i_31 : Int32) (i_32 : Int32) (i_33 : Int32) (i_34 : Int32) (i_35 : Int32) (i_36 : Int32) (i_37 : Int32) (i_38 : Int32) (i_39 : Int32) (i_40 : Int32) (i_41 : Int32) (i_42 : Int32) (i_43 : Int32) (i_44 : Int32) (i_45 : Int32) (i_46 : Int32) (i_47 : Int32) (i_48 : Int32) (i_49 : Int32) (i_50 : Int32) (i_51 : Int32) (i_52 : Int32) (i_53 : Int32) (i_54 : Int32) (f_0 : Nat → Int32) (f_1 : Nat → Int32) (f_2 : Nat → Int32) (f_3 : Nat → Int32) (f_4 : Nat → Int32) (f_5 : Nat → Int32) (h0 : mm_rg i_20 0 601) (h1 : mm_rg i_21 0 601) (h2 : mm_rg i_22 0 601) (h3 : mm_rg i_23 0 601) (h4 : mm_rg i_24 0 601) (h5 : mm_rg i_25 0 10) (h6 : mm_rg i_26 0 99) (h7 : mm_rg i_27 0 9) (h8 : mm_rg i_28 0 3) (h9 : mm_rg i_29 0 6) (h10 : mm_rg i_30 0 30) (h11 : mm_rg i_31 0 10) (h12 : mm_rg i_32 0 99) (h13 : mm_rg i_33 0 9) (h14 : mm_rg i_34 0 3) (h15 : mm_rg i_35 0 6) (h16 : mm_rg i_36 0 30) (h17 : mm_rg i_37 0 10) (h18 : mm_rg i_38 0 99) (h19 : mm_rg i_39 0 9) (h20 : mm_rg i_40 0 3) (h21 : mm_rg i_41 0 6) (h22 : mm_rg i_42 0 30) (h23 : mm_rg i_43 0 10) (h24 : mm_rg i_44 0 99) (h25 : mm_rg i_45 0 9) (h26 : mm_rg i_46 0 3) (h27 : mm_rg i_47 0 6) (h28 : mm_rg i_48 0 30) (h29 : mm_rg i_49 0 10) (h30 : mm_rg i_50 0 99) (h31 : mm_rg i_51 0 9) (h32 : mm_rg i_52 0 3) (h33 : mm_rg i_53 0 6) (h34 : mm_rg i_54 0 30) (h35 : mm_ar f_0 0 7) (h36 : mm_ar f_1 0 9) (h37 : mm_ar f_2 (-1) 99) (h38 : mm_ar f_3 0 9) (h39 : mm_ar f_4 0 210) (h40 : mm_ar f_5 0 210) (h41 : mm_rls f_0 f_1 0 i_27 i_28) (h42 : mm_acs f_2 0 i_27 i_28 i_30) (h43 : mm_tl i_20 i_28 i_29) (h44 : mm_rls f_0 f_1 1 i_33 i_34) (h45 : mm_acs f_2 1 i_33 i_34 i_36) (h46 : mm_tl i_21 i_34 i_35) (h47 : mm_rls f_0 f_1 2 i_39 i_40) (h48 : mm_acs f_2 2 i_39 i_40 i_42) (h49 : mm_tl i_22 i_40 i_41) (h50 : mm_rls f_0 f_1 3 i_45 i_46) (h51 : mm_acs f_2 3 i_45 i_46 i_48) (h52 : mm_tl i_23 i_46 i_47)  : mm_CI l yX12_swaps (mm_ws yX12_swaps cX12_swaps 5 (some .int)) ({ frames := 14, cells := 0, slots := 0, locals := 300 } : Room) G cy sz [(a_0, .inr (12, [.int i_3, .ref a_1, .ref a_2, .ref a_3, .ref a_4, .ref a_5, .int i_4, .int i_5, .int i_6, .int i_7, .int i_8, .long j_0, .int i_9, .int i_10, .int i_11, .int i_12, .ref a_6, .ref a_7, .ref a_8, .ref a_9, .ref a_10, .ref a_11, .ref a_12, .ref a_13, .ref a_14, .ref a_15, .ref a_16, .ref a_17, .ref a_18, .int i_13, .int i_14, .int i_15, .int i_16, .int i_17, .int i_18, .ref a_19, .int i_19, .ref a_20])), (a_6, .inl (cy 1, 5, .inl (mm_g [i_20, i_21, i_22, i_23, i_24]))), (a_7, .inl (cy 1, 30, .inl (mm_g [i_25, i_26, i_27, i_28, i_29, i_30, i_31, i_32, i_33, i_34, i_35, i_36, i_37, i_38, i_39, i_40, i_41, i_42, i_43, i_44, i_45, i_46, i_47, i_48, i_49, i_50, i_51, i_52, i_53, i_54]))), (a_9, .inl (cy 1, 15, .inl f_0)), (a_10, .inl (cy 1, 1050, .inl f_1)), (a_13, .inl (cy 1, 450, .inl f_2)), (a_15, .inl (cy 1, 7200, .inl f_3)), (a_16, .inl (cy 1, 3, .inl f_4)), (a_17, .inl (cy 1, 3, .inl f_5))] [.ref a_0, .int i_0, .int i_1, .int i_2] (fun u : Int32 × (Nat → Int32) × (Nat → Int32) × (Nat → Int32) × (Nat → Int32) => [(a_0, .inr (12, [.int 0, .ref a_1, .ref a_2, .ref a_3, .ref a_4, .ref a_5, .int i_4, .int i_5, .int i_6, .int i_7, .int i_8, .long j_0, .int i_9, .int i_10, .int i_11, .int i_12, .ref a_6, .ref a_7, .ref a_8, .ref a_9, .ref a_10, .ref a_11, .ref a_12, .ref a_13, .ref a_14, .ref a_15, .ref a_16, .ref a_17, .ref a_18, .int i_13, .int i_14, .int i_15, .int i_16, .int i_17, .int i_18, .ref a_19, .int i_19, .ref a_20])), (a_6, .inl (cy 1, 5, .inl (mm_g [i_20, i_21, i_22, i_23, i_24]))), (a_7, .inl (cy 1, 30, .inl (mm_g [i_25, i_26, i_27, i_28, i_29, u.1, i_31, i_32, i_33, i_34, i_35, i_36, i_37, i_38, i_39, i_40, i_41, i_42, i_43, i_44, i_45, i_46, i_47, i_48, i_49, i_50, i_51, i_52, i_53, i_54]))), (a_9, .inl (cy 1, 15, .inl f_0)), (a_10, .inl (cy 1, 1050, .inl f_1)), (a_13, .inl (cy 1, 450, .inl u.2.1)), (a_15, .inl (cy 1, 7200, .inl u.2.2.1)), (a_16, .inl (cy 1, 3, .inl u.2.2.2.1)), (a_17, .inl (cy 1, 3, .inl u.2.2.2.2))]) (fun (r : Int32) (u : Int32 × (Nat → Int32) × (Nat → Int32) × (Nat → Int32) × (Nat → Int32)) => mm_rg u.1 0 30 ∧ mm_ar u.2.1 (-1) 99 ∧ mm_ar u.2.2.1 0 9 ∧ mm_ar u.2.2.2.1 0 210 ∧ mm_ar u.2.2.2.2 0 210 ∧ mm_acs u.2.1 0 i_27 i_28 u.1 ∧ mm_acs u.2.1 1 i_33 i_34 i_36 ∧ mm_acs u.2.1 2 i_39 i_40 i_42 ∧ mm_acs u.2.1 3 i_45 i_46 i_48 ∧ mm_rg r (-5) 9) 0 0 := by
  refine mm_begin (lv := [(0, .ref a_0), (1, .int i_0), (2, .int i_1), (3, .int i_2)]) (by decide) (Nat.le_of_ble_eq_true rfl) rfl ?_
  intro p e s m below meth c A ls R args Q H locs hRe hQ hAe hx hb hr hlocks hml hown hnm hts hsz hA hS hP hK hD hZ hl
  have hRf : R.frames = 14 := by rw [hRe]
  have hRl : R.locals = 300 := by rw [hRe]
  have hRc : R.cells = 0 := by rw [hRe]
  have hRs : R.slots = 0 := by rw [hRe]
  refine lv_aload_n hx hb dX12_swaps_0 rfl (lv_at hl 0 rfl) ?_
  refine lv_iconst (v := 0) hx hb dX12_swaps_1 (by decide) ?_
  refine va_put (D := G) (ci := 12) (v := .int 0) (ty := tyX12 0) (C := RX12) (T := TX12) (N := 38) hx hb hts (mm_i inlX12) tyX12 tyX12_ok nmX12 hown hK.1 hP hD hS 0 rfl rfl 0 (by decide) (mm_h hts mm_w177) (fun _ h9 => h9) rfl (tyX12_ok 0 (by decide)) rfl rfl (Nat.le_of_ble_eq_true rfl) dX12_swaps_2 ?_
  clear hP hD hS
  clear H locs
  intro H locs (hP : va_P G vwCl [(a_0, .inr (12, [.int 0, .ref a_1, .ref a_2, .ref a_3, .ref a_4, .ref a_5, .int i_4, .int i_5, .int i_6, .int i_7, .int i_8, .long j_0, .int i_9, .int i_10, .int i_11, .int i_12, .ref a_6, .ref a_7, .ref a_8, .ref a_9, .ref a_10, .ref a_11, .ref a_12, .ref a_13, .ref a_14, .ref a_15, .ref a_16, .ref a_17, .ref a_18, .int i_13, .int i_14, .int i_15, .int i_16, .int i_17, .int i_18, .ref a_19, .int i_19, .ref a_20])), (a_6, .inl (cy 1, 5, .inl (mm_g [i_20, i_21, i_22, i_23, i_24]))), (a_7, .inl (cy 1, 30, .inl (mm_g [i_25, i_26, i_27, i_28, i_29, i_30, i_31, i_32, i_33, i_34, i_35, i_36, i_37, i_38, i_39, i_40, i_41, i_42, i_43, i_44, i_45, i_46, i_47, i_48, i_49, i_50, i_51, i_52, i_53, i_54]))), (a_9, .inl (cy 1, 15, .inl f_0)), (a_10, .inl (cy 1, 1050, .inl f_1)), (a_13, .inl (cy 1, 450, .inl f_2)), (a_15, .inl (cy 1, 7200, .inl f_3)), (a_16, .inl (cy 1, 3, .inl f_4)), (a_17, .inl (cy 1, 3, .inl f_5))] H) (hD : va_D A [(a_0, .inr (12, [.int 0, .ref a_1, .ref a_2, .ref a_3, .ref a_4, .ref a_5, .int i_4, .int i_5, .int i_6, .int i_7, .int i_8, .long j_0, .int i_9, .int i_10, .int i_11, .int i_12, .ref a_6, .ref a_7, .ref a_8, .ref a_9, .ref a_10, .ref a_11, .ref a_12, .ref a_13, .ref a_14, .ref a_15, .ref a_16, .ref a_17, .ref a_18, .int i_13, .int i_14, .int i_15, .int i_16, .int i_17, .int i_18, .ref a_19, .int i_19, .ref a_20])), (a_6, .inl (cy 1, 5, .inl (mm_g [i_20, i_21, i_22, i_23, i_24]))), (a_7, .inl (cy 1, 30, .inl (mm_g [i_25, i_26, i_27, i_28, i_29, i_30, i_31, i_32, i_33, i_34, i_35, i_36, i_37, i_38, i_39, i_40, i_41, i_42, i_43, i_44, i_45, i_46, i_47, i_48, i_49, i_50, i_51, i_52, i_53, i_54]))), (a_9, .inl (cy 1, 15, .inl f_0)), (a_10, .inl (cy 1, 1050, .inl f_1)), (a_13, .inl (cy 1, 450, .inl f_2)), (a_15, .inl (cy 1, 7200, .inl f_3)), (a_16, .inl (cy 1, 3, .inl f_4)), (a_17, .inl (cy 1, 3, .inl f_5))]) hS
  refine lv_aload_n hx hb dX12_swaps_5 rfl (lv_at hl 0 rfl) ?_
  refine lv_iload_n hx hb dX12_swaps_6 rfl (lv_at hl 1 rfl) ?_
  refine mm_finir (va_runV (As := [.int i_0]) (rest := []) ⟨hx, hb, hml, hown, hts⟩ (M98_X12_isLand l G cy H.size a_0 i_0 0 a_1 a_2 a_3 a_4 a_5 i_4 i_5 i_6 i_7 i_8 j_0 i_9 i_10 i_11 i_12 a_6 a_7 a_8 a_9 a_10 a_11 a_12 a_13 a_14 a_15 a_16 a_17 a_18 i_13 i_14 i_15 i_16 i_17 i_18 a_19 i_19 a_20 i_25 i_26 i_27 i_28 i_29 i_30 i_31 i_32 i_33 i_34 i_35 i_36 i_37 i_38 i_39 i_40 i_41 i_42 i_43 i_44 i_45 i_46 i_47 i_48 i_49 i_50 i_51 i_52 i_53 i_54 h5 h6 h7 h8 h9 h10 h11 h12 h13 h14 h15 h16 h17 h18 h19 h20 h21 h22 h23 h24 h25 h26 h27 h28 h29 h30 h31 h32 h33 h34) (cwV 1 hts (mm_gV mm_w641 mm_w642 mm_w643 mm_w5 mm_w644) rfl rfl rfl hd_X12_isLand ⟨by rw [hRf]; exact Nat.le_of_ble_eq_true rfl, by rw [hRl]; exact Nat.le_of_ble_eq_true rfl⟩) (mm_preV hK hZ hS hA hP hD [0, 2] rfl rfl 0 rfl rfl rfl) rfl rfl hl.1 rfl (lv_room (Nat.le_of_ble_eq_true rfl)) dX12_swaps_7 ⟨by rw [hRc]; exact Nat.le_of_ble_eq_true rfl, by rw [hRs]; exact Nat.le_of_ble_eq_true rfl⟩) hP hD hS hA [0, 2] rfl (fun _ => rfl) ?_
  clear hP hD hS
  clear H locs
  intro v1 _u H locs hw hP hD hS
  rcases hw with rfl | ⟨rfl, w2, w3⟩
  · refine lv_if_eq (tgt := 34) hx hb dX12_swaps_10 (by decide) (fun c4 => ?_) (fun c4 => ?_)
    · refine lv_bipush (v := (-2)) hx hb dX12_swaps_34 (by decide) ?_
      subst hAe
      rw [hQ]
      exact W.iret (v := (-2)) hx hb hr (fun t ht hW => ⟨⟨(-2), (i_30, f_2, f_3, f_4, f_5), rfl, ⟨h10, h37, h38, h39, h40, h42, h45, h48, h51, (mm_wk mm_km2 (by decide))⟩, by rw [ht]; exact hP, hK.warm hW, hD⟩, hS.F ht⟩) hS.2.2 dX12_swaps_36
    · have q5 := mm_neL (lo := 1) (mm_ne c4) mm_k0 mm_k0 (by decide) (by decide)
      exact mm_no q5 (by decide)
  · have q6 := mm_ltR (lo := 1) w3 w2 h8 (by decide)
    have q7 : mm_rg i_20 1 601 := mm_tl_3 h43 q6 h0 (by decide)
    refine lv_if_eq (tgt := 34) hx hb dX12_swaps_10 (by decide) (fun c8 => ?_) (fun c8 => ?_)
    · exact mm_eqN c8.symm mm_k0 mm_k1 (by decide)
    · refine lv_aload_n hx hb dX12_swaps_13 rfl (lv_at hl 0 rfl) ?_
      refine lv_iload_n hx hb dX12_swaps_14 rfl (lv_at hl 2 rfl) ?_
      refine mm_finir (va_runV (As := [.int i_1]) (rest := []) ⟨hx, hb, hml, hown, hts⟩ (M101_X12_isWord l G cy H.size a_0 i_1 0 a_1 a_2 a_3 a_4 a_5 i_4 i_5 i_6 i_7 i_8 j_0 i_9 i_10 i_11 i_12 a_6 a_7 a_8 a_9 a_10 a_11 a_12 a_13 a_14 a_15 a_16 a_17 a_18 i_13 i_14 i_15 i_16 i_17 i_18 a_19 i_19 a_20 i_20 i_21 i_22 i_23 i_24 i_25 i_26 i_27 i_28 i_29 i_30 i_31 i_32 i_33 i_34 i_35 i_36 i_37 i_38 i_39 i_40 i_41 i_42 i_43 i_44 i_45 i_46 i_47 i_48 i_49 i_50 i_51 i_52 i_53 i_54 q7 h1 h2 h3 h4 h5 h6 h7 (mm_wk q6 (by decide)) h9 h10 h11 h12 h13 h14 h15 h16 h17 h18 h19 h20 h21 h22 h23 h24 h25 h26 h27 h28 h29 h30 h31 h32 h33 h34 h43 h46 h49 h52) (cwV 1 hts (mm_gV mm_w645 mm_w646 mm_w647 mm_w5 mm_w648) rfl rfl rfl hd_X12_isWord ⟨by rw [hRf]; exact Nat.le_of_ble_eq_true rfl, by rw [hRl]; exact Nat.le_of_ble_eq_true rfl⟩) (mm_preV hK hZ hS hA hP hD [0, 1, 2] rfl rfl 0 rfl rfl rfl) rfl rfl hl.1 rfl (lv_room (Nat.le_of_ble_eq_true rfl)) dX12_swaps_15 ⟨by rw [hRc]; exact Nat.le_of_ble_eq_true rfl, by rw [hRs]; exact Nat.le_of_ble_eq_true rfl⟩) hP hD hS hA [0, 1, 2] rfl (fun _ => rfl) ?_
      clear hP hD hS
      clear H locs
      intro v9 _u H locs hw hP hD hS
      rcases hw with rfl | ⟨rfl, w10, w11⟩
      · refine lv_if_eq (tgt := 34) hx hb dX12_swaps_18 (by decide) (fun c12 => ?_) (fun c12 => ?_)
        · refine lv_bipush (v := (-2)) hx hb dX12_swaps_34 (by decide) ?_
          subst hAe
          rw [hQ]
          exact W.iret (v := (-2)) hx hb hr (fun t ht hW => ⟨⟨(-2), (i_30, f_2, f_3, f_4, f_5), rfl, ⟨h10, h37, h38, h39, h40, h42, h45, h48, h51, (mm_wk mm_km2 (by decide))⟩, by rw [ht]; exact hP, hK.warm hW, hD⟩, hS.F ht⟩) hS.2.2 dX12_swaps_36
        · have q13 := mm_neL (lo := 1) (mm_ne c12) mm_k0 mm_k0 (by decide) (by decide)
          exact mm_no q13 (by decide)
      · refine lv_if_eq (tgt := 34) hx hb dX12_swaps_18 (by decide) (fun c14 => ?_) (fun c14 => ?_)
        · exact mm_eqN c14.symm mm_k0 mm_k1 (by decide)
        · refine lv_aload_n hx hb dX12_swaps_21 rfl (lv_at hl 0 rfl) ?_
          refine lv_iload_n hx hb dX12_swaps_22 rfl (lv_at hl 3 rfl) ?_
          refine mm_finir (va_runV (As := [.int i_2]) (rest := []) ⟨hx, hb, hml, hown, hts⟩ (M101_X12_isWord l G cy H.size a_0 i_2 0 a_1 a_2 a_3 a_4 a_5 i_4 i_5 i_6 i_7 i_8 j_0 i_9 i_10 i_11 i_12 a_6 a_7 a_8 a_9 a_10 a_11 a_12 a_13 a_14 a_15 a_16 a_17 a_18 i_13 i_14 i_15 i_16 i_17 i_18 a_19 i_19 a_20 i_20 i_21 i_22 i_23 i_24 i_25 i_26 i_27 i_28 i_29 i_30 i_31 i_32 i_33 i_34 i_35 i_36 i_37 i_38 i_39 i_40 i_41 i_42 i_43 i_44 i_45 i_46 i_47 i_48 i_49 i_50 i_51 i_52 i_53 i_54 q7 h1 h2 h3 h4 h5 h6 h7 (mm_wk q6 (by decide)) h9 h10 h11 h12 h13 h14 h15 h16 h17 h18 h19 h20 h21 h22 h23 h24 h25 h26 h27 h28 h29 h30 h31 h32 h33 h34 h43 h46 h49 h52) (cwV 1 hts (mm_gV mm_w645 mm_w646 mm_w647 mm_w5 mm_w648) rfl rfl rfl hd_X12_isWord ⟨by rw [hRf]; exact Nat.le_of_ble_eq_true rfl, by rw [hRl]; exact Nat.le_of_ble_eq_true rfl⟩) (mm_preV hK hZ hS hA hP hD [0, 1, 2] rfl rfl 0 rfl rfl rfl) rfl rfl hl.1 rfl (lv_room (Nat.le_of_ble_eq_true rfl)) dX12_swaps_23 ⟨by rw [hRc]; exact Nat.le_of_ble_eq_true rfl, by rw [hRs]; exact Nat.le_of_ble_eq_true rfl⟩) hP hD hS hA [0, 1, 2] rfl (fun _ => rfl) ?_
          clear hP hD hS
          clear H locs
          intro v15 _u H locs hw hP hD hS
          rcases hw with rfl | ⟨rfl, w16, w17⟩
          · refine lv_if_eq (tgt := 34) hx hb dX12_swaps_26 (by decide) (fun c18 => ?_) (fun c18 => ?_)
            · refine lv_bipush (v := (-2)) hx hb dX12_swaps_34 (by decide) ?_
              subst hAe
              rw [hQ]
              exact W.iret (v := (-2)) hx hb hr (fun t ht hW => ⟨⟨(-2), (i_30, f_2, f_3, f_4, f_5), rfl, ⟨h10, h37, h38, h39, h40, h42, h45, h48, h51, (mm_wk mm_km2 (by decide))⟩, by rw [ht]; exact hP, hK.warm hW, hD⟩, hS.F ht⟩) hS.2.2 dX12_swaps_36
            · have q19 := mm_neL (lo := 1) (mm_ne c18) mm_k0 mm_k0 (by decide) (by decide)
              exact mm_no q19 (by decide)
          · refine lv_if_eq (tgt := 34) hx hb dX12_swaps_26 (by decide) (fun c20 => ?_) (fun c20 => ?_)
            · exact mm_eqN c20.symm mm_k0 mm_k1 (by decide)
            · refine lv_iload_n hx hb dX12_swaps_29 rfl (lv_at hl 2 rfl) ?_
              refine lv_iload_n hx hb dX12_swaps_30 rfl (lv_at hl 3 rfl) ?_
              refine lv_icmp_ne (tgt := 37) hx hb dX12_swaps_31 (by decide) (fun c21 => ?_) (fun c21 => ?_)
              · refine lv_aload_n hx hb dX12_swaps_37 rfl (lv_at hl 0 rfl) ?_
                refine va_get (D := G) (ci := 12) (v := .ref a_7) (C := RX12) (T := TX12) (N := 38) hx hb hts (mm_i inlX12) hown hK.1 hP 0 rfl rfl 17 (by decide) (mm_h hts mm_w149) (fun _ h9 => h9) rfl dX12_swaps_38 ?_
                refine lv_iconst (v := 5) hx hb dX12_swaps_41 (by decide) ?_
                refine va_iald hx hb hK.1 hP 2 1 rfl rfl (mm_in mm_k5 (by decide)) dX12_swaps_42 ?_
                rw [show (mm_g [i_25, i_26, i_27, i_28, i_29, i_30, i_31, i_32, i_33, i_34, i_35, i_36, i_37, i_38, i_39, i_40, i_41, i_42, i_43, i_44, i_45, i_46, i_47, i_48, i_49, i_50, i_51, i_52, i_53, i_54]) (5 : Int32).toNatClampNeg = i_30 from mm_ge 5 (by decide) rfl]
                refine lv_bipush (v := 30) hx hb dX12_swaps_43 (by decide) ?_
                refine lv_icmp_ne (tgt := 51) hx hb dX12_swaps_45 (by decide) (fun c22 => ?_) (fun c22 => ?_)
                · have q23 := mm_neH (hi := 29) (mm_ne c22) h10 mm_k30 (by decide) (by decide)
                  refine lv_aload_n hx hb dX12_swaps_51 rfl (lv_at hl 0 rfl) ?_
                  refine mm_finv (va_runV (As := []) (rest := []) ⟨hx, hb, hml, hown, hts⟩ (M125_X12_lays l G cy H.size a_0 0 a_1 a_2 a_3 a_4 a_5 i_4 i_5 i_6 i_7 i_8 j_0 i_9 i_10 i_11 i_12 a_6 a_7 a_8 a_9 a_10 a_11 a_12 a_13 a_14 a_15 a_16 a_17 a_18 i_13 i_14 i_15 i_16 i_17 i_18 a_19 i_19 a_20 i_20 i_21 i_22 i_23 i_24 i_25 i_26 i_27 i_28 i_29 i_30 i_31 i_32 i_33 i_34 i_35 i_36 i_37 i_38 i_39 i_40 i_41 i_42 i_43 i_44 i_45 i_46 i_47 i_48 i_49 i_50 i_51 i_52 i_53 i_54 f_0 f_1 f_2 f_3 f_4 f_5 (mm_wk q7 (by decide)) h1 h2 h3 h4 h5 h6 h7 (mm_wk q6 (by decide)) h9 (mm_wk q23 (by decide)) h11 h12 h13 h14 h15 h16 h17 h18 h19 h20 h21 h22 h23 h24 h25 h26 h27 h28 h29 h30 h31 h32 h33 h34 h35 h36 h37 h38 h39 h40 h41 h42 h43 h44 h45 h46 h47 h48 h49 h50 h51 h52) (cwV 0 hts (mm_gV mm_w686 mm_w687 mm_w688 mm_w5 mm_w689) rfl rfl rfl hd_X12_lays ⟨by rw [hRf]; exact Nat.le_of_ble_eq_true rfl, by rw [hRl]; exact Nat.le_of_ble_eq_true rfl⟩) (mm_preV hK hZ hS hA hP hD [0, 1, 2, 3, 4, 5, 6, 7, 8] rfl rfl 0 rfl rfl rfl) rfl rfl hl.1 rfl (lv_room (Nat.le_of_ble_eq_true rfl)) dX12_swaps_52 ⟨by rw [hRc]; exact Nat.le_of_ble_eq_true rfl, by rw [hRs]; exact Nat.le_of_ble_eq_true rfl⟩) hP hD hS hA (fun u : (Nat → Int32) × (Nat → Int32) × (Nat → Int32) => [(a_0, .inr (12, [.int 0, .ref a_1, .ref a_2, .ref a_3, .ref a_4, .ref a_5, .int i_4, .int i_5, .int i_6, .int i_7, .int i_8, .long j_0, .int i_9, .int i_10, .int i_11, .int i_12, .ref a_6, .ref a_7, .ref a_8, .ref a_9, .ref a_10, .ref a_11, .ref a_12, .ref a_13, .ref a_14, .ref a_15, .ref a_16, .ref a_17, .ref a_18, .int i_13, .int i_14, .int i_15, .int i_16, .int i_17, .int i_18, .ref a_19, .int i_19, .ref a_20])), (a_6, .inl (cy 1, 5, .inl (mm_g [i_20, i_21, i_22, i_23, i_24]))), (a_7, .inl (cy 1, 30, .inl (mm_g [i_25, i_26, i_27, i_28, i_29, i_30, i_31, i_32, i_33, i_34, i_35, i_36, i_37, i_38, i_39, i_40, i_41, i_42, i_43, i_44, i_45, i_46, i_47, i_48, i_49, i_50, i_51, i_52, i_53, i_54]))), (a_9, .inl (cy 1, 15, .inl f_0)), (a_10, .inl (cy 1, 1050, .inl f_1)), (a_13, .inl (cy 1, 450, .inl f_2)), (a_15, .inl (cy 1, 7200, .inl u.1)), (a_16, .inl (cy 1, 3, .inl u.2.1)), (a_17, .inl (cy 1, 3, .inl u.2.2))]) [0, 1, 2, 3, 4, 5, 6, 7, 8] [] (n := 9) (fun _ => rfl) (by decide +kernel) (by decide +kernel) rfl (fun _ => rfl) (wr := []) rfl (fun _ => rfl) (fun _ => @rfl _ ([a_0, a_6, a_7, a_9, a_10, a_13, a_15, a_16, a_17] : List Nat)) ?_
                  clear hP hD hS
                  clear H locs
                  intro u
                  obtain ⟨n24, n25, n26⟩ := u
                  intro H locs hw (hP : va_P G vwCl [(a_0, .inr (12, [.int 0, .ref a_1, .ref a_2, .ref a_3, .ref a_4, .ref a_5, .int i_4, .int i_5, .int i_6, .int i_7, .int i_8, .long j_0, .int i_9, .int i_10, .int i_11, .int i_12, .ref a_6, .ref a_7, .ref a_8, .ref a_9, .ref a_10, .ref a_11, .ref a_12, .ref a_13, .ref a_14, .ref a_15, .ref a_16, .ref a_17, .ref a_18, .int i_13, .int i_14, .int i_15, .int i_16, .int i_17, .int i_18, .ref a_19, .int i_19, .ref a_20])), (a_6, .inl (cy 1, 5, .inl (mm_g [i_20, i_21, i_22, i_23, i_24]))), (a_7, .inl (cy 1, 30, .inl (mm_g [i_25, i_26, i_27, i_28, i_29, i_30, i_31, i_32, i_33, i_34, i_35, i_36, i_37, i_38, i_39, i_40, i_41, i_42, i_43, i_44, i_45, i_46, i_47, i_48, i_49, i_50, i_51, i_52, i_53, i_54]))), (a_9, .inl (cy 1, 15, .inl f_0)), (a_10, .inl (cy 1, 1050, .inl f_1)), (a_13, .inl (cy 1, 450, .inl f_2)), (a_15, .inl (cy 1, 7200, .inl n24)), (a_16, .inl (cy 1, 3, .inl n25)), (a_17, .inl (cy 1, 3, .inl n26))] H) (hD : va_D A [(a_0, .inr (12, [.int 0, .ref a_1, .ref a_2, .ref a_3, .ref a_4, .ref a_5, .int i_4, .int i_5, .int i_6, .int i_7, .int i_8, .long j_0, .int i_9, .int i_10, .int i_11, .int i_12, .ref a_6, .ref a_7, .ref a_8, .ref a_9, .ref a_10, .ref a_11, .ref a_12, .ref a_13, .ref a_14, .ref a_15, .ref a_16, .ref a_17, .ref a_18, .int i_13, .int i_14, .int i_15, .int i_16, .int i_17, .int i_18, .ref a_19, .int i_19, .ref a_20])), (a_6, .inl (cy 1, 5, .inl (mm_g [i_20, i_21, i_22, i_23, i_24]))), (a_7, .inl (cy 1, 30, .inl (mm_g [i_25, i_26, i_27, i_28, i_29, i_30, i_31, i_32, i_33, i_34, i_35, i_36, i_37, i_38, i_39, i_40, i_41, i_42, i_43, i_44, i_45, i_46, i_47, i_48, i_49, i_50, i_51, i_52, i_53, i_54]))), (a_9, .inl (cy 1, 15, .inl f_0)), (a_10, .inl (cy 1, 1050, .inl f_1)), (a_13, .inl (cy 1, 450, .inl f_2)), (a_15, .inl (cy 1, 7200, .inl n24)), (a_16, .inl (cy 1, 3, .inl n25)), (a_17, .inl (cy 1, 3, .inl n26))]) hS
                  obtain ⟨w27, w28, w29, w30, w31⟩ := hw
                  replace w30 : mm_laid n25 n26 i_28 := w30
                  replace w31 : mm_tab n24 n25 i_27 i_28 := w31
                  refine lv_aload_n hx hb dX12_swaps_55 rfl (lv_at hl 0 rfl) ?_
                  refine lv_iload_n hx hb dX12_swaps_56 rfl (lv_at hl 1 rfl) ?_
                  refine lv_iconst (v := 0) hx hb dX12_swaps_57 (by decide) ?_
                  refine lv_iload_n hx hb dX12_swaps_58 rfl (lv_at hl 2 rfl) ?_
                  refine mm_finir (va_runV (As := [.int i_0, .int 0, .int i_1]) (rest := []) ⟨hx, hb, hml, hown, hts⟩ (M122_X12_means0 l G cy H.size a_0 i_0 0 i_1 0 a_1 a_2 a_3 a_4 a_5 i_4 i_5 i_6 i_7 i_8 j_0 i_9 i_10 i_11 i_12 a_6 a_7 a_8 a_9 a_10 a_11 a_12 a_13 a_14 a_15 a_16 a_17 a_18 i_13 i_14 i_15 i_16 i_17 i_18 a_19 i_19 a_20 n24 n25 w2 (mm_wk mm_k0 (by decide)) w10 w27 w28 (mm_f1_l w30 w3 w2 (by decide))) (cwV 3 hts (mm_gV mm_w713 mm_w714 mm_w715 mm_w5 mm_w716) rfl rfl rfl hd_X12_means0 ⟨by rw [hRf]; exact Nat.le_of_ble_eq_true rfl, by rw [hRl]; exact Nat.le_of_ble_eq_true rfl⟩) (mm_preV hK hZ hS hA hP hD [0, 6, 7] rfl rfl 0 rfl rfl rfl) rfl rfl hl.1 rfl (lv_room (Nat.le_of_ble_eq_true rfl)) dX12_swaps_59 ⟨by rw [hRc]; exact Nat.le_of_ble_eq_true rfl, by rw [hRs]; exact Nat.le_of_ble_eq_true rfl⟩) hP hD hS hA [0, 6, 7] rfl (fun _ => rfl) ?_
                  clear hP hD hS
                  clear H locs
                  intro v32 _u H locs hw hP hD hS
                  obtain ⟨w33, w34⟩ := hw
                  refine lv_istore (lv' := [(4, .int v32), (0, .ref a_0), (1, .int i_0), (2, .int i_1), (3, .int i_2)]) hx hb dX12_swaps_62 hl (by decide) rfl ?_
                  clear hl
                  clear ls
                  intro ls hl
                  refine lv_aload_n hx hb dX12_swaps_64 rfl (lv_at hl 1 rfl) ?_
                  refine lv_iload_n hx hb dX12_swaps_65 rfl (lv_at hl 2 rfl) ?_
                  refine lv_iload_n hx hb dX12_swaps_66 rfl (lv_at hl 3 rfl) ?_
                  refine lv_iload_n hx hb dX12_swaps_67 rfl (lv_at hl 4 rfl) ?_
                  refine mm_finv (va_runV (As := [.int i_0, .int i_1, .int i_2]) (rest := []) ⟨hx, hb, hml, hown, hts⟩ (M299_X12_does l G cy H.size a_0 i_0 i_1 i_2 0 a_1 a_2 a_3 a_4 a_5 i_4 i_5 i_6 i_7 i_8 j_0 i_9 i_10 i_11 i_12 a_6 a_7 a_8 a_9 a_10 a_11 a_12 a_13 a_14 a_15 a_16 a_17 a_18 i_13 i_14 i_15 i_16 i_17 i_18 a_19 i_19 a_20 i_25 i_26 i_27 i_28 i_29 i_30 i_31 i_32 i_33 i_34 i_35 i_36 i_37 i_38 i_39 i_40 i_41 i_42 i_43 i_44 i_45 i_46 i_47 i_48 i_49 i_50 i_51 i_52 i_53 i_54 f_2 w2 w10 w16 h5 h6 h7 (mm_wk q6 (by decide)) h9 q23 h11 h12 h13 h14 h15 h16 h17 h18 h19 h20 h21 h22 h23 h24 h25 h26 h27 h28 h29 h30 h31 h32 h33 h34 h37 h42 h45 h48 h51 w3 w11 w17) (cwV 3 hts (mm_gV mm_w1554 mm_w1555 mm_w1556 mm_w5 mm_w1557) rfl rfl rfl hd_X12_does ⟨by rw [hRf]; exact Nat.le_of_ble_eq_true rfl, by rw [hRl]; exact Nat.le_of_ble_eq_true rfl⟩) (mm_preV hK hZ hS hA hP hD [0, 2, 5] rfl rfl 0 rfl rfl rfl) rfl rfl hl.1 rfl (lv_room (Nat.le_of_ble_eq_true rfl)) dX12_swaps_68 ⟨by rw [hRc]; exact Nat.le_of_ble_eq_true rfl, by rw [hRs]; exact Nat.le_of_ble_eq_true rfl⟩) hP hD hS hA (fun u : Int32 × (Nat → Int32) => [(a_0, .inr (12, [.int 0, .ref a_1, .ref a_2, .ref a_3, .ref a_4, .ref a_5, .int i_4, .int i_5, .int i_6, .int i_7, .int i_8, .long j_0, .int i_9, .int i_10, .int i_11, .int i_12, .ref a_6, .ref a_7, .ref a_8, .ref a_9, .ref a_10, .ref a_11, .ref a_12, .ref a_13, .ref a_14, .ref a_15, .ref a_16, .ref a_17, .ref a_18, .int i_13, .int i_14, .int i_15, .int i_16, .int i_17, .int i_18, .ref a_19, .int i_19, .ref a_20])), (a_6, .inl (cy 1, 5, .inl (mm_g [i_20, i_21, i_22, i_23, i_24]))), (a_7, .inl (cy 1, 30, .inl (mm_g [i_25, i_26, i_27, i_28, i_29, u.1, i_31, i_32, i_33, i_34, i_35, i_36, i_37, i_38, i_39, i_40, i_41, i_42, i_43, i_44, i_45, i_46, i_47, i_48, i_49, i_50, i_51, i_52, i_53, i_54]))), (a_9, .inl (cy 1, 15, .inl f_0)), (a_10, .inl (cy 1, 1050, .inl f_1)), (a_13, .inl (cy 1, 450, .inl u.2)), (a_15, .inl (cy 1, 7200, .inl n24)), (a_16, .inl (cy 1, 3, .inl n25)), (a_17, .inl (cy 1, 3, .inl n26))]) [0, 2, 5] [1, 3, 4, 6, 7, 8] (n := 9) (fun _ => rfl) (by decide +kernel) (by decide +kernel) rfl (fun _ => rfl) (wr := [(a_6, .inl (cy 1, 5, .inl (mm_g [i_20, i_21, i_22, i_23, i_24]))), (a_9, .inl (cy 1, 15, .inl f_0)), (a_10, .inl (cy 1, 1050, .inl f_1)), (a_15, .inl (cy 1, 7200, .inl n24)), (a_16, .inl (cy 1, 3, .inl n25)), (a_17, .inl (cy 1, 3, .inl n26))]) rfl (fun _ => rfl) (fun _ => @rfl _ ([a_0, a_7, a_13] : List Nat)) ?_
                  clear hP hD hS
                  clear H locs
                  intro u
                  obtain ⟨n35, n36⟩ := u
                  intro H locs hw (hP : va_P G vwCl [(a_0, .inr (12, [.int 0, .ref a_1, .ref a_2, .ref a_3, .ref a_4, .ref a_5, .int i_4, .int i_5, .int i_6, .int i_7, .int i_8, .long j_0, .int i_9, .int i_10, .int i_11, .int i_12, .ref a_6, .ref a_7, .ref a_8, .ref a_9, .ref a_10, .ref a_11, .ref a_12, .ref a_13, .ref a_14, .ref a_15, .ref a_16, .ref a_17, .ref a_18, .int i_13, .int i_14, .int i_15, .int i_16, .int i_17, .int i_18, .ref a_19, .int i_19, .ref a_20])), (a_6, .inl (cy 1, 5, .inl (mm_g [i_20, i_21, i_22, i_23, i_24]))), (a_7, .inl (cy 1, 30, .inl (mm_g [i_25, i_26, i_27, i_28, i_29, n35, i_31, i_32, i_33, i_34, i_35, i_36, i_37, i_38, i_39, i_40, i_41, i_42, i_43, i_44, i_45, i_46, i_47, i_48, i_49, i_50, i_51, i_52, i_53, i_54]))), (a_9, .inl (cy 1, 15, .inl f_0)), (a_10, .inl (cy 1, 1050, .inl f_1)), (a_13, .inl (cy 1, 450, .inl n36)), (a_15, .inl (cy 1, 7200, .inl n24)), (a_16, .inl (cy 1, 3, .inl n25)), (a_17, .inl (cy 1, 3, .inl n26))] H) (hD : va_D A [(a_0, .inr (12, [.int 0, .ref a_1, .ref a_2, .ref a_3, .ref a_4, .ref a_5, .int i_4, .int i_5, .int i_6, .int i_7, .int i_8, .long j_0, .int i_9, .int i_10, .int i_11, .int i_12, .ref a_6, .ref a_7, .ref a_8, .ref a_9, .ref a_10, .ref a_11, .ref a_12, .ref a_13, .ref a_14, .ref a_15, .ref a_16, .ref a_17, .ref a_18, .int i_13, .int i_14, .int i_15, .int i_16, .int i_17, .int i_18, .ref a_19, .int i_19, .ref a_20])), (a_6, .inl (cy 1, 5, .inl (mm_g [i_20, i_21, i_22, i_23, i_24]))), (a_7, .inl (cy 1, 30, .inl (mm_g [i_25, i_26, i_27, i_28, i_29, n35, i_31, i_32, i_33, i_34, i_35, i_36, i_37, i_38, i_39, i_40, i_41, i_42, i_43, i_44, i_45, i_46, i_47, i_48, i_49, i_50, i_51, i_52, i_53, i_54]))), (a_9, .inl (cy 1, 15, .inl f_0)), (a_10, .inl (cy 1, 1050, .inl f_1)), (a_13, .inl (cy 1, 450, .inl n36)), (a_15, .inl (cy 1, 7200, .inl n24)), (a_16, .inl (cy 1, 3, .inl n25)), (a_17, .inl (cy 1, 3, .inl n26))]) hS
                  obtain ⟨w37, w38, w39, w40, w41, w42⟩ := hw
                  replace w39 : mm_acs n36 0 i_27 i_28 n35 := w39
                  replace w40 : mm_acs n36 1 i_33 i_34 i_36 := w40
                  replace w41 : mm_acs n36 2 i_39 i_40 i_42 := w41
                  replace w42 : mm_acs n36 3 i_45 i_46 i_48 := w42
                  refine lv_iload hx hb dX12_swaps_71 (lv_at hl 0 rfl) ?_
                  subst hAe
                  rw [hQ]
                  exact W.iret (v := v32) hx hb hr (fun t ht hW => ⟨⟨v32, (n35, n36, n24, n25, n26), rfl, ⟨(mm_wk w37 (by decide)), w38, w27, w28, w29, w39, w40, w41, w42, (mm_wk w33 (by decide))⟩, by rw [ht]; exact hP, hK.warm hW, hD⟩, hS.F ht⟩) hS.2.2 dX12_swaps_73
                · have q43 := mm_eqI (lo := 30) (hi := 30) c22 h10 mm_k30 (by decide)
                  refine lv_bipush (v := (-5)) hx hb dX12_swaps_48 (by decide) ?_
                  subst hAe
                  rw [hQ]
                  exact W.iret (v := (-5)) hx hb hr (fun t ht hW => ⟨⟨(-5), (i_30, f_2, f_3, f_4, f_5), rfl, ⟨(mm_wk q43 (by decide)), h37, h38, h39, h40, h42, h45, h48, h51, (mm_wk mm_km5 (by decide))⟩, by rw [ht]; exact hP, hK.warm hW, hD⟩, hS.F ht⟩) hS.2.2 dX12_swaps_50
              · refine lv_bipush (v := (-2)) hx hb dX12_swaps_34 (by decide) ?_
                subst hAe
                rw [hQ]
                exact W.iret (v := (-2)) hx hb hr (fun t ht hW => ⟨⟨(-2), (i_30, f_2, f_3, f_4, f_5), rfl, ⟨h10, h37, h38, h39, h40, h42, h45, h48, h51, (mm_wk mm_km2 (by decide))⟩, by rw [ht]; exact hP, hK.warm hW, hD⟩, hS.F ht⟩) hS.2.2 dX12_swaps_36

set_option maxHeartbeats 4000000 in
set_option maxRecDepth 100000 in
theorem M301_X12_does (l : Launch) (G : va_G) (cy : Nat → ClassId) (sz : Nat) (a_0 : Nat) (i_0 : Int32) (i_1 : Int32) (a_1 : Nat) (a_2 : Nat) (a_3 : Nat) (a_4 : Nat) (a_5 : Nat) (i_2 : Int32) (i_3 : Int32) (i_4 : Int32) (i_5 : Int32) (i_6 : Int32) (j_0 : Int64) (i_7 : Int32) (i_8 : Int32) (i_9 : Int32) (i_10 : Int32) (a_6 : Nat) (a_7 : Nat) (a_8 : Nat) (a_9 : Nat) (a_10 : Nat) (a_11 : Nat) (a_12 : Nat) (a_13 : Nat) (a_14 : Nat) (a_15 : Nat) (a_16 : Nat) (a_17 : Nat) (a_18 : Nat) (i_11 : Int32) (i_12 : Int32) (i_13 : Int32) (i_14 : Int32) (i_15 : Int32) (i_16 : Int32) (a_19 : Nat) (i_17 : Int32) (a_20 : Nat) (i_18 : Int32) (i_19 : Int32) (i_20 : Int32) (i_21 : Int32) (i_22 : Int32) (i_23 : Int32) (i_24 : Int32) (i_25 : Int32) (i_26 : Int32) (i_27 : Int32) (i_28 : Int32) (i_29 : Int32) (i_30 : Int32) (i_31 : Int32) (i_32 : Int32) (i_33 : Int32) (i_34 : Int32) (i_35 : Int32) (i_36 : Int32) (i_37 : Int32) (i_38 : Int32) (i_39 : Int32) (i_40 : Int32) (i_41 : Int32) (i_42 : Int32) (i_43 : Int32) (i_44 : Int32) (i_45 : Int32) (i_46 : Int32) (i_47 : Int32) (f_0 : Nat → Int32) (h0 : mm_rg i_0 0 99) (h1 : mm_rg i_18 0 10) (h2 : mm_rg i_19 0 99) (h3 : mm_rg i_20 0 9) (h4 : mm_rg i_21 0 3) (h5 : mm_rg i_22 0 6) (h6 : mm_rg i_23 0 29) (h7 : mm_rg i_24 0 10) (h8 : mm_rg i_25 0 99) (h9 : mm_rg i_26 0 9) (h10 : mm_rg i_27 0 3) (h11 : mm_rg i_28 0 6) (h12 : mm_rg i_29 0 30) (h13 : mm_rg i_30 0 10) (h14 : mm_rg i_31 0 99) (h15 : mm_rg i_32 0 9) (h16 : mm_rg i_33 0 3) (h17 : mm_rg i_34 0 6) (h18 : mm_rg i_35 0 30) (h19 : mm_rg i_36 0 10) (h20 : mm_rg i_37 0 99) (h21 : mm_rg i_38 0 9) (h22 : mm_rg i_39 0 3) (h23 : mm_rg i_40 0 6) (h24 : mm_rg i_41 0 30) (h25 : mm_rg i_42 0 10) (h26 : mm_rg i_43 0 99) (h27 : mm_rg i_44 0 9) (h28 : mm_rg i_45 0 3) (h29 : mm_rg i_46 0 6) (h30 : mm_rg i_47 0 30) (h31 : mm_ar f_0 (-1) 99) (h32 : mm_acs f_0 0 i_20 i_21 i_23) (h33 : mm_acs f_0 1 i_26 i_27 i_29) (h34 : mm_acs f_0 2 i_32 i_33 i_35) (h35 : mm_acs f_0 3 i_38 i_39 i_41)  : mm_CV l yX12_does (mm_ws yX12_does cX12_does 5 (none)) ({ frames := 0, cells := 0, slots := 0, locals := 0 } : Room) G cy sz [(a_0, .inr (12, [.int i_1, .ref a_1, .ref a_2, .ref a_3, .ref a_4, .ref a_5, .int i_2, .int i_3, .int i_4, .int i_5, .int i_6, .long j_0, .int i_7, .int i_8, .int i_9, .int i_10, .ref a_6, .ref a_7, .ref a_8, .ref a_9, .ref a_10, .ref a_11, .ref a_12, .ref a_13, .ref a_14, .ref a_15, .ref a_16, .ref a_17, .ref a_18, .int i_11, .int i_12, .int i_13, .int i_14, .int i_15, .int i_16, .ref a_19, .int i_17, .ref a_20])), (a_7, .inl (cy 1, 30, .inl (mm_g [i_18, i_19, i_20, i_21, i_22, i_23, i_24, i_25, i_26, i_27, i_28, i_29, i_30, i_31, i_32, i_33, i_34, i_35, i_36, i_37, i_38, i_39, i_40, i_41, i_42, i_43, i_44, i_45, i_46, i_47]))), (a_13, .inl (cy 1, 450, .inl f_0))] [.ref a_0, .int (-1), .int 0, .int i_0] (fun u : Int32 × (Nat → Int32) => [(a_0, .inr (12, [.int i_1, .ref a_1, .ref a_2, .ref a_3, .ref a_4, .ref a_5, .int i_2, .int i_3, .int i_4, .int i_5, .int i_6, .long j_0, .int i_7, .int i_8, .int i_9, .int i_10, .ref a_6, .ref a_7, .ref a_8, .ref a_9, .ref a_10, .ref a_11, .ref a_12, .ref a_13, .ref a_14, .ref a_15, .ref a_16, .ref a_17, .ref a_18, .int i_11, .int i_12, .int i_13, .int i_14, .int i_15, .int i_16, .ref a_19, .int i_17, .ref a_20])), (a_7, .inl (cy 1, 30, .inl (mm_g [i_18, i_19, i_20, i_21, i_22, u.1, i_24, i_25, i_26, i_27, i_28, i_29, i_30, i_31, i_32, i_33, i_34, i_35, i_36, i_37, i_38, i_39, i_40, i_41, i_42, i_43, i_44, i_45, i_46, i_47]))), (a_13, .inl (cy 1, 450, .inl u.2))]) (fun u : Int32 × (Nat → Int32) => mm_rg u.1 1 30 ∧ mm_ar u.2 (-1) 99 ∧ mm_acs u.2 0 i_20 i_21 u.1 ∧ mm_acs u.2 1 i_26 i_27 i_29 ∧ mm_acs u.2 2 i_32 i_33 i_35 ∧ mm_acs u.2 3 i_38 i_39 i_41) 0 0 := by
  refine mm_begin (lv := [(0, .ref a_0), (1, .int (-1)), (2, .int 0), (3, .int i_0)]) (by decide) (Nat.le_of_ble_eq_true rfl) rfl ?_
  intro p e s m below meth c A ls R args Q H locs hRe hQ hAe hx hb hr hlocks hml hown hnm hts hsz hA hS hP hK hD hZ hl
  have hRf : R.frames = 0 := by rw [hRe]
  have hRl : R.locals = 0 := by rw [hRe]
  have hRc : R.cells = 0 := by rw [hRe]
  have hRs : R.slots = 0 := by rw [hRe]
  refine lv_iconst (v := 3) hx hb dX12_does_0 (by decide) ?_
  refine lv_aload_n hx hb dX12_does_1 rfl (lv_at hl 0 rfl) ?_
  refine va_get (D := G) (ci := 12) (v := .ref a_7) (C := RX12) (T := TX12) (N := 38) hx hb hts (mm_i inlX12) hown hK.1 hP 0 rfl rfl 17 (by decide) (mm_h hts mm_w149) (fun _ h9 => h9) rfl dX12_does_2 ?_
  refine lv_iconst (v := 5) hx hb dX12_does_5 (by decide) ?_
  refine va_iald hx hb hK.1 hP 1 1 rfl rfl (mm_in mm_k5 (by decide)) dX12_does_6 ?_
  rw [show (mm_g [i_18, i_19, i_20, i_21, i_22, i_23, i_24, i_25, i_26, i_27, i_28, i_29, i_30, i_31, i_32, i_33, i_34, i_35, i_36, i_37, i_38, i_39, i_40, i_41, i_42, i_43, i_44, i_45, i_46, i_47]) (5 : Int32).toNatClampNeg = i_23 from mm_ge 5 (by decide) rfl]
  refine lv_imul hx hb dX12_does_7 ?_
  refine lv_topi (fun v1 ev1 => ?_)
  have rv1 : mm_rg v1 0 87 := mm_mul ev1 mm_k3 h6 (by decide) (by decide)
  have tv1 := mm_mulEc ev1 mm_k3 h6 (by decide) (k := 3) (by decide)
  refine lv_istore (lv' := [(4, .int v1), (0, .ref a_0), (1, .int (-1)), (2, .int 0), (3, .int i_0)]) hx hb dX12_does_8 hl (by decide) rfl ?_
  clear hl
  clear ls
  intro ls hl
  refine lv_aload_n hx hb dX12_does_10 rfl (lv_at hl 1 rfl) ?_
  refine va_get (D := G) (ci := 12) (v := .ref a_13) (C := RX12) (T := TX12) (N := 38) hx hb hts (mm_i inlX12) hown hK.1 hP 0 rfl rfl 23 (by decide) (mm_h hts mm_w155) (fun _ h9 => h9) rfl dX12_does_11 ?_
  refine lv_iload hx hb dX12_does_14 (lv_at hl 0 rfl) ?_
  refine lv_iload_n hx hb dX12_does_16 rfl (lv_at hl 2 rfl) ?_
  refine va_iast hx hb hK.1 hP hD hS 2 1 rfl rfl (mm_in rv1 (by decide)) dX12_does_17 ?_
  clear hP hD hS
  clear H locs
  obtain ⟨g2, eg2⟩ : ∃ z : Nat → Int32, z = upd f_0 v1.toNatClampNeg (-1) := ⟨_, rfl⟩
  rw [← eg2]
  intro H locs (hP : va_P G vwCl [(a_0, .inr (12, [.int i_1, .ref a_1, .ref a_2, .ref a_3, .ref a_4, .ref a_5, .int i_2, .int i_3, .int i_4, .int i_5, .int i_6, .long j_0, .int i_7, .int i_8, .int i_9, .int i_10, .ref a_6, .ref a_7, .ref a_8, .ref a_9, .ref a_10, .ref a_11, .ref a_12, .ref a_13, .ref a_14, .ref a_15, .ref a_16, .ref a_17, .ref a_18, .int i_11, .int i_12, .int i_13, .int i_14, .int i_15, .int i_16, .ref a_19, .int i_17, .ref a_20])), (a_7, .inl (cy 1, 30, .inl (mm_g [i_18, i_19, i_20, i_21, i_22, i_23, i_24, i_25, i_26, i_27, i_28, i_29, i_30, i_31, i_32, i_33, i_34, i_35, i_36, i_37, i_38, i_39, i_40, i_41, i_42, i_43, i_44, i_45, i_46, i_47]))), (a_13, .inl (cy 1, 450, .inl g2))] H) (hD : va_D A [(a_0, .inr (12, [.int i_1, .ref a_1, .ref a_2, .ref a_3, .ref a_4, .ref a_5, .int i_2, .int i_3, .int i_4, .int i_5, .int i_6, .long j_0, .int i_7, .int i_8, .int i_9, .int i_10, .ref a_6, .ref a_7, .ref a_8, .ref a_9, .ref a_10, .ref a_11, .ref a_12, .ref a_13, .ref a_14, .ref a_15, .ref a_16, .ref a_17, .ref a_18, .int i_11, .int i_12, .int i_13, .int i_14, .int i_15, .int i_16, .ref a_19, .int i_17, .ref a_20])), (a_7, .inl (cy 1, 30, .inl (mm_g [i_18, i_19, i_20, i_21, i_22, i_23, i_24, i_25, i_26, i_27, i_28, i_29, i_30, i_31, i_32, i_33, i_34, i_35, i_36, i_37, i_38, i_39, i_40, i_41, i_42, i_43, i_44, i_45, i_46, i_47]))), (a_13, .inl (cy 1, 450, .inl g2))]) hS
  have rg2 : mm_ar g2 (-1) 99 := by rw [eg2]; exact mm_ar_upd (mm_ar_wk h31 (by decide)) (mm_wk mm_km1 (by decide)) _
  refine lv_aload_n hx hb dX12_does_18 rfl (lv_at hl 1 rfl) ?_
  refine va_get (D := G) (ci := 12) (v := .ref a_13) (C := RX12) (T := TX12) (N := 38) hx hb hts (mm_i inlX12) hown hK.1 hP 0 rfl rfl 23 (by decide) (mm_h hts mm_w155) (fun _ h9 => h9) rfl dX12_does_19 ?_
  refine lv_iload hx hb dX12_does_22 (lv_at hl 0 rfl) ?_
  refine lv_iconst (v := 1) hx hb dX12_does_24 (by decide) ?_
  refine lv_iadd hx hb dX12_does_25 ?_
  refine lv_topi (fun v3 ev3 => ?_)
  have rv3 : mm_rg v3 1 88 := mm_add ev3 rv1 mm_k1 (by decide) (by decide)
  have tv3 := mm_addEc ev3 rv1 mm_k1 (by decide) (k := 1) (by decide)
  refine lv_iload_n hx hb dX12_does_26 rfl (lv_at hl 3 rfl) ?_
  refine va_iast hx hb hK.1 hP hD hS 2 1 rfl rfl (mm_in rv3 (by decide)) dX12_does_27 ?_
  clear hP hD hS
  clear H locs
  obtain ⟨g4, eg4⟩ : ∃ z : Nat → Int32, z = upd g2 v3.toNatClampNeg 0 := ⟨_, rfl⟩
  rw [← eg4]
  intro H locs (hP : va_P G vwCl [(a_0, .inr (12, [.int i_1, .ref a_1, .ref a_2, .ref a_3, .ref a_4, .ref a_5, .int i_2, .int i_3, .int i_4, .int i_5, .int i_6, .long j_0, .int i_7, .int i_8, .int i_9, .int i_10, .ref a_6, .ref a_7, .ref a_8, .ref a_9, .ref a_10, .ref a_11, .ref a_12, .ref a_13, .ref a_14, .ref a_15, .ref a_16, .ref a_17, .ref a_18, .int i_11, .int i_12, .int i_13, .int i_14, .int i_15, .int i_16, .ref a_19, .int i_17, .ref a_20])), (a_7, .inl (cy 1, 30, .inl (mm_g [i_18, i_19, i_20, i_21, i_22, i_23, i_24, i_25, i_26, i_27, i_28, i_29, i_30, i_31, i_32, i_33, i_34, i_35, i_36, i_37, i_38, i_39, i_40, i_41, i_42, i_43, i_44, i_45, i_46, i_47]))), (a_13, .inl (cy 1, 450, .inl g4))] H) (hD : va_D A [(a_0, .inr (12, [.int i_1, .ref a_1, .ref a_2, .ref a_3, .ref a_4, .ref a_5, .int i_2, .int i_3, .int i_4, .int i_5, .int i_6, .long j_0, .int i_7, .int i_8, .int i_9, .int i_10, .ref a_6, .ref a_7, .ref a_8, .ref a_9, .ref a_10, .ref a_11, .ref a_12, .ref a_13, .ref a_14, .ref a_15, .ref a_16, .ref a_17, .ref a_18, .int i_11, .int i_12, .int i_13, .int i_14, .int i_15, .int i_16, .ref a_19, .int i_17, .ref a_20])), (a_7, .inl (cy 1, 30, .inl (mm_g [i_18, i_19, i_20, i_21, i_22, i_23, i_24, i_25, i_26, i_27, i_28, i_29, i_30, i_31, i_32, i_33, i_34, i_35, i_36, i_37, i_38, i_39, i_40, i_41, i_42, i_43, i_44, i_45, i_46, i_47]))), (a_13, .inl (cy 1, 450, .inl g4))]) hS
  have rg4 : mm_ar g4 (-1) 99 := by rw [eg4]; exact mm_ar_upd (mm_ar_wk rg2 (by decide)) (mm_wk mm_k0 (by decide)) _
  refine lv_aload_n hx hb dX12_does_28 rfl (lv_at hl 1 rfl) ?_
  refine va_get (D := G) (ci := 12) (v := .ref a_13) (C := RX12) (T := TX12) (N := 38) hx hb hts (mm_i inlX12) hown hK.1 hP 0 rfl rfl 23 (by decide) (mm_h hts mm_w155) (fun _ h9 => h9) rfl dX12_does_29 ?_
  refine lv_iload hx hb dX12_does_32 (lv_at hl 0 rfl) ?_
  refine lv_iconst (v := 2) hx hb dX12_does_34 (by decide) ?_
  refine lv_iadd hx hb dX12_does_35 ?_
  refine lv_topi (fun v5 ev5 => ?_)
  have rv5 : mm_rg v5 2 89 := mm_add ev5 rv1 mm_k2 (by decide) (by decide)
  have tv5 := mm_addEc ev5 rv1 mm_k2 (by decide) (k := 2) (by decide)
  refine lv_iload_n hx hb dX12_does_36 rfl (lv_at hl 4 rfl) ?_
  refine va_iast hx hb hK.1 hP hD hS 2 1 rfl rfl (mm_in rv5 (by decide)) dX12_does_37 ?_
  clear hP hD hS
  clear H locs
  obtain ⟨g6, eg6⟩ : ∃ z : Nat → Int32, z = upd g4 v5.toNatClampNeg i_0 := ⟨_, rfl⟩
  rw [← eg6]
  intro H locs (hP : va_P G vwCl [(a_0, .inr (12, [.int i_1, .ref a_1, .ref a_2, .ref a_3, .ref a_4, .ref a_5, .int i_2, .int i_3, .int i_4, .int i_5, .int i_6, .long j_0, .int i_7, .int i_8, .int i_9, .int i_10, .ref a_6, .ref a_7, .ref a_8, .ref a_9, .ref a_10, .ref a_11, .ref a_12, .ref a_13, .ref a_14, .ref a_15, .ref a_16, .ref a_17, .ref a_18, .int i_11, .int i_12, .int i_13, .int i_14, .int i_15, .int i_16, .ref a_19, .int i_17, .ref a_20])), (a_7, .inl (cy 1, 30, .inl (mm_g [i_18, i_19, i_20, i_21, i_22, i_23, i_24, i_25, i_26, i_27, i_28, i_29, i_30, i_31, i_32, i_33, i_34, i_35, i_36, i_37, i_38, i_39, i_40, i_41, i_42, i_43, i_44, i_45, i_46, i_47]))), (a_13, .inl (cy 1, 450, .inl g6))] H) (hD : va_D A [(a_0, .inr (12, [.int i_1, .ref a_1, .ref a_2, .ref a_3, .ref a_4, .ref a_5, .int i_2, .int i_3, .int i_4, .int i_5, .int i_6, .long j_0, .int i_7, .int i_8, .int i_9, .int i_10, .ref a_6, .ref a_7, .ref a_8, .ref a_9, .ref a_10, .ref a_11, .ref a_12, .ref a_13, .ref a_14, .ref a_15, .ref a_16, .ref a_17, .ref a_18, .int i_11, .int i_12, .int i_13, .int i_14, .int i_15, .int i_16, .ref a_19, .int i_17, .ref a_20])), (a_7, .inl (cy 1, 30, .inl (mm_g [i_18, i_19, i_20, i_21, i_22, i_23, i_24, i_25, i_26, i_27, i_28, i_29, i_30, i_31, i_32, i_33, i_34, i_35, i_36, i_37, i_38, i_39, i_40, i_41, i_42, i_43, i_44, i_45, i_46, i_47]))), (a_13, .inl (cy 1, 450, .inl g6))]) hS
  have rg6 : mm_ar g6 (-1) 99 := by rw [eg6]; exact mm_ar_upd (mm_ar_wk rg4 (by decide)) (mm_wk h0 (by decide)) _
  refine lv_aload_n hx hb dX12_does_38 rfl (lv_at hl 1 rfl) ?_
  refine va_get (D := G) (ci := 12) (v := .ref a_7) (C := RX12) (T := TX12) (N := 38) hx hb hts (mm_i inlX12) hown hK.1 hP 0 rfl rfl 17 (by decide) (mm_h hts mm_w149) (fun _ h9 => h9) rfl dX12_does_39 ?_
  refine lv_iconst (v := 5) hx hb dX12_does_42 (by decide) ?_
  refine lv_dup2_11 hx hb dX12_does_43 rfl rfl ?_
  refine va_iald hx hb hK.1 hP 1 1 rfl rfl (mm_in mm_k5 (by decide)) dX12_does_44 ?_
  rw [show (mm_g [i_18, i_19, i_20, i_21, i_22, i_23, i_24, i_25, i_26, i_27, i_28, i_29, i_30, i_31, i_32, i_33, i_34, i_35, i_36, i_37, i_38, i_39, i_40, i_41, i_42, i_43, i_44, i_45, i_46, i_47]) (5 : Int32).toNatClampNeg = i_23 from mm_ge 5 (by decide) rfl]
  refine lv_iconst (v := 1) hx hb dX12_does_45 (by decide) ?_
  refine lv_iadd hx hb dX12_does_46 ?_
  refine lv_topi (fun v7 ev7 => ?_)
  have rv7 : mm_rg v7 1 30 := mm_add ev7 h6 mm_k1 (by decide) (by decide)
  have tv7 := mm_addEc ev7 h6 mm_k1 (by decide) (k := 1) (by decide)
  refine va_iast hx hb hK.1 hP hD hS 1 1 rfl rfl (mm_in mm_k5 (by decide)) dX12_does_47 ?_
  clear hP hD hS
  clear H locs
  rw [show upd (mm_g [i_18, i_19, i_20, i_21, i_22, i_23, i_24, i_25, i_26, i_27, i_28, i_29, i_30, i_31, i_32, i_33, i_34, i_35, i_36, i_37, i_38, i_39, i_40, i_41, i_42, i_43, i_44, i_45, i_46, i_47]) (5 : Int32).toNatClampNeg v7 = (mm_g [i_18, i_19, i_20, i_21, i_22, v7, i_24, i_25, i_26, i_27, i_28, i_29, i_30, i_31, i_32, i_33, i_34, i_35, i_36, i_37, i_38, i_39, i_40, i_41, i_42, i_43, i_44, i_45, i_46, i_47]) from mm_gs2 5 30 (by decide) rfl rfl rfl]
  intro H locs (hP : va_P G vwCl [(a_0, .inr (12, [.int i_1, .ref a_1, .ref a_2, .ref a_3, .ref a_4, .ref a_5, .int i_2, .int i_3, .int i_4, .int i_5, .int i_6, .long j_0, .int i_7, .int i_8, .int i_9, .int i_10, .ref a_6, .ref a_7, .ref a_8, .ref a_9, .ref a_10, .ref a_11, .ref a_12, .ref a_13, .ref a_14, .ref a_15, .ref a_16, .ref a_17, .ref a_18, .int i_11, .int i_12, .int i_13, .int i_14, .int i_15, .int i_16, .ref a_19, .int i_17, .ref a_20])), (a_7, .inl (cy 1, 30, .inl (mm_g [i_18, i_19, i_20, i_21, i_22, v7, i_24, i_25, i_26, i_27, i_28, i_29, i_30, i_31, i_32, i_33, i_34, i_35, i_36, i_37, i_38, i_39, i_40, i_41, i_42, i_43, i_44, i_45, i_46, i_47]))), (a_13, .inl (cy 1, 450, .inl g6))] H) (hD : va_D A [(a_0, .inr (12, [.int i_1, .ref a_1, .ref a_2, .ref a_3, .ref a_4, .ref a_5, .int i_2, .int i_3, .int i_4, .int i_5, .int i_6, .long j_0, .int i_7, .int i_8, .int i_9, .int i_10, .ref a_6, .ref a_7, .ref a_8, .ref a_9, .ref a_10, .ref a_11, .ref a_12, .ref a_13, .ref a_14, .ref a_15, .ref a_16, .ref a_17, .ref a_18, .int i_11, .int i_12, .int i_13, .int i_14, .int i_15, .int i_16, .ref a_19, .int i_17, .ref a_20])), (a_7, .inl (cy 1, 30, .inl (mm_g [i_18, i_19, i_20, i_21, i_22, v7, i_24, i_25, i_26, i_27, i_28, i_29, i_30, i_31, i_32, i_33, i_34, i_35, i_36, i_37, i_38, i_39, i_40, i_41, i_42, i_43, i_44, i_45, i_46, i_47]))), (a_13, .inl (cy 1, 450, .inl g6))]) hS
  have w8 : mm_acs g6 0 i_20 i_21 v7 := (mm_acs_put h32 eg2 eg4 eg6 (by have := tv1; omega) (by have := tv3; have := tv1; omega) (by have := tv5; have := tv1; omega) (by have := tv7; omega) h6 h0 (Or.inl (mm_neg mm_km1 (by decide))) (by decide))
  have w9 : mm_acs g6 1 i_26 i_27 i_29 := (mm_acs_hi h33 eg2 eg4 eg6 rv1 rv3 rv5 (by decide))
  have w10 : mm_acs g6 2 i_32 i_33 i_35 := (mm_acs_hi h34 eg2 eg4 eg6 rv1 rv3 rv5 (by decide))
  have w11 : mm_acs g6 3 i_38 i_39 i_41 := (mm_acs_hi h35 eg2 eg4 eg6 rv1 rv3 rv5 (by decide))
  subst hAe
  rw [hQ]
  exact W.vret hx hb hr (fun t ht hW => ⟨⟨(v7, g6), rfl, ⟨rv7, rg6, w8, w9, w10, w11⟩, by rw [ht]; exact hP, hK.warm hW, hD⟩, hS.F ht⟩) hS.2.2 dX12_does_48

set_option maxHeartbeats 4000000 in
set_option maxRecDepth 100000 in
theorem M302_X12_stock (l : Launch) (G : va_G) (cy : Nat → ClassId) (sz : Nat) (a_0 : Nat) (i_0 : Int32) (i_1 : Int32) (a_1 : Nat) (a_2 : Nat) (a_3 : Nat) (a_4 : Nat) (a_5 : Nat) (i_2 : Int32) (i_3 : Int32) (i_4 : Int32) (i_5 : Int32) (i_6 : Int32) (j_0 : Int64) (i_7 : Int32) (i_8 : Int32) (i_9 : Int32) (i_10 : Int32) (a_6 : Nat) (a_7 : Nat) (a_8 : Nat) (a_9 : Nat) (a_10 : Nat) (a_11 : Nat) (a_12 : Nat) (a_13 : Nat) (a_14 : Nat) (a_15 : Nat) (a_16 : Nat) (a_17 : Nat) (a_18 : Nat) (i_11 : Int32) (i_12 : Int32) (i_13 : Int32) (i_14 : Int32) (i_15 : Int32) (i_16 : Int32) (a_19 : Nat) (i_17 : Int32) (a_20 : Nat) (i_18 : Int32) (i_19 : Int32) (i_20 : Int32) (i_21 : Int32) (i_22 : Int32) (i_23 : Int32) (i_24 : Int32) (i_25 : Int32) (i_26 : Int32) (i_27 : Int32) (i_28 : Int32) (i_29 : Int32) (i_30 : Int32) (i_31 : Int32) (i_32 : Int32) (i_33 : Int32) (i_34 : Int32) (i_35 : Int32) (i_36 : Int32) (i_37 : Int32) (i_38 : Int32) (i_39 : Int32) (i_40 : Int32) (i_41 : Int32) (i_42 : Int32) (i_43 : Int32) (i_44 : Int32) (i_45 : Int32) (i_46 : Int32) (i_47 : Int32) (i_48 : Int32) (i_49 : Int32) (i_50 : Int32) (i_51 : Int32) (i_52 : Int32) (f_0 : Nat → Int32) (h0 : mm_rg i_18 0 601) (h1 : mm_rg i_19 0 601) (h2 : mm_rg i_20 0 601) (h3 : mm_rg i_21 0 601) (h4 : mm_rg i_22 0 601) (h5 : mm_rg i_23 0 10) (h6 : mm_rg i_24 0 99) (h7 : mm_rg i_25 0 9) (h8 : mm_rg i_26 0 3) (h9 : mm_rg i_27 0 6) (h10 : mm_rg i_28 0 30) (h11 : mm_rg i_29 0 10) (h12 : mm_rg i_30 0 99) (h13 : mm_rg i_31 0 9) (h14 : mm_rg i_32 0 3) (h15 : mm_rg i_33 0 6) (h16 : mm_rg i_34 0 30) (h17 : mm_rg i_35 0 10) (h18 : mm_rg i_36 0 99) (h19 : mm_rg i_37 0 9) (h20 : mm_rg i_38 0 3) (h21 : mm_rg i_39 0 6) (h22 : mm_rg i_40 0 30) (h23 : mm_rg i_41 0 10) (h24 : mm_rg i_42 0 99) (h25 : mm_rg i_43 0 9) (h26 : mm_rg i_44 0 3) (h27 : mm_rg i_45 0 6) (h28 : mm_rg i_46 0 30) (h29 : mm_rg i_47 0 10) (h30 : mm_rg i_48 0 99) (h31 : mm_rg i_49 0 9) (h32 : mm_rg i_50 0 3) (h33 : mm_rg i_51 0 6) (h34 : mm_rg i_52 0 30) (h35 : mm_ar f_0 (-1) 99) (h36 : mm_acs f_0 0 i_25 i_26 i_28) (h37 : mm_tl i_18 i_26 i_27) (h38 : mm_acs f_0 1 i_31 i_32 i_34) (h39 : mm_tl i_19 i_32 i_33) (h40 : mm_acs f_0 2 i_37 i_38 i_40) (h41 : mm_tl i_20 i_38 i_39) (h42 : mm_acs f_0 3 i_43 i_44 i_46) (h43 : mm_tl i_21 i_44 i_45)  : mm_CI l yX12_stock (mm_ws yX12_stock cX12_stock 3 (some .int)) ({ frames := 1, cells := 0, slots := 0, locals := 25 } : Room) G cy sz [(a_0, .inr (12, [.int i_1, .ref a_1, .ref a_2, .ref a_3, .ref a_4, .ref a_5, .int i_2, .int i_3, .int i_4, .int i_5, .int i_6, .long j_0, .int i_7, .int i_8, .int i_9, .int i_10, .ref a_6, .ref a_7, .ref a_8, .ref a_9, .ref a_10, .ref a_11, .ref a_12, .ref a_13, .ref a_14, .ref a_15, .ref a_16, .ref a_17, .ref a_18, .int i_11, .int i_12, .int i_13, .int i_14, .int i_15, .int i_16, .ref a_19, .int i_17, .ref a_20])), (a_6, .inl (cy 1, 5, .inl (mm_g [i_18, i_19, i_20, i_21, i_22]))), (a_7, .inl (cy 1, 30, .inl (mm_g [i_23, i_24, i_25, i_26, i_27, i_28, i_29, i_30, i_31, i_32, i_33, i_34, i_35, i_36, i_37, i_38, i_39, i_40, i_41, i_42, i_43, i_44, i_45, i_46, i_47, i_48, i_49, i_50, i_51, i_52]))), (a_13, .inl (cy 1, 450, .inl f_0))] [.ref a_0, .int i_0] (fun u : Int32 × (Nat → Int32) => [(a_0, .inr (12, [.int 0, .ref a_1, .ref a_2, .ref a_3, .ref a_4, .ref a_5, .int i_2, .int i_3, .int i_4, .int i_5, .int i_6, .long j_0, .int i_7, .int i_8, .int i_9, .int i_10, .ref a_6, .ref a_7, .ref a_8, .ref a_9, .ref a_10, .ref a_11, .ref a_12, .ref a_13, .ref a_14, .ref a_15, .ref a_16, .ref a_17, .ref a_18, .int i_11, .int i_12, .int i_13, .int i_14, .int i_15, .int i_16, .ref a_19, .int i_17, .ref a_20])), (a_6, .inl (cy 1, 5, .inl (mm_g [i_18, i_19, i_20, i_21, i_22]))), (a_7, .inl (cy 1, 30, .inl (mm_g [i_23, i_24, i_25, i_26, i_27, u.1, i_29, i_30, i_31, i_32, i_33, i_34, i_35, i_36, i_37, i_38, i_39, i_40, i_41, i_42, i_43, i_44, i_45, i_46, i_47, i_48, i_49, i_50, i_51, i_52]))), (a_13, .inl (cy 1, 450, .inl u.2))]) (fun (r : Int32) (u : Int32 × (Nat → Int32)) => mm_rg u.1 0 30 ∧ mm_ar u.2 (-1) 99 ∧ mm_acs u.2 0 i_25 i_26 u.1 ∧ mm_acs u.2 1 i_31 i_32 i_34 ∧ mm_acs u.2 2 i_37 i_38 i_40 ∧ mm_acs u.2 3 i_43 i_44 i_46 ∧ mm_rg r (-5) 99) 0 0 := by
  refine mm_begin (lv := [(0, .ref a_0), (1, .int i_0)]) (by decide) (Nat.le_of_ble_eq_true rfl) rfl ?_
  intro p e s m below meth c A ls R args Q H locs hRe hQ hAe hx hb hr hlocks hml hown hnm hts hsz hA hS hP hK hD hZ hl
  have hRf : R.frames = 1 := by rw [hRe]
  have hRl : R.locals = 25 := by rw [hRe]
  have hRc : R.cells = 0 := by rw [hRe]
  have hRs : R.slots = 0 := by rw [hRe]
  refine lv_aload_n hx hb dX12_stock_0 rfl (lv_at hl 0 rfl) ?_
  refine lv_iconst (v := 0) hx hb dX12_stock_1 (by decide) ?_
  refine va_put (D := G) (ci := 12) (v := .int 0) (ty := tyX12 0) (C := RX12) (T := TX12) (N := 38) hx hb hts (mm_i inlX12) tyX12 tyX12_ok nmX12 hown hK.1 hP hD hS 0 rfl rfl 0 (by decide) (mm_h hts mm_w177) (fun _ h9 => h9) rfl (tyX12_ok 0 (by decide)) rfl rfl (Nat.le_of_ble_eq_true rfl) dX12_stock_2 ?_
  clear hP hD hS
  clear H locs
  intro H locs (hP : va_P G vwCl [(a_0, .inr (12, [.int 0, .ref a_1, .ref a_2, .ref a_3, .ref a_4, .ref a_5, .int i_2, .int i_3, .int i_4, .int i_5, .int i_6, .long j_0, .int i_7, .int i_8, .int i_9, .int i_10, .ref a_6, .ref a_7, .ref a_8, .ref a_9, .ref a_10, .ref a_11, .ref a_12, .ref a_13, .ref a_14, .ref a_15, .ref a_16, .ref a_17, .ref a_18, .int i_11, .int i_12, .int i_13, .int i_14, .int i_15, .int i_16, .ref a_19, .int i_17, .ref a_20])), (a_6, .inl (cy 1, 5, .inl (mm_g [i_18, i_19, i_20, i_21, i_22]))), (a_7, .inl (cy 1, 30, .inl (mm_g [i_23, i_24, i_25, i_26, i_27, i_28, i_29, i_30, i_31, i_32, i_33, i_34, i_35, i_36, i_37, i_38, i_39, i_40, i_41, i_42, i_43, i_44, i_45, i_46, i_47, i_48, i_49, i_50, i_51, i_52]))), (a_13, .inl (cy 1, 450, .inl f_0))] H) (hD : va_D A [(a_0, .inr (12, [.int 0, .ref a_1, .ref a_2, .ref a_3, .ref a_4, .ref a_5, .int i_2, .int i_3, .int i_4, .int i_5, .int i_6, .long j_0, .int i_7, .int i_8, .int i_9, .int i_10, .ref a_6, .ref a_7, .ref a_8, .ref a_9, .ref a_10, .ref a_11, .ref a_12, .ref a_13, .ref a_14, .ref a_15, .ref a_16, .ref a_17, .ref a_18, .int i_11, .int i_12, .int i_13, .int i_14, .int i_15, .int i_16, .ref a_19, .int i_17, .ref a_20])), (a_6, .inl (cy 1, 5, .inl (mm_g [i_18, i_19, i_20, i_21, i_22]))), (a_7, .inl (cy 1, 30, .inl (mm_g [i_23, i_24, i_25, i_26, i_27, i_28, i_29, i_30, i_31, i_32, i_33, i_34, i_35, i_36, i_37, i_38, i_39, i_40, i_41, i_42, i_43, i_44, i_45, i_46, i_47, i_48, i_49, i_50, i_51, i_52]))), (a_13, .inl (cy 1, 450, .inl f_0))]) hS
  refine lv_aload_n hx hb dX12_stock_5 rfl (lv_at hl 0 rfl) ?_
  refine mm_finir (va_runV (As := []) (rest := []) ⟨hx, hb, hml, hown, hts⟩ (M120_X12_isBook l G cy H.size a_0 0 a_1 a_2 a_3 a_4 a_5 i_2 i_3 i_4 i_5 i_6 j_0 i_7 i_8 i_9 i_10 a_6 a_7 a_8 a_9 a_10 a_11 a_12 a_13 a_14 a_15 a_16 a_17 a_18 i_11 i_12 i_13 i_14 i_15 i_16 a_19 i_17 a_20 i_18 i_19 i_20 i_21 i_22 h0 h1 h2 h3 h4) (cwV 0 hts (mm_gV mm_w653 mm_w654 mm_w655 mm_w5 mm_w656) rfl rfl rfl hd_X12_isBook ⟨by rw [hRf]; exact Nat.le_of_ble_eq_true rfl, by rw [hRl]; exact Nat.le_of_ble_eq_true rfl⟩) (mm_preV hK hZ hS hA hP hD [0, 1] rfl rfl 0 rfl rfl rfl) rfl rfl hl.1 rfl (lv_room (Nat.le_of_ble_eq_true rfl)) dX12_stock_6 ⟨by rw [hRc]; exact Nat.le_of_ble_eq_true rfl, by rw [hRs]; exact Nat.le_of_ble_eq_true rfl⟩) hP hD hS hA [0, 1] rfl (fun _ => rfl) ?_
  clear hP hD hS
  clear H locs
  intro v1 _u H locs hw hP hD hS
  rcases hw with rfl | rfl
  · refine lv_if_eq (tgt := 24) hx hb dX12_stock_9 (by decide) (fun c2 => ?_) (fun c2 => ?_)
    · refine lv_bipush (v := (-2)) hx hb dX12_stock_24 (by decide) ?_
      subst hAe
      rw [hQ]
      exact W.iret (v := (-2)) hx hb hr (fun t ht hW => ⟨⟨(-2), (i_28, f_0), rfl, ⟨h10, h35, h36, h38, h40, h42, (mm_wk mm_km2 (by decide))⟩, by rw [ht]; exact hP, hK.warm hW, hD⟩, hS.F ht⟩) hS.2.2 dX12_stock_26
    · have q3 := mm_neL (lo := 1) (mm_ne c2) mm_k0 mm_k0 (by decide) (by decide)
      exact mm_no q3 (by decide)
  · refine lv_if_eq (tgt := 24) hx hb dX12_stock_9 (by decide) (fun c4 => ?_) (fun c4 => ?_)
    · exact mm_eqN c4.symm mm_k0 mm_k1 (by decide)
    · refine lv_iload_n hx hb dX12_stock_12 rfl (lv_at hl 1 rfl) ?_
      obtain ⟨v5, ev5⟩ : ∃ y : Int64, y = i_0.toInt64 := ⟨_, rfl⟩
      refine lv_i2l hx hb dX12_stock_13 ev5.symm ?_
      have rv5 : mm_rl v5 (-2147483648) 2147483647 := mm_i2l ev5 (mm_top i_0)
      refine lv_lconst (v := 0) hx hb dX12_stock_14 (by decide) ?_
      refine lv_ldc2 (v := 99) hx hb hown (mm_h hts mm_w1566) dX12_stock_15 ?_
      refine mm_finir (va_runS (As := [.long v5, .long 0, .long 99]) (rest := []) ⟨hx, hb, hml, hown, hts⟩ (M7_X12_in l G cy H.size v5 99 ) (va_cwS 3 hts (mm_gS mm_w191 mm_w192 mm_w5 mm_w193) rfl rfl rfl hs_X12_in ⟨by rw [hRf]; exact Nat.le_of_ble_eq_true rfl, by rw [hRl]; exact Nat.le_of_ble_eq_true rfl⟩) (mm_preS hK hZ hS hA hP hD [] rfl rfl) rfl rfl hl.1 rfl (lv_room (Nat.le_of_ble_eq_true rfl)) dX12_stock_18 ⟨by rw [hRc]; exact Nat.le_of_ble_eq_true rfl, by rw [hRs]; exact Nat.le_of_ble_eq_true rfl⟩) hP hD hS hA [] rfl (fun _ => rfl) ?_
      clear hP hD hS
      clear H locs
      intro v6 _u H locs hw hP hD hS
      rcases hw with ⟨rfl, w7⟩ | ⟨rfl, w8, w9, w10, w11⟩
      · refine lv_if_ne (tgt := 27) hx hb dX12_stock_21 (by decide) (fun c12 => ?_) (fun c12 => ?_)
        · have q13 := mm_neL (lo := 1) (mm_ne c12) mm_k0 mm_k0 (by decide) (by decide)
          exact mm_no q13 (by decide)
        · refine lv_bipush (v := (-2)) hx hb dX12_stock_24 (by decide) ?_
          subst hAe
          rw [hQ]
          exact W.iret (v := (-2)) hx hb hr (fun t ht hW => ⟨⟨(-2), (i_28, f_0), rfl, ⟨h10, h35, h36, h38, h40, h42, (mm_wk mm_km2 (by decide))⟩, by rw [ht]; exact hP, hK.warm hW, hD⟩, hS.F ht⟩) hS.2.2 dX12_stock_26
      · have q14 := mm_meetl (lo := 0) (hi := 2147483647) w8 rv5 (by decide)
        have q15 := mm_meet (lo := 0) (hi := 2147483647) (mm_l2x ev5 q14) (mm_top i_0) (by decide)
        have q16 := mm_leLl w10 q14 mm_kl99
        have q17 := mm_meet (lo := 0) (hi := 99) (mm_l2x ev5 q16) q15 (by decide)
        refine lv_if_ne (tgt := 27) hx hb dX12_stock_21 (by decide) (fun c18 => ?_) (fun c18 => ?_)
        · refine lv_aload_n hx hb dX12_stock_27 rfl (lv_at hl 0 rfl) ?_
          refine va_get (D := G) (ci := 12) (v := .ref a_7) (C := RX12) (T := TX12) (N := 38) hx hb hts (mm_i inlX12) hown hK.1 hP 0 rfl rfl 17 (by decide) (mm_h hts mm_w149) (fun _ h9 => h9) rfl dX12_stock_28 ?_
          refine lv_iconst (v := 5) hx hb dX12_stock_31 (by decide) ?_
          refine va_iald hx hb hK.1 hP 2 1 rfl rfl (mm_in mm_k5 (by decide)) dX12_stock_32 ?_
          rw [show (mm_g [i_23, i_24, i_25, i_26, i_27, i_28, i_29, i_30, i_31, i_32, i_33, i_34, i_35, i_36, i_37, i_38, i_39, i_40, i_41, i_42, i_43, i_44, i_45, i_46, i_47, i_48, i_49, i_50, i_51, i_52]) (5 : Int32).toNatClampNeg = i_28 from mm_ge 5 (by decide) rfl]
          refine lv_bipush (v := 30) hx hb dX12_stock_33 (by decide) ?_
          refine lv_icmp_ne (tgt := 41) hx hb dX12_stock_35 (by decide) (fun c19 => ?_) (fun c19 => ?_)
          · have q20 := mm_neH (hi := 29) (mm_ne c19) h10 mm_k30 (by decide) (by decide)
            refine lv_aload_n hx hb dX12_stock_41 rfl (lv_at hl 0 rfl) ?_
            refine mm_finir (va_runV (As := []) (rest := []) ⟨hx, hb, hml, hown, hts⟩ (M139_X12_stockNow l G cy H.size a_0 0 a_1 a_2 a_3 a_4 a_5 i_2 i_3 i_4 i_5 i_6 j_0 i_7 i_8 i_9 i_10 a_6 a_7 a_8 a_9 a_10 a_11 a_12 a_13 a_14 a_15 a_16 a_17 a_18 i_11 i_12 i_13 i_14 i_15 i_16 a_19 i_17 a_20 i_23 i_24 i_25 i_26 i_27 i_28 i_29 i_30 i_31 i_32 i_33 i_34 i_35 i_36 i_37 i_38 i_39 i_40 i_41 i_42 i_43 i_44 i_45 i_46 i_47 i_48 i_49 i_50 i_51 i_52 f_0 h5 h6 h7 h8 h9 (mm_wk q20 (by decide)) h11 h12 h13 h14 h15 h16 h17 h18 h19 h20 h21 h22 h23 h24 h25 h26 h27 h28 h29 h30 h31 h32 h33 h34 h35 h36 h38 h40 h42) (cwV 0 hts (mm_gV mm_w861 mm_w862 mm_w863 mm_w5 mm_w864) rfl rfl rfl hd_X12_stockNow ⟨by rw [hRf]; exact Nat.le_of_ble_eq_true rfl, by rw [hRl]; exact Nat.le_of_ble_eq_true rfl⟩) (mm_preV hK hZ hS hA hP hD [0, 2, 3] rfl rfl 0 rfl rfl rfl) rfl rfl hl.1 rfl (lv_room (Nat.le_of_ble_eq_true rfl)) dX12_stock_42 ⟨by rw [hRc]; exact Nat.le_of_ble_eq_true rfl, by rw [hRs]; exact Nat.le_of_ble_eq_true rfl⟩) hP hD hS hA [0, 2, 3] rfl (fun _ => rfl) ?_
            clear hP hD hS
            clear H locs
            intro v21 _u H locs hw hP hD hS
            obtain ⟨w22, w23⟩ := hw
            refine lv_istore_n (lv' := [(2, .int v21), (0, .ref a_0), (1, .int i_0)]) hx hb dX12_stock_45 rfl hl (by decide) rfl ?_
            clear hl
            clear ls
            intro ls hl
            refine lv_aload_n hx hb dX12_stock_46 rfl (lv_at hl 1 rfl) ?_
            refine lv_iconst (v := (-1)) hx hb dX12_stock_47 (by decide) ?_
            refine lv_iconst (v := 0) hx hb dX12_stock_48 (by decide) ?_
            refine lv_iload_n hx hb dX12_stock_49 rfl (lv_at hl 2 rfl) ?_
            refine mm_finv (va_runV (As := [.int (-1), .int 0, .int i_0]) (rest := []) ⟨hx, hb, hml, hown, hts⟩ (M301_X12_does l G cy H.size a_0 i_0 0 a_1 a_2 a_3 a_4 a_5 i_2 i_3 i_4 i_5 i_6 j_0 i_7 i_8 i_9 i_10 a_6 a_7 a_8 a_9 a_10 a_11 a_12 a_13 a_14 a_15 a_16 a_17 a_18 i_11 i_12 i_13 i_14 i_15 i_16 a_19 i_17 a_20 i_23 i_24 i_25 i_26 i_27 i_28 i_29 i_30 i_31 i_32 i_33 i_34 i_35 i_36 i_37 i_38 i_39 i_40 i_41 i_42 i_43 i_44 i_45 i_46 i_47 i_48 i_49 i_50 i_51 i_52 f_0 q17 h5 h6 h7 h8 h9 q20 h11 h12 h13 h14 h15 h16 h17 h18 h19 h20 h21 h22 h23 h24 h25 h26 h27 h28 h29 h30 h31 h32 h33 h34 h35 h36 h38 h40 h42) (cwV 3 hts (mm_gV mm_w1554 mm_w1555 mm_w1556 mm_w5 mm_w1557) rfl rfl rfl hd_X12_does ⟨by rw [hRf]; exact Nat.le_of_ble_eq_true rfl, by rw [hRl]; exact Nat.le_of_ble_eq_true rfl⟩) (mm_preV hK hZ hS hA hP hD [0, 2, 3] rfl rfl 0 rfl rfl rfl) rfl rfl hl.1 rfl (lv_room (Nat.le_of_ble_eq_true rfl)) dX12_stock_50 ⟨by rw [hRc]; exact Nat.le_of_ble_eq_true rfl, by rw [hRs]; exact Nat.le_of_ble_eq_true rfl⟩) hP hD hS hA (fun u : Int32 × (Nat → Int32) => [(a_0, .inr (12, [.int 0, .ref a_1, .ref a_2, .ref a_3, .ref a_4, .ref a_5, .int i_2, .int i_3, .int i_4, .int i_5, .int i_6, .long j_0, .int i_7, .int i_8, .int i_9, .int i_10, .ref a_6, .ref a_7, .ref a_8, .ref a_9, .ref a_10, .ref a_11, .ref a_12, .ref a_13, .ref a_14, .ref a_15, .ref a_16, .ref a_17, .ref a_18, .int i_11, .int i_12, .int i_13, .int i_14, .int i_15, .int i_16, .ref a_19, .int i_17, .ref a_20])), (a_6, .inl (cy 1, 5, .inl (mm_g [i_18, i_19, i_20, i_21, i_22]))), (a_7, .inl (cy 1, 30, .inl (mm_g [i_23, i_24, i_25, i_26, i_27, u.1, i_29, i_30, i_31, i_32, i_33, i_34, i_35, i_36, i_37, i_38, i_39, i_40, i_41, i_42, i_43, i_44, i_45, i_46, i_47, i_48, i_49, i_50, i_51, i_52]))), (a_13, .inl (cy 1, 450, .inl u.2))]) [0, 2, 3] [1] (n := 4) (fun _ => rfl) (by decide +kernel) (by decide +kernel) rfl (fun _ => rfl) (wr := [(a_6, .inl (cy 1, 5, .inl (mm_g [i_18, i_19, i_20, i_21, i_22])))]) rfl (fun _ => rfl) (fun _ => @rfl _ ([a_0, a_7, a_13] : List Nat)) ?_
            clear hP hD hS
            clear H locs
            intro u
            obtain ⟨n24, n25⟩ := u
            intro H locs hw (hP : va_P G vwCl [(a_0, .inr (12, [.int 0, .ref a_1, .ref a_2, .ref a_3, .ref a_4, .ref a_5, .int i_2, .int i_3, .int i_4, .int i_5, .int i_6, .long j_0, .int i_7, .int i_8, .int i_9, .int i_10, .ref a_6, .ref a_7, .ref a_8, .ref a_9, .ref a_10, .ref a_11, .ref a_12, .ref a_13, .ref a_14, .ref a_15, .ref a_16, .ref a_17, .ref a_18, .int i_11, .int i_12, .int i_13, .int i_14, .int i_15, .int i_16, .ref a_19, .int i_17, .ref a_20])), (a_6, .inl (cy 1, 5, .inl (mm_g [i_18, i_19, i_20, i_21, i_22]))), (a_7, .inl (cy 1, 30, .inl (mm_g [i_23, i_24, i_25, i_26, i_27, n24, i_29, i_30, i_31, i_32, i_33, i_34, i_35, i_36, i_37, i_38, i_39, i_40, i_41, i_42, i_43, i_44, i_45, i_46, i_47, i_48, i_49, i_50, i_51, i_52]))), (a_13, .inl (cy 1, 450, .inl n25))] H) (hD : va_D A [(a_0, .inr (12, [.int 0, .ref a_1, .ref a_2, .ref a_3, .ref a_4, .ref a_5, .int i_2, .int i_3, .int i_4, .int i_5, .int i_6, .long j_0, .int i_7, .int i_8, .int i_9, .int i_10, .ref a_6, .ref a_7, .ref a_8, .ref a_9, .ref a_10, .ref a_11, .ref a_12, .ref a_13, .ref a_14, .ref a_15, .ref a_16, .ref a_17, .ref a_18, .int i_11, .int i_12, .int i_13, .int i_14, .int i_15, .int i_16, .ref a_19, .int i_17, .ref a_20])), (a_6, .inl (cy 1, 5, .inl (mm_g [i_18, i_19, i_20, i_21, i_22]))), (a_7, .inl (cy 1, 30, .inl (mm_g [i_23, i_24, i_25, i_26, i_27, n24, i_29, i_30, i_31, i_32, i_33, i_34, i_35, i_36, i_37, i_38, i_39, i_40, i_41, i_42, i_43, i_44, i_45, i_46, i_47, i_48, i_49, i_50, i_51, i_52]))), (a_13, .inl (cy 1, 450, .inl n25))]) hS
            obtain ⟨w26, w27, w28, w29, w30, w31⟩ := hw
            replace w28 : mm_acs n25 0 i_25 i_26 n24 := w28
            replace w29 : mm_acs n25 1 i_31 i_32 i_34 := w29
            replace w30 : mm_acs n25 2 i_37 i_38 i_40 := w30
            replace w31 : mm_acs n25 3 i_43 i_44 i_46 := w31
            refine lv_iload_n hx hb dX12_stock_53 rfl (lv_at hl 0 rfl) ?_
            subst hAe
            rw [hQ]
            exact W.iret (v := v21) hx hb hr (fun t ht hW => ⟨⟨v21, (n24, n25), rfl, ⟨(mm_wk w26 (by decide)), w27, w28, w29, w30, w31, (mm_wk w22 (by decide))⟩, by rw [ht]; exact hP, hK.warm hW, hD⟩, hS.F ht⟩) hS.2.2 dX12_stock_54
          · have q32 := mm_eqI (lo := 30) (hi := 30) c19 h10 mm_k30 (by decide)
            refine lv_bipush (v := (-5)) hx hb dX12_stock_38 (by decide) ?_
            subst hAe
            rw [hQ]
            exact W.iret (v := (-5)) hx hb hr (fun t ht hW => ⟨⟨(-5), (i_28, f_0), rfl, ⟨(mm_wk q32 (by decide)), h35, h36, h38, h40, h42, (mm_wk mm_km5 (by decide))⟩, by rw [ht]; exact hP, hK.warm hW, hD⟩, hS.F ht⟩) hS.2.2 dX12_stock_40
        · exact mm_eqN c18.symm mm_k0 mm_k1 (by decide)

set_option maxHeartbeats 4000000 in
set_option maxRecDepth 100000 in
theorem M303_X12_undo (l : Launch) (G : va_G) (cy : Nat → ClassId) (sz : Nat) (a_0 : Nat) (i_0 : Int32) (a_1 : Nat) (a_2 : Nat) (a_3 : Nat) (a_4 : Nat) (a_5 : Nat) (i_1 : Int32) (i_2 : Int32) (i_3 : Int32) (i_4 : Int32) (i_5 : Int32) (j_0 : Int64) (i_6 : Int32) (i_7 : Int32) (i_8 : Int32) (i_9 : Int32) (a_6 : Nat) (a_7 : Nat) (a_8 : Nat) (a_9 : Nat) (a_10 : Nat) (a_11 : Nat) (a_12 : Nat) (a_13 : Nat) (a_14 : Nat) (a_15 : Nat) (a_16 : Nat) (a_17 : Nat) (a_18 : Nat) (i_10 : Int32) (i_11 : Int32) (i_12 : Int32) (i_13 : Int32) (i_14 : Int32) (i_15 : Int32) (a_19 : Nat) (i_16 : Int32) (a_20 : Nat) (i_17 : Int32) (i_18 : Int32) (i_19 : Int32) (i_20 : Int32) (i_21 : Int32) (i_22 : Int32) (i_23 : Int32) (i_24 : Int32) (i_25 : Int32) (i_26 : Int32) (i_27 : Int32) (i_28 : Int32) (i_29 : Int32) (i_30 : Int32) (i_31 : Int32) (i_32 : Int32) (i_33 : Int32) (i_34 : Int32) (i_35 : Int32) (i_36 : Int32) (i_37 : Int32) (i_38 : Int32) (i_39 : Int32) (i_40 : Int32) (i_41 : Int32) (i_42 : Int32) (i_43 : Int32) (i_44 : Int32) (i_45 : Int32) (i_46 : Int32) (i_47 : Int32) (i_48 : Int32) (i_49 : Int32) (i_50 : Int32) (i_51 : Int32) (h0 : mm_rg i_17 0 601) (h1 : mm_rg i_18 0 601) (h2 : mm_rg i_19 0 601) (h3 : mm_rg i_20 0 601) (h4 : mm_rg i_21 0 601) (h5 : mm_rg i_22 0 10) (h6 : mm_rg i_23 0 99) (h7 : mm_rg i_24 0 9) (h8 : mm_rg i_25 0 3) (h9 : mm_rg i_26 0 6) (h10 : mm_rg i_27 0 30) (h11 : mm_rg i_28 0 10) (h12 : mm_rg i_29 0 99) (h13 : mm_rg i_30 0 9) (h14 : mm_rg i_31 0 3) (h15 : mm_rg i_32 0 6) (h16 : mm_rg i_33 0 30) (h17 : mm_rg i_34 0 10) (h18 : mm_rg i_35 0 99) (h19 : mm_rg i_36 0 9) (h20 : mm_rg i_37 0 3) (h21 : mm_rg i_38 0 6) (h22 : mm_rg i_39 0 30) (h23 : mm_rg i_40 0 10) (h24 : mm_rg i_41 0 99) (h25 : mm_rg i_42 0 9) (h26 : mm_rg i_43 0 3) (h27 : mm_rg i_44 0 6) (h28 : mm_rg i_45 0 30) (h29 : mm_rg i_46 0 10) (h30 : mm_rg i_47 0 99) (h31 : mm_rg i_48 0 9) (h32 : mm_rg i_49 0 3) (h33 : mm_rg i_50 0 6) (h34 : mm_rg i_51 0 30) (h35 : mm_tl i_17 i_25 i_26) (h36 : mm_tl i_18 i_31 i_32) (h37 : mm_tl i_19 i_37 i_38) (h38 : mm_tl i_20 i_43 i_44)  : mm_CI l yX12_undo (mm_ws yX12_undo cX12_undo 1 (some .int)) ({ frames := 1, cells := 0, slots := 0, locals := 20 } : Room) G cy sz [(a_0, .inr (12, [.int i_0, .ref a_1, .ref a_2, .ref a_3, .ref a_4, .ref a_5, .int i_1, .int i_2, .int i_3, .int i_4, .int i_5, .long j_0, .int i_6, .int i_7, .int i_8, .int i_9, .ref a_6, .ref a_7, .ref a_8, .ref a_9, .ref a_10, .ref a_11, .ref a_12, .ref a_13, .ref a_14, .ref a_15, .ref a_16, .ref a_17, .ref a_18, .int i_10, .int i_11, .int i_12, .int i_13, .int i_14, .int i_15, .ref a_19, .int i_16, .ref a_20])), (a_6, .inl (cy 1, 5, .inl (mm_g [i_17, i_18, i_19, i_20, i_21]))), (a_7, .inl (cy 1, 30, .inl (mm_g [i_22, i_23, i_24, i_25, i_26, i_27, i_28, i_29, i_30, i_31, i_32, i_33, i_34, i_35, i_36, i_37, i_38, i_39, i_40, i_41, i_42, i_43, i_44, i_45, i_46, i_47, i_48, i_49, i_50, i_51])))] [.ref a_0] (fun u : Int32 => [(a_0, .inr (12, [.int 0, .ref a_1, .ref a_2, .ref a_3, .ref a_4, .ref a_5, .int i_1, .int i_2, .int i_3, .int i_4, .int i_5, .long j_0, .int i_6, .int i_7, .int i_8, .int i_9, .ref a_6, .ref a_7, .ref a_8, .ref a_9, .ref a_10, .ref a_11, .ref a_12, .ref a_13, .ref a_14, .ref a_15, .ref a_16, .ref a_17, .ref a_18, .int i_10, .int i_11, .int i_12, .int i_13, .int i_14, .int i_15, .ref a_19, .int i_16, .ref a_20])), (a_6, .inl (cy 1, 5, .inl (mm_g [i_17, i_18, i_19, i_20, i_21]))), (a_7, .inl (cy 1, 30, .inl (mm_g [i_22, i_23, i_24, i_25, i_26, u, i_28, i_29, i_30, i_31, i_32, i_33, i_34, i_35, i_36, i_37, i_38, i_39, i_40, i_41, i_42, i_43, i_44, i_45, i_46, i_47, i_48, i_49, i_50, i_51])))]) (fun (r : Int32) (u : Int32) => mm_rg u 0 30 ∧ (u : Int32).toInt ≤ (i_27 : Int32).toInt ∧ mm_rg r (-5) 29) 0 0 := by
  refine mm_begin (lv := [(0, .ref a_0)]) (by decide) (Nat.le_of_ble_eq_true rfl) rfl ?_
  intro p e s m below meth c A ls R args Q H locs hRe hQ hAe hx hb hr hlocks hml hown hnm hts hsz hA hS hP hK hD hZ hl
  have hRf : R.frames = 1 := by rw [hRe]
  have hRl : R.locals = 20 := by rw [hRe]
  have hRc : R.cells = 0 := by rw [hRe]
  have hRs : R.slots = 0 := by rw [hRe]
  refine lv_aload_n hx hb dX12_undo_0 rfl (lv_at hl 0 rfl) ?_
  refine lv_iconst (v := 0) hx hb dX12_undo_1 (by decide) ?_
  refine va_put (D := G) (ci := 12) (v := .int 0) (ty := tyX12 0) (C := RX12) (T := TX12) (N := 38) hx hb hts (mm_i inlX12) tyX12 tyX12_ok nmX12 hown hK.1 hP hD hS 0 rfl rfl 0 (by decide) (mm_h hts mm_w177) (fun _ h9 => h9) rfl (tyX12_ok 0 (by decide)) rfl rfl (Nat.le_of_ble_eq_true rfl) dX12_undo_2 ?_
  clear hP hD hS
  clear H locs
  intro H locs (hP : va_P G vwCl [(a_0, .inr (12, [.int 0, .ref a_1, .ref a_2, .ref a_3, .ref a_4, .ref a_5, .int i_1, .int i_2, .int i_3, .int i_4, .int i_5, .long j_0, .int i_6, .int i_7, .int i_8, .int i_9, .ref a_6, .ref a_7, .ref a_8, .ref a_9, .ref a_10, .ref a_11, .ref a_12, .ref a_13, .ref a_14, .ref a_15, .ref a_16, .ref a_17, .ref a_18, .int i_10, .int i_11, .int i_12, .int i_13, .int i_14, .int i_15, .ref a_19, .int i_16, .ref a_20])), (a_6, .inl (cy 1, 5, .inl (mm_g [i_17, i_18, i_19, i_20, i_21]))), (a_7, .inl (cy 1, 30, .inl (mm_g [i_22, i_23, i_24, i_25, i_26, i_27, i_28, i_29, i_30, i_31, i_32, i_33, i_34, i_35, i_36, i_37, i_38, i_39, i_40, i_41, i_42, i_43, i_44, i_45, i_46, i_47, i_48, i_49, i_50, i_51])))] H) (hD : va_D A [(a_0, .inr (12, [.int 0, .ref a_1, .ref a_2, .ref a_3, .ref a_4, .ref a_5, .int i_1, .int i_2, .int i_3, .int i_4, .int i_5, .long j_0, .int i_6, .int i_7, .int i_8, .int i_9, .ref a_6, .ref a_7, .ref a_8, .ref a_9, .ref a_10, .ref a_11, .ref a_12, .ref a_13, .ref a_14, .ref a_15, .ref a_16, .ref a_17, .ref a_18, .int i_10, .int i_11, .int i_12, .int i_13, .int i_14, .int i_15, .ref a_19, .int i_16, .ref a_20])), (a_6, .inl (cy 1, 5, .inl (mm_g [i_17, i_18, i_19, i_20, i_21]))), (a_7, .inl (cy 1, 30, .inl (mm_g [i_22, i_23, i_24, i_25, i_26, i_27, i_28, i_29, i_30, i_31, i_32, i_33, i_34, i_35, i_36, i_37, i_38, i_39, i_40, i_41, i_42, i_43, i_44, i_45, i_46, i_47, i_48, i_49, i_50, i_51])))]) hS
  refine lv_aload_n hx hb dX12_undo_5 rfl (lv_at hl 0 rfl) ?_
  refine mm_finir (va_runV (As := []) (rest := []) ⟨hx, hb, hml, hown, hts⟩ (M120_X12_isBook l G cy H.size a_0 0 a_1 a_2 a_3 a_4 a_5 i_1 i_2 i_3 i_4 i_5 j_0 i_6 i_7 i_8 i_9 a_6 a_7 a_8 a_9 a_10 a_11 a_12 a_13 a_14 a_15 a_16 a_17 a_18 i_10 i_11 i_12 i_13 i_14 i_15 a_19 i_16 a_20 i_17 i_18 i_19 i_20 i_21 h0 h1 h2 h3 h4) (cwV 0 hts (mm_gV mm_w653 mm_w654 mm_w655 mm_w5 mm_w656) rfl rfl rfl hd_X12_isBook ⟨by rw [hRf]; exact Nat.le_of_ble_eq_true rfl, by rw [hRl]; exact Nat.le_of_ble_eq_true rfl⟩) (mm_preV hK hZ hS hA hP hD [0, 1] rfl rfl 0 rfl rfl rfl) rfl rfl hl.1 rfl (lv_room (Nat.le_of_ble_eq_true rfl)) dX12_undo_6 ⟨by rw [hRc]; exact Nat.le_of_ble_eq_true rfl, by rw [hRs]; exact Nat.le_of_ble_eq_true rfl⟩) hP hD hS hA [0, 1] rfl (fun _ => rfl) ?_
  clear hP hD hS
  clear H locs
  intro v1 _u H locs hw hP hD hS
  rcases hw with rfl | rfl
  · refine lv_if_ne (tgt := 15) hx hb dX12_undo_9 (by decide) (fun c2 => ?_) (fun c2 => ?_)
    · have q3 := mm_neL (lo := 1) (mm_ne c2) mm_k0 mm_k0 (by decide) (by decide)
      exact mm_no q3 (by decide)
    · refine lv_bipush (v := (-2)) hx hb dX12_undo_12 (by decide) ?_
      have w4 : (i_27 : Int32).toInt ≤ (i_27 : Int32).toInt := (Int.le_refl _)
      subst hAe
      rw [hQ]
      exact W.iret (v := (-2)) hx hb hr (fun t ht hW => ⟨⟨(-2), i_27, rfl, ⟨h10, w4, (mm_wk mm_km2 (by decide))⟩, by rw [ht]; exact hP, hK.warm hW, hD⟩, hS.F ht⟩) hS.2.2 dX12_undo_14
  · refine lv_if_ne (tgt := 15) hx hb dX12_undo_9 (by decide) (fun c5 => ?_) (fun c5 => ?_)
    · refine lv_aload_n hx hb dX12_undo_15 rfl (lv_at hl 0 rfl) ?_
      refine va_get (D := G) (ci := 12) (v := .ref a_7) (C := RX12) (T := TX12) (N := 38) hx hb hts (mm_i inlX12) hown hK.1 hP 0 rfl rfl 17 (by decide) (mm_h hts mm_w149) (fun _ h9 => h9) rfl dX12_undo_16 ?_
      refine lv_iconst (v := 5) hx hb dX12_undo_19 (by decide) ?_
      refine va_iald hx hb hK.1 hP 2 1 rfl rfl (mm_in mm_k5 (by decide)) dX12_undo_20 ?_
      rw [show (mm_g [i_22, i_23, i_24, i_25, i_26, i_27, i_28, i_29, i_30, i_31, i_32, i_33, i_34, i_35, i_36, i_37, i_38, i_39, i_40, i_41, i_42, i_43, i_44, i_45, i_46, i_47, i_48, i_49, i_50, i_51]) (5 : Int32).toNatClampNeg = i_27 from mm_ge 5 (by decide) rfl]
      refine lv_if_ne (tgt := 27) hx hb dX12_undo_21 (by decide) (fun c6 => ?_) (fun c6 => ?_)
      · have q7 := mm_neL (lo := 1) (mm_ne c6) h10 mm_k0 (by decide) (by decide)
        refine lv_aload_n hx hb dX12_undo_27 rfl (lv_at hl 0 rfl) ?_
        refine va_get (D := G) (ci := 12) (v := .ref a_7) (C := RX12) (T := TX12) (N := 38) hx hb hts (mm_i inlX12) hown hK.1 hP 0 rfl rfl 17 (by decide) (mm_h hts mm_w149) (fun _ h9 => h9) rfl dX12_undo_28 ?_
        refine lv_iconst (v := 5) hx hb dX12_undo_31 (by decide) ?_
        refine lv_dup2_11 hx hb dX12_undo_32 rfl rfl ?_
        refine va_iald hx hb hK.1 hP 2 1 rfl rfl (mm_in mm_k5 (by decide)) dX12_undo_33 ?_
        rw [show (mm_g [i_22, i_23, i_24, i_25, i_26, i_27, i_28, i_29, i_30, i_31, i_32, i_33, i_34, i_35, i_36, i_37, i_38, i_39, i_40, i_41, i_42, i_43, i_44, i_45, i_46, i_47, i_48, i_49, i_50, i_51]) (5 : Int32).toNatClampNeg = i_27 from mm_ge 5 (by decide) rfl]
        refine lv_iconst (v := 1) hx hb dX12_undo_34 (by decide) ?_
        refine lv_isub hx hb dX12_undo_35 ?_
        refine lv_topi (fun v8 ev8 => ?_)
        have rv8 : mm_rg v8 0 29 := mm_sub ev8 q7 mm_k1 (by decide) (by decide)
        have tv8 := mm_subEc ev8 q7 mm_k1 (by decide) (k := (-1)) (by decide)
        refine va_iast hx hb hK.1 hP hD hS 2 1 rfl rfl (mm_in mm_k5 (by decide)) dX12_undo_36 ?_
        clear hP hD hS
        clear H locs
        rw [show upd (mm_g [i_22, i_23, i_24, i_25, i_26, i_27, i_28, i_29, i_30, i_31, i_32, i_33, i_34, i_35, i_36, i_37, i_38, i_39, i_40, i_41, i_42, i_43, i_44, i_45, i_46, i_47, i_48, i_49, i_50, i_51]) (5 : Int32).toNatClampNeg v8 = (mm_g [i_22, i_23, i_24, i_25, i_26, v8, i_28, i_29, i_30, i_31, i_32, i_33, i_34, i_35, i_36, i_37, i_38, i_39, i_40, i_41, i_42, i_43, i_44, i_45, i_46, i_47, i_48, i_49, i_50, i_51]) from mm_gs2 5 30 (by decide) rfl rfl rfl]
        intro H locs (hP : va_P G vwCl [(a_0, .inr (12, [.int 0, .ref a_1, .ref a_2, .ref a_3, .ref a_4, .ref a_5, .int i_1, .int i_2, .int i_3, .int i_4, .int i_5, .long j_0, .int i_6, .int i_7, .int i_8, .int i_9, .ref a_6, .ref a_7, .ref a_8, .ref a_9, .ref a_10, .ref a_11, .ref a_12, .ref a_13, .ref a_14, .ref a_15, .ref a_16, .ref a_17, .ref a_18, .int i_10, .int i_11, .int i_12, .int i_13, .int i_14, .int i_15, .ref a_19, .int i_16, .ref a_20])), (a_6, .inl (cy 1, 5, .inl (mm_g [i_17, i_18, i_19, i_20, i_21]))), (a_7, .inl (cy 1, 30, .inl (mm_g [i_22, i_23, i_24, i_25, i_26, v8, i_28, i_29, i_30, i_31, i_32, i_33, i_34, i_35, i_36, i_37, i_38, i_39, i_40, i_41, i_42, i_43, i_44, i_45, i_46, i_47, i_48, i_49, i_50, i_51])))] H) (hD : va_D A [(a_0, .inr (12, [.int 0, .ref a_1, .ref a_2, .ref a_3, .ref a_4, .ref a_5, .int i_1, .int i_2, .int i_3, .int i_4, .int i_5, .long j_0, .int i_6, .int i_7, .int i_8, .int i_9, .ref a_6, .ref a_7, .ref a_8, .ref a_9, .ref a_10, .ref a_11, .ref a_12, .ref a_13, .ref a_14, .ref a_15, .ref a_16, .ref a_17, .ref a_18, .int i_10, .int i_11, .int i_12, .int i_13, .int i_14, .int i_15, .ref a_19, .int i_16, .ref a_20])), (a_6, .inl (cy 1, 5, .inl (mm_g [i_17, i_18, i_19, i_20, i_21]))), (a_7, .inl (cy 1, 30, .inl (mm_g [i_22, i_23, i_24, i_25, i_26, v8, i_28, i_29, i_30, i_31, i_32, i_33, i_34, i_35, i_36, i_37, i_38, i_39, i_40, i_41, i_42, i_43, i_44, i_45, i_46, i_47, i_48, i_49, i_50, i_51])))]) hS
        refine lv_aload_n hx hb dX12_undo_37 rfl (lv_at hl 0 rfl) ?_
        refine va_get (D := G) (ci := 12) (v := .ref a_7) (C := RX12) (T := TX12) (N := 38) hx hb hts (mm_i inlX12) hown hK.1 hP 0 rfl rfl 17 (by decide) (mm_h hts mm_w149) (fun _ h9 => h9) rfl dX12_undo_38 ?_
        refine lv_iconst (v := 5) hx hb dX12_undo_41 (by decide) ?_
        refine va_iald hx hb hK.1 hP 2 1 rfl rfl (mm_in mm_k5 (by decide)) dX12_undo_42 ?_
        rw [show (mm_g [i_22, i_23, i_24, i_25, i_26, v8, i_28, i_29, i_30, i_31, i_32, i_33, i_34, i_35, i_36, i_37, i_38, i_39, i_40, i_41, i_42, i_43, i_44, i_45, i_46, i_47, i_48, i_49, i_50, i_51]) (5 : Int32).toNatClampNeg = v8 from mm_ge 5 (by decide) rfl]
        have w9 : (v8 : Int32).toInt ≤ (i_27 : Int32).toInt := (by have := tv8; omega)
        subst hAe
        rw [hQ]
        exact W.iret (v := v8) hx hb hr (fun t ht hW => ⟨⟨v8, v8, rfl, ⟨(mm_wk rv8 (by decide)), w9, (mm_wk rv8 (by decide))⟩, by rw [ht]; exact hP, hK.warm hW, hD⟩, hS.F ht⟩) hS.2.2 dX12_undo_43
      · have q10 := mm_eqI (lo := 0) (hi := 0) c6 h10 mm_k0 (by decide)
        refine lv_bipush (v := (-5)) hx hb dX12_undo_24 (by decide) ?_
        have w11 : (i_27 : Int32).toInt ≤ (i_27 : Int32).toInt := (Int.le_refl _)
        subst hAe
        rw [hQ]
        exact W.iret (v := (-5)) hx hb hr (fun t ht hW => ⟨⟨(-5), i_27, rfl, ⟨(mm_wk q10 (by decide)), w11, (mm_wk mm_km5 (by decide))⟩, by rw [ht]; exact hP, hK.warm hW, hD⟩, hS.F ht⟩) hS.2.2 dX12_undo_26
    · exact mm_eqN c5.symm mm_k0 mm_k1 (by decide)

set_option maxHeartbeats 4000000 in
set_option maxRecDepth 100000 in
theorem M304_X12_anew (l : Launch) (G : va_G) (cy : Nat → ClassId) (sz : Nat) (a_0 : Nat) (i_0 : Int32) (a_1 : Nat) (a_2 : Nat) (a_3 : Nat) (a_4 : Nat) (a_5 : Nat) (i_1 : Int32) (i_2 : Int32) (i_3 : Int32) (i_4 : Int32) (i_5 : Int32) (j_0 : Int64) (i_6 : Int32) (i_7 : Int32) (i_8 : Int32) (i_9 : Int32) (a_6 : Nat) (a_7 : Nat) (a_8 : Nat) (a_9 : Nat) (a_10 : Nat) (a_11 : Nat) (a_12 : Nat) (a_13 : Nat) (a_14 : Nat) (a_15 : Nat) (a_16 : Nat) (a_17 : Nat) (a_18 : Nat) (i_10 : Int32) (i_11 : Int32) (i_12 : Int32) (i_13 : Int32) (i_14 : Int32) (i_15 : Int32) (a_19 : Nat) (i_16 : Int32) (a_20 : Nat) (i_17 : Int32) (i_18 : Int32) (i_19 : Int32) (i_20 : Int32) (i_21 : Int32) (i_22 : Int32) (i_23 : Int32) (i_24 : Int32) (i_25 : Int32) (i_26 : Int32) (i_27 : Int32) (i_28 : Int32) (i_29 : Int32) (i_30 : Int32) (i_31 : Int32) (i_32 : Int32) (i_33 : Int32) (i_34 : Int32) (i_35 : Int32) (i_36 : Int32) (i_37 : Int32) (i_38 : Int32) (i_39 : Int32) (i_40 : Int32) (i_41 : Int32) (i_42 : Int32) (i_43 : Int32) (i_44 : Int32) (i_45 : Int32) (i_46 : Int32) (i_47 : Int32) (i_48 : Int32) (i_49 : Int32) (i_50 : Int32) (i_51 : Int32) (h0 : mm_rg i_17 0 601) (h1 : mm_rg i_18 0 601) (h2 : mm_rg i_19 0 601) (h3 : mm_rg i_20 0 601) (h4 : mm_rg i_21 0 601) (h5 : mm_rg i_22 0 10) (h6 : mm_rg i_23 0 99) (h7 : mm_rg i_24 0 9) (h8 : mm_rg i_25 0 3) (h9 : mm_rg i_26 0 6) (h10 : mm_rg i_27 0 30) (h11 : mm_rg i_28 0 10) (h12 : mm_rg i_29 0 99) (h13 : mm_rg i_30 0 9) (h14 : mm_rg i_31 0 3) (h15 : mm_rg i_32 0 6) (h16 : mm_rg i_33 0 30) (h17 : mm_rg i_34 0 10) (h18 : mm_rg i_35 0 99) (h19 : mm_rg i_36 0 9) (h20 : mm_rg i_37 0 3) (h21 : mm_rg i_38 0 6) (h22 : mm_rg i_39 0 30) (h23 : mm_rg i_40 0 10) (h24 : mm_rg i_41 0 99) (h25 : mm_rg i_42 0 9) (h26 : mm_rg i_43 0 3) (h27 : mm_rg i_44 0 6) (h28 : mm_rg i_45 0 30) (h29 : mm_rg i_46 0 10) (h30 : mm_rg i_47 0 99) (h31 : mm_rg i_48 0 9) (h32 : mm_rg i_49 0 3) (h33 : mm_rg i_50 0 6) (h34 : mm_rg i_51 0 30) (h35 : mm_tl i_17 i_25 i_26) (h36 : mm_tl i_18 i_31 i_32) (h37 : mm_tl i_19 i_37 i_38) (h38 : mm_tl i_20 i_43 i_44)  : mm_CI l yX12_anew (mm_ws yX12_anew cX12_anew 2 (some .int)) ({ frames := 1, cells := 0, slots := 0, locals := 20 } : Room) G cy sz [(a_0, .inr (12, [.int i_0, .ref a_1, .ref a_2, .ref a_3, .ref a_4, .ref a_5, .int i_1, .int i_2, .int i_3, .int i_4, .int i_5, .long j_0, .int i_6, .int i_7, .int i_8, .int i_9, .ref a_6, .ref a_7, .ref a_8, .ref a_9, .ref a_10, .ref a_11, .ref a_12, .ref a_13, .ref a_14, .ref a_15, .ref a_16, .ref a_17, .ref a_18, .int i_10, .int i_11, .int i_12, .int i_13, .int i_14, .int i_15, .ref a_19, .int i_16, .ref a_20])), (a_6, .inl (cy 1, 5, .inl (mm_g [i_17, i_18, i_19, i_20, i_21]))), (a_7, .inl (cy 1, 30, .inl (mm_g [i_22, i_23, i_24, i_25, i_26, i_27, i_28, i_29, i_30, i_31, i_32, i_33, i_34, i_35, i_36, i_37, i_38, i_39, i_40, i_41, i_42, i_43, i_44, i_45, i_46, i_47, i_48, i_49, i_50, i_51])))] [.ref a_0] (fun u : Int32 => [(a_0, .inr (12, [.int 0, .ref a_1, .ref a_2, .ref a_3, .ref a_4, .ref a_5, .int i_1, .int i_2, .int i_3, .int i_4, .int i_5, .long j_0, .int i_6, .int i_7, .int i_8, .int i_9, .ref a_6, .ref a_7, .ref a_8, .ref a_9, .ref a_10, .ref a_11, .ref a_12, .ref a_13, .ref a_14, .ref a_15, .ref a_16, .ref a_17, .ref a_18, .int i_10, .int i_11, .int i_12, .int i_13, .int i_14, .int i_15, .ref a_19, .int i_16, .ref a_20])), (a_6, .inl (cy 1, 5, .inl (mm_g [i_17, i_18, i_19, i_20, i_21]))), (a_7, .inl (cy 1, 30, .inl (mm_g [i_22, i_23, i_24, i_25, i_26, u, i_28, i_29, i_30, i_31, i_32, i_33, i_34, i_35, i_36, i_37, i_38, i_39, i_40, i_41, i_42, i_43, i_44, i_45, i_46, i_47, i_48, i_49, i_50, i_51])))]) (fun (r : Int32) (u : Int32) => mm_rg u 0 30 ∧ (u : Int32).toInt ≤ (i_27 : Int32).toInt ∧ mm_rg r (-2) 30) 0 0 := by
  refine mm_begin (lv := [(0, .ref a_0)]) (by decide) (Nat.le_of_ble_eq_true rfl) rfl ?_
  intro p e s m below meth c A ls R args Q H locs hRe hQ hAe hx hb hr hlocks hml hown hnm hts hsz hA hS hP hK hD hZ hl
  have hRf : R.frames = 1 := by rw [hRe]
  have hRl : R.locals = 20 := by rw [hRe]
  have hRc : R.cells = 0 := by rw [hRe]
  have hRs : R.slots = 0 := by rw [hRe]
  refine lv_aload_n hx hb dX12_anew_0 rfl (lv_at hl 0 rfl) ?_
  refine lv_iconst (v := 0) hx hb dX12_anew_1 (by decide) ?_
  refine va_put (D := G) (ci := 12) (v := .int 0) (ty := tyX12 0) (C := RX12) (T := TX12) (N := 38) hx hb hts (mm_i inlX12) tyX12 tyX12_ok nmX12 hown hK.1 hP hD hS 0 rfl rfl 0 (by decide) (mm_h hts mm_w177) (fun _ h9 => h9) rfl (tyX12_ok 0 (by decide)) rfl rfl (Nat.le_of_ble_eq_true rfl) dX12_anew_2 ?_
  clear hP hD hS
  clear H locs
  intro H locs (hP : va_P G vwCl [(a_0, .inr (12, [.int 0, .ref a_1, .ref a_2, .ref a_3, .ref a_4, .ref a_5, .int i_1, .int i_2, .int i_3, .int i_4, .int i_5, .long j_0, .int i_6, .int i_7, .int i_8, .int i_9, .ref a_6, .ref a_7, .ref a_8, .ref a_9, .ref a_10, .ref a_11, .ref a_12, .ref a_13, .ref a_14, .ref a_15, .ref a_16, .ref a_17, .ref a_18, .int i_10, .int i_11, .int i_12, .int i_13, .int i_14, .int i_15, .ref a_19, .int i_16, .ref a_20])), (a_6, .inl (cy 1, 5, .inl (mm_g [i_17, i_18, i_19, i_20, i_21]))), (a_7, .inl (cy 1, 30, .inl (mm_g [i_22, i_23, i_24, i_25, i_26, i_27, i_28, i_29, i_30, i_31, i_32, i_33, i_34, i_35, i_36, i_37, i_38, i_39, i_40, i_41, i_42, i_43, i_44, i_45, i_46, i_47, i_48, i_49, i_50, i_51])))] H) (hD : va_D A [(a_0, .inr (12, [.int 0, .ref a_1, .ref a_2, .ref a_3, .ref a_4, .ref a_5, .int i_1, .int i_2, .int i_3, .int i_4, .int i_5, .long j_0, .int i_6, .int i_7, .int i_8, .int i_9, .ref a_6, .ref a_7, .ref a_8, .ref a_9, .ref a_10, .ref a_11, .ref a_12, .ref a_13, .ref a_14, .ref a_15, .ref a_16, .ref a_17, .ref a_18, .int i_10, .int i_11, .int i_12, .int i_13, .int i_14, .int i_15, .ref a_19, .int i_16, .ref a_20])), (a_6, .inl (cy 1, 5, .inl (mm_g [i_17, i_18, i_19, i_20, i_21]))), (a_7, .inl (cy 1, 30, .inl (mm_g [i_22, i_23, i_24, i_25, i_26, i_27, i_28, i_29, i_30, i_31, i_32, i_33, i_34, i_35, i_36, i_37, i_38, i_39, i_40, i_41, i_42, i_43, i_44, i_45, i_46, i_47, i_48, i_49, i_50, i_51])))]) hS
  refine lv_aload_n hx hb dX12_anew_5 rfl (lv_at hl 0 rfl) ?_
  refine mm_finir (va_runV (As := []) (rest := []) ⟨hx, hb, hml, hown, hts⟩ (M120_X12_isBook l G cy H.size a_0 0 a_1 a_2 a_3 a_4 a_5 i_1 i_2 i_3 i_4 i_5 j_0 i_6 i_7 i_8 i_9 a_6 a_7 a_8 a_9 a_10 a_11 a_12 a_13 a_14 a_15 a_16 a_17 a_18 i_10 i_11 i_12 i_13 i_14 i_15 a_19 i_16 a_20 i_17 i_18 i_19 i_20 i_21 h0 h1 h2 h3 h4) (cwV 0 hts (mm_gV mm_w653 mm_w654 mm_w655 mm_w5 mm_w656) rfl rfl rfl hd_X12_isBook ⟨by rw [hRf]; exact Nat.le_of_ble_eq_true rfl, by rw [hRl]; exact Nat.le_of_ble_eq_true rfl⟩) (mm_preV hK hZ hS hA hP hD [0, 1] rfl rfl 0 rfl rfl rfl) rfl rfl hl.1 rfl (lv_room (Nat.le_of_ble_eq_true rfl)) dX12_anew_6 ⟨by rw [hRc]; exact Nat.le_of_ble_eq_true rfl, by rw [hRs]; exact Nat.le_of_ble_eq_true rfl⟩) hP hD hS hA [0, 1] rfl (fun _ => rfl) ?_
  clear hP hD hS
  clear H locs
  intro v1 _u H locs hw hP hD hS
  rcases hw with rfl | rfl
  · refine lv_if_ne (tgt := 15) hx hb dX12_anew_9 (by decide) (fun c2 => ?_) (fun c2 => ?_)
    · have q3 := mm_neL (lo := 1) (mm_ne c2) mm_k0 mm_k0 (by decide) (by decide)
      exact mm_no q3 (by decide)
    · refine lv_bipush (v := (-2)) hx hb dX12_anew_12 (by decide) ?_
      have w4 : (i_27 : Int32).toInt ≤ (i_27 : Int32).toInt := (Int.le_refl _)
      subst hAe
      rw [hQ]
      exact W.iret (v := (-2)) hx hb hr (fun t ht hW => ⟨⟨(-2), i_27, rfl, ⟨h10, w4, (mm_wk mm_km2 (by decide))⟩, by rw [ht]; exact hP, hK.warm hW, hD⟩, hS.F ht⟩) hS.2.2 dX12_anew_14
  · refine lv_if_ne (tgt := 15) hx hb dX12_anew_9 (by decide) (fun c5 => ?_) (fun c5 => ?_)
    · refine lv_aload_n hx hb dX12_anew_15 rfl (lv_at hl 0 rfl) ?_
      refine va_get (D := G) (ci := 12) (v := .ref a_7) (C := RX12) (T := TX12) (N := 38) hx hb hts (mm_i inlX12) hown hK.1 hP 0 rfl rfl 17 (by decide) (mm_h hts mm_w149) (fun _ h9 => h9) rfl dX12_anew_16 ?_
      refine lv_iconst (v := 5) hx hb dX12_anew_19 (by decide) ?_
      refine va_iald hx hb hK.1 hP 2 1 rfl rfl (mm_in mm_k5 (by decide)) dX12_anew_20 ?_
      rw [show (mm_g [i_22, i_23, i_24, i_25, i_26, i_27, i_28, i_29, i_30, i_31, i_32, i_33, i_34, i_35, i_36, i_37, i_38, i_39, i_40, i_41, i_42, i_43, i_44, i_45, i_46, i_47, i_48, i_49, i_50, i_51]) (5 : Int32).toNatClampNeg = i_27 from mm_ge 5 (by decide) rfl]
      refine lv_istore_n (lv' := [(1, .int i_27), (0, .ref a_0)]) hx hb dX12_anew_21 rfl hl (by decide) rfl ?_
      clear hl
      clear ls
      intro ls hl
      refine lv_aload_n hx hb dX12_anew_22 rfl (lv_at hl 1 rfl) ?_
      refine va_get (D := G) (ci := 12) (v := .ref a_7) (C := RX12) (T := TX12) (N := 38) hx hb hts (mm_i inlX12) hown hK.1 hP 0 rfl rfl 17 (by decide) (mm_h hts mm_w149) (fun _ h9 => h9) rfl dX12_anew_23 ?_
      refine lv_iconst (v := 5) hx hb dX12_anew_26 (by decide) ?_
      refine lv_iconst (v := 0) hx hb dX12_anew_27 (by decide) ?_
      refine va_iast hx hb hK.1 hP hD hS 2 1 rfl rfl (mm_in mm_k5 (by decide)) dX12_anew_28 ?_
      clear hP hD hS
      clear H locs
      rw [show upd (mm_g [i_22, i_23, i_24, i_25, i_26, i_27, i_28, i_29, i_30, i_31, i_32, i_33, i_34, i_35, i_36, i_37, i_38, i_39, i_40, i_41, i_42, i_43, i_44, i_45, i_46, i_47, i_48, i_49, i_50, i_51]) (5 : Int32).toNatClampNeg 0 = (mm_g [i_22, i_23, i_24, i_25, i_26, 0, i_28, i_29, i_30, i_31, i_32, i_33, i_34, i_35, i_36, i_37, i_38, i_39, i_40, i_41, i_42, i_43, i_44, i_45, i_46, i_47, i_48, i_49, i_50, i_51]) from mm_gs2 5 30 (by decide) rfl rfl rfl]
      intro H locs (hP : va_P G vwCl [(a_0, .inr (12, [.int 0, .ref a_1, .ref a_2, .ref a_3, .ref a_4, .ref a_5, .int i_1, .int i_2, .int i_3, .int i_4, .int i_5, .long j_0, .int i_6, .int i_7, .int i_8, .int i_9, .ref a_6, .ref a_7, .ref a_8, .ref a_9, .ref a_10, .ref a_11, .ref a_12, .ref a_13, .ref a_14, .ref a_15, .ref a_16, .ref a_17, .ref a_18, .int i_10, .int i_11, .int i_12, .int i_13, .int i_14, .int i_15, .ref a_19, .int i_16, .ref a_20])), (a_6, .inl (cy 1, 5, .inl (mm_g [i_17, i_18, i_19, i_20, i_21]))), (a_7, .inl (cy 1, 30, .inl (mm_g [i_22, i_23, i_24, i_25, i_26, 0, i_28, i_29, i_30, i_31, i_32, i_33, i_34, i_35, i_36, i_37, i_38, i_39, i_40, i_41, i_42, i_43, i_44, i_45, i_46, i_47, i_48, i_49, i_50, i_51])))] H) (hD : va_D A [(a_0, .inr (12, [.int 0, .ref a_1, .ref a_2, .ref a_3, .ref a_4, .ref a_5, .int i_1, .int i_2, .int i_3, .int i_4, .int i_5, .long j_0, .int i_6, .int i_7, .int i_8, .int i_9, .ref a_6, .ref a_7, .ref a_8, .ref a_9, .ref a_10, .ref a_11, .ref a_12, .ref a_13, .ref a_14, .ref a_15, .ref a_16, .ref a_17, .ref a_18, .int i_10, .int i_11, .int i_12, .int i_13, .int i_14, .int i_15, .ref a_19, .int i_16, .ref a_20])), (a_6, .inl (cy 1, 5, .inl (mm_g [i_17, i_18, i_19, i_20, i_21]))), (a_7, .inl (cy 1, 30, .inl (mm_g [i_22, i_23, i_24, i_25, i_26, 0, i_28, i_29, i_30, i_31, i_32, i_33, i_34, i_35, i_36, i_37, i_38, i_39, i_40, i_41, i_42, i_43, i_44, i_45, i_46, i_47, i_48, i_49, i_50, i_51])))]) hS
      refine lv_iload_n hx hb dX12_anew_29 rfl (lv_at hl 0 rfl) ?_
      have w6 : (0 : Int32).toInt ≤ (i_27 : Int32).toInt := (mm_leC mm_k0 h10 (by decide))
      subst hAe
      rw [hQ]
      exact W.iret (v := i_27) hx hb hr (fun t ht hW => ⟨⟨i_27, 0, rfl, ⟨(mm_wk mm_k0 (by decide)), w6, (mm_wk h10 (by decide))⟩, by rw [ht]; exact hP, hK.warm hW, hD⟩, hS.F ht⟩) hS.2.2 dX12_anew_30
    · exact mm_eqN c5.symm mm_k0 mm_k1 (by decide)

set_option maxHeartbeats 4000000 in
set_option maxRecDepth 100000 in
theorem M305_X12_isSeed (l : Launch) (G : va_G) (cy : Nat → ClassId) (sz : Nat) (i_0 : Int32)   : mm_CI l yX12_isSeed (mm_ws yX12_isSeed cX12_isSeed 1 (some .boolean)) ({ frames := 1, cells := 0, slots := 0, locals := 25 } : Room) G cy sz [] [.int i_0] (fun u : Unit => []) (fun (r : Int32) (u : Unit) => ((0 = r) ∨ (1 = r ∧ mm_rg i_0 0 2000000000))) 0 0 := by
  refine mm_begin (lv := [(0, .int i_0)]) (by decide) (Nat.le_of_ble_eq_true rfl) rfl ?_
  intro p e s m below meth c A ls R args Q H locs hRe hQ hAe hx hb hr hlocks hml hown hnm hts hsz hA hS hP hK hD hZ hl
  have hRf : R.frames = 1 := by rw [hRe]
  have hRl : R.locals = 25 := by rw [hRe]
  have hRc : R.cells = 0 := by rw [hRe]
  have hRs : R.slots = 0 := by rw [hRe]
  refine lv_iload_n hx hb dX12_isSeed_0 rfl (lv_at hl 0 rfl) ?_
  obtain ⟨v1, ev1⟩ : ∃ y : Int64, y = i_0.toInt64 := ⟨_, rfl⟩
  refine lv_i2l hx hb dX12_isSeed_1 ev1.symm ?_
  have rv1 : mm_rl v1 (-2147483648) 2147483647 := mm_i2l ev1 (mm_top i_0)
  refine lv_lconst (v := 0) hx hb dX12_isSeed_2 (by decide) ?_
  refine lv_ldc2 (v := 2000000000) hx hb hown (mm_h hts mm_w1611) dX12_isSeed_3 ?_
  refine mm_finir (va_runS (As := [.long v1, .long 0, .long 2000000000]) (rest := []) ⟨hx, hb, hml, hown, hts⟩ (M7_X12_in l G cy H.size v1 2000000000 ) (va_cwS 3 hts (mm_gS mm_w191 mm_w192 mm_w5 mm_w193) rfl rfl rfl hs_X12_in ⟨by rw [hRf]; exact Nat.le_of_ble_eq_true rfl, by rw [hRl]; exact Nat.le_of_ble_eq_true rfl⟩) (mm_preS hK hZ hS hA hP hD [] rfl rfl) rfl rfl hl.1 rfl (lv_room (Nat.le_of_ble_eq_true rfl)) dX12_isSeed_6 ⟨by rw [hRc]; exact Nat.le_of_ble_eq_true rfl, by rw [hRs]; exact Nat.le_of_ble_eq_true rfl⟩) hP hD hS hA [] rfl (fun _ => rfl) ?_
  clear hP hD hS
  clear H locs
  intro v2 _u H locs hw hP hD hS
  rcases hw with ⟨rfl, w3⟩ | ⟨rfl, w4, w5, w6, w7⟩
  · subst hAe
    rw [hQ]
    exact W.zret (v := 0) hx hb hr rfl (fun t ht hW => ⟨⟨0, (), rfl, (Or.inl rfl), by rw [ht]; exact hP, hK.warm hW, hD⟩, hS.F ht⟩) hS.2.2 dX12_isSeed_9
  · have q8 := mm_meetl (lo := 0) (hi := 2147483647) w4 rv1 (by decide)
    have q9 := mm_meet (lo := 0) (hi := 2147483647) (mm_l2x ev1 q8) (mm_top i_0) (by decide)
    have q10 := mm_leLl w6 q8 mm_kl2000000000
    have q11 := mm_meet (lo := 0) (hi := 2000000000) (mm_l2x ev1 q10) q9 (by decide)
    subst hAe
    rw [hQ]
    exact W.zret (v := 1) hx hb hr rfl (fun t ht hW => ⟨⟨1, (), rfl, (Or.inr ⟨rfl, q11⟩), by rw [ht]; exact hP, hK.warm hW, hD⟩, hS.F ht⟩) hS.2.2 dX12_isSeed_9

set_option maxHeartbeats 4000000 in
set_option maxRecDepth 100000 in
theorem M306_X12_drawnOf (l : Launch) (G : va_G) (cy : Nat → ClassId) (sz : Nat) (a_0 : Nat) (j_0 : Int64) (i_0 : Int32) (i_1 : Int32) (a_1 : Nat) (a_2 : Nat) (a_3 : Nat) (a_4 : Nat) (a_5 : Nat) (i_2 : Int32) (i_3 : Int32) (i_4 : Int32) (i_5 : Int32) (i_6 : Int32) (j_1 : Int64) (i_7 : Int32) (i_8 : Int32) (i_9 : Int32) (i_10 : Int32) (a_6 : Nat) (a_7 : Nat) (a_8 : Nat) (a_9 : Nat) (a_10 : Nat) (a_11 : Nat) (a_12 : Nat) (a_13 : Nat) (a_14 : Nat) (a_15 : Nat) (a_16 : Nat) (a_17 : Nat) (a_18 : Nat) (i_11 : Int32) (i_12 : Int32) (i_13 : Int32) (i_14 : Int32) (i_15 : Int32) (i_16 : Int32) (a_19 : Nat) (i_17 : Int32) (a_20 : Nat) (i_18 : Int32) (i_19 : Int32) (i_20 : Int32) (i_21 : Int32) (i_22 : Int32) (i_23 : Int32) (i_24 : Int32) (i_25 : Int32) (i_26 : Int32) (i_27 : Int32) (i_28 : Int32) (i_29 : Int32) (i_30 : Int32) (i_31 : Int32) (i_32 : Int32) (i_33 : Int32) (i_34 : Int32) (i_35 : Int32) (i_36 : Int32) (i_37 : Int32) (i_38 : Int32) (i_39 : Int32) (i_40 : Int32) (i_41 : Int32) (i_42 : Int32) (i_43 : Int32) (i_44 : Int32) (i_45 : Int32) (i_46 : Int32) (i_47 : Int32) (h0 : mm_rl j_0 0 2000000000) (h1 : mm_rg i_0 0 7) (h2 : mm_rg i_18 0 10) (h3 : mm_rg i_19 0 99) (h4 : mm_rg i_20 0 9) (h5 : mm_rg i_21 0 3) (h6 : mm_rg i_22 0 6) (h7 : mm_rg i_23 0 30) (h8 : mm_rg i_24 0 10) (h9 : mm_rg i_25 0 99) (h10 : mm_rg i_26 0 9) (h11 : mm_rg i_27 0 3) (h12 : mm_rg i_28 0 6) (h13 : mm_rg i_29 0 30) (h14 : mm_rg i_30 0 10) (h15 : mm_rg i_31 0 99) (h16 : mm_rg i_32 0 9) (h17 : mm_rg i_33 0 3) (h18 : mm_rg i_34 0 6) (h19 : mm_rg i_35 0 30) (h20 : mm_rg i_36 0 10) (h21 : mm_rg i_37 0 99) (h22 : mm_rg i_38 0 9) (h23 : mm_rg i_39 0 3) (h24 : mm_rg i_40 0 6) (h25 : mm_rg i_41 0 30) (h26 : mm_rg i_42 0 10) (h27 : mm_rg i_43 0 99) (h28 : mm_rg i_44 0 9) (h29 : mm_rg i_45 0 3) (h30 : mm_rg i_46 0 6) (h31 : mm_rg i_47 0 30)  : mm_CI l yX12_drawnOf (mm_ws yX12_drawnOf cX12_drawnOf 8 (some .int)) ({ frames := 0, cells := 0, slots := 0, locals := 0 } : Room) G cy sz [(a_0, .inr (12, [.int i_1, .ref a_1, .ref a_2, .ref a_3, .ref a_4, .ref a_5, .int i_2, .int i_3, .int i_4, .int i_5, .int i_6, .long j_1, .int i_7, .int i_8, .int i_9, .int i_10, .ref a_6, .ref a_7, .ref a_8, .ref a_9, .ref a_10, .ref a_11, .ref a_12, .ref a_13, .ref a_14, .ref a_15, .ref a_16, .ref a_17, .ref a_18, .int i_11, .int i_12, .int i_13, .int i_14, .int i_15, .int i_16, .ref a_19, .int i_17, .ref a_20])), (a_7, .inl (cy 1, 30, .inl (mm_g [i_18, i_19, i_20, i_21, i_22, i_23, i_24, i_25, i_26, i_27, i_28, i_29, i_30, i_31, i_32, i_33, i_34, i_35, i_36, i_37, i_38, i_39, i_40, i_41, i_42, i_43, i_44, i_45, i_46, i_47])))] [.ref a_0, .long j_0, .int i_0] (fun u : Unit => [(a_0, .inr (12, [.int i_1, .ref a_1, .ref a_2, .ref a_3, .ref a_4, .ref a_5, .int i_2, .int i_3, .int i_4, .int i_5, .int i_6, .long j_1, .int i_7, .int i_8, .int i_9, .int i_10, .ref a_6, .ref a_7, .ref a_8, .ref a_9, .ref a_10, .ref a_11, .ref a_12, .ref a_13, .ref a_14, .ref a_15, .ref a_16, .ref a_17, .ref a_18, .int i_11, .int i_12, .int i_13, .int i_14, .int i_15, .int i_16, .ref a_19, .int i_17, .ref a_20])), (a_7, .inl (cy 1, 30, .inl (mm_g [i_18, i_19, i_20, i_21, i_22, i_23, i_24, i_25, i_26, i_27, i_28, i_29, i_30, i_31, i_32, i_33, i_34, i_35, i_36, i_37, i_38, i_39, i_40, i_41, i_42, i_43, i_44, i_45, i_46, i_47])))]) (fun (r : Int32) (u : Unit) => mm_rg r 0 7) 0 0 := by
  refine mm_begin (lv := [(0, .ref a_0), (1, .long j_0), (3, .int i_0)]) (by decide) (Nat.le_of_ble_eq_true rfl) rfl ?_
  intro p e s m below meth c A ls R args Q H locs hRe hQ hAe hx hb hr hlocks hml hown hnm hts hsz hA hS hP hK hD hZ hl
  have hRf : R.frames = 0 := by rw [hRe]
  have hRl : R.locals = 0 := by rw [hRe]
  have hRc : R.cells = 0 := by rw [hRe]
  have hRs : R.slots = 0 := by rw [hRe]
  refine lv_lload_n hx hb dX12_drawnOf_0 rfl (lv_at hl 1 rfl) ?_
  refine lv_lstore (lv' := [(4, .long j_0), (0, .ref a_0), (1, .long j_0), (3, .int i_0)]) hx hb dX12_drawnOf_1 hl (by decide) rfl ?_
  clear hl
  clear ls
  intro ls hl
  refine lv_iconst (v := 0) hx hb dX12_drawnOf_3 (by decide) ?_
  refine lv_istore (lv' := [(6, .int 0), (4, .long j_0), (0, .ref a_0), (1, .long j_0), (3, .int i_0)]) hx hb dX12_drawnOf_4 hl (by decide) rfl ?_
  clear hl
  clear ls
  intro ls hl
  refine lv_iconst (v := 0) hx hb dX12_drawnOf_6 (by decide) ?_
  refine lv_istore (lv' := [(7, .int 0), (6, .int 0), (4, .long j_0), (0, .ref a_0), (1, .long j_0), (3, .int i_0)]) hx hb dX12_drawnOf_7 hl (by decide) rfl ?_
  clear hl
  clear ls
  intro ls hl
  have L9_174 : ∀ (n : Nat) (x9_7_171 : Int32) (x9_6_172 : Int32) (x9_4_173 : Int64), mm_rg x9_7_171 0 7 → mm_rg x9_6_172 0 7 → mm_rl x9_4_173 0 2147483647 → (x9_6_172 : Int32).toInt ≤ (x9_7_171 : Int32).toInt → (7 - x9_7_171.toInt).toNat < n → ∀ (H : Heap) (locs : List Loc), va_P G vwCl [(a_0, .inr (12, [.int i_1, .ref a_1, .ref a_2, .ref a_3, .ref a_4, .ref a_5, .int i_2, .int i_3, .int i_4, .int i_5, .int i_6, .long j_1, .int i_7, .int i_8, .int i_9, .int i_10, .ref a_6, .ref a_7, .ref a_8, .ref a_9, .ref a_10, .ref a_11, .ref a_12, .ref a_13, .ref a_14, .ref a_15, .ref a_16, .ref a_17, .ref a_18, .int i_11, .int i_12, .int i_13, .int i_14, .int i_15, .int i_16, .ref a_19, .int i_17, .ref a_20])), (a_7, .inl (cy 1, 30, .inl (mm_g [i_18, i_19, i_20, i_21, i_22, i_23, i_24, i_25, i_26, i_27, i_28, i_29, i_30, i_31, i_32, i_33, i_34, i_35, i_36, i_37, i_38, i_39, i_40, i_41, i_42, i_43, i_44, i_45, i_46, i_47])))] H → va_D A [(a_0, .inr (12, [.int i_1, .ref a_1, .ref a_2, .ref a_3, .ref a_4, .ref a_5, .int i_2, .int i_3, .int i_4, .int i_5, .int i_6, .long j_1, .int i_7, .int i_8, .int i_9, .int i_10, .ref a_6, .ref a_7, .ref a_8, .ref a_9, .ref a_10, .ref a_11, .ref a_12, .ref a_13, .ref a_14, .ref a_15, .ref a_16, .ref a_17, .ref a_18, .int i_11, .int i_12, .int i_13, .int i_14, .int i_15, .int i_16, .ref a_19, .int i_17, .ref a_20])), (a_7, .inl (cy 1, 30, .inl (mm_g [i_18, i_19, i_20, i_21, i_22, i_23, i_24, i_25, i_26, i_27, i_28, i_29, i_30, i_31, i_32, i_33, i_34, i_35, i_36, i_37, i_38, i_39, i_40, i_41, i_42, i_43, i_44, i_45, i_46, i_47])))] → va_S A s.heap H locs → ∀ (ls : Array Slot), lv_has ls 8 [(7, .int x9_7_171), (6, .int x9_6_172), (4, .long x9_4_173), (0, .ref a_0), (1, .long j_0), (3, .int i_0)] → W p l e R s m args below meth c H locs 0 0 Q (F0 m 9 ls []) := by
    intro n
    induction n with
    | zero => intro x9_7_171 x9_6_172 x9_4_173 rx9_7_171 rx9_6_172 rx9_4_173 w174 hm; exact absurd hm (Nat.not_lt_zero _)
    | succ n ih9 =>
      intro x9_7_171 x9_6_172 x9_4_173 rx9_7_171 rx9_6_172 rx9_4_173 w174 hm9 H locs hP hD hS ls hl
      refine lv_iload hx hb dX12_drawnOf_9 (lv_at hl 0 rfl) ?_
      refine lv_iload_n hx hb dX12_drawnOf_11 rfl (lv_at hl 5 rfl) ?_
      refine lv_icmp_ge (tgt := 68) hx hb dX12_drawnOf_12 (by decide) (fun c176 => ?_) (fun c176 => ?_)
      · refine lv_iload hx hb dX12_drawnOf_68 (lv_at hl 1 rfl) ?_
        subst hAe
        rw [hQ]
        exact W.iret (v := x9_6_172) hx hb hr (fun t ht hW => ⟨⟨x9_6_172, (), rfl, rx9_6_172, by rw [ht]; exact hP, hK.warm hW, hD⟩, hS.F ht⟩) hS.2.2 dX12_drawnOf_70
      · have q177 := mm_ltL (h := 6) (mm_nle c176) rx9_7_171 h1 (by decide)
        have q178 := mm_ltR (lo := 1) (mm_nle c176) rx9_7_171 h1 (by decide)
        have q179 := mm_leL w174 rx9_6_172 q177
        refine lv_ldc2 (v := 1103515245) hx hb hown (mm_h hts mm_w1616) dX12_drawnOf_15 ?_
        refine lv_lload hx hb dX12_drawnOf_18 (lv_at hl 2 rfl) ?_
        refine lv_lmul hx hb dX12_drawnOf_20 ?_
        refine lv_topl (fun v180 ev180 => ?_)
        have rv180 : mm_rl v180 0 2369780942852698515 := mm_mull ev180 mm_kl1103515245 rx9_4_173 (by decide) (by decide)
        refine lv_ldc2 (v := 12345) hx hb hown (mm_h hts mm_w1617) dX12_drawnOf_21 ?_
        refine lv_ladd hx hb dX12_drawnOf_24 ?_
        refine lv_topl (fun v181 ev181 => ?_)
        have rv181 : mm_rl v181 12345 2369780942852710860 := mm_addl ev181 rv180 mm_kl12345 (by decide) (by decide)
        have tv181 := mm_addlEc ev181 rv180 mm_kl12345 (by decide) (k := 12345) (by decide)
        refine lv_ldc2 (v := 2147483648) hx hb hown (mm_h hts mm_w1618) dX12_drawnOf_25 ?_
        refine lv_lrem hx hb dX12_drawnOf_28 (mm_nzl mm_kl2147483648 (by decide)) ?_
        refine lv_topl (fun v182 ev182 => ?_)
        have rv182 : mm_rl v182 0 2147483647 := mm_reml ev182 rv181 mm_kl2147483648 (by decide) (by decide)
        refine lv_lstore (lv' := [(4, .long v182), (7, .int x9_7_171), (6, .int x9_6_172), (0, .ref a_0), (1, .long j_0), (3, .int i_0)]) hx hb dX12_drawnOf_29 hl (by decide) rfl ?_
        clear hl
        clear ls
        intro ls hl
        refine lv_iload hx hb dX12_drawnOf_31 (lv_at hl 2 rfl) ?_
        refine lv_lload hx hb dX12_drawnOf_33 (lv_at hl 0 rfl) ?_
        refine lv_ldc2 (v := 65536) hx hb hown (mm_h hts mm_w1619) dX12_drawnOf_35 ?_
        refine lv_ldiv hx hb dX12_drawnOf_38 (mm_nzl mm_kl65536 (by decide)) ?_
        refine lv_topl (fun v183 ev183 => ?_)
        have rv183 : mm_rl v183 0 2147483647 := mm_divl ev183 rv182 mm_kl65536 (by decide) (by decide)
        refine lv_ldc2 (v := 10) hx hb hown (mm_h hts mm_w1511) dX12_drawnOf_39 ?_
        refine lv_lrem hx hb dX12_drawnOf_42 (mm_nzl mm_kl10 (by decide)) ?_
        refine lv_topl (fun v184 ev184 => ?_)
        have rv184 : mm_rl v184 0 9 := mm_reml ev184 rv183 mm_kl10 (by decide) (by decide)
        refine lv_aload_n hx hb dX12_drawnOf_43 rfl (lv_at hl 3 rfl) ?_
        refine va_get (D := G) (ci := 12) (v := .ref a_7) (C := RX12) (T := TX12) (N := 38) hx hb hts (mm_i inlX12) hown hK.1 hP 0 rfl rfl 17 (by decide) (mm_h hts mm_w149) (fun _ h9 => h9) rfl dX12_drawnOf_44 ?_
        refine lv_iconst (v := 0) hx hb dX12_drawnOf_47 (by decide) ?_
        refine va_iald hx hb hK.1 hP 1 1 rfl rfl (mm_in mm_k0 (by decide)) dX12_drawnOf_48 ?_
        rw [show (mm_g [i_18, i_19, i_20, i_21, i_22, i_23, i_24, i_25, i_26, i_27, i_28, i_29, i_30, i_31, i_32, i_33, i_34, i_35, i_36, i_37, i_38, i_39, i_40, i_41, i_42, i_43, i_44, i_45, i_46, i_47]) (0 : Int32).toNatClampNeg = i_18 from mm_ge 0 (by decide) rfl]
        obtain ⟨v185, ev185⟩ : ∃ y : Int64, y = i_18.toInt64 := ⟨_, rfl⟩
        refine lv_i2l hx hb dX12_drawnOf_49 ev185.symm ?_
        have rv185 : mm_rl v185 0 10 := mm_i2l ev185 h2
        refine W.lcmp hx hb dX12_drawnOf_50 ?_
        refine lv_topi (fun v186 ev186 => ?_)
        refine lv_if_ge (tgt := 58) hx hb dX12_drawnOf_51 (by decide) (fun c187 => ?_) (fun c187 => ?_)
        · have q188 := mm_leLl (mm_cmp_ge ev186 c187) rv185 rv184
          have q189 := mm_meet (lo := 0) (hi := 9) (mm_l2x ev185 q188) h2 (by decide)
          refine lv_iconst (v := 0) hx hb dX12_drawnOf_58 (by decide) ?_
          refine lv_iadd hx hb dX12_drawnOf_59 ?_
          refine lv_topi (fun v190 ev190 => ?_)
          have rv190 : mm_rg v190 0 6 := mm_add ev190 q179 mm_k0 (by decide) (by decide)
          have tv190 := mm_addEc ev190 q179 mm_k0 (by decide) (k := 0) (by decide)
          refine lv_istore (lv' := [(6, .int v190), (4, .long v182), (7, .int x9_7_171), (0, .ref a_0), (1, .long j_0), (3, .int i_0)]) hx hb dX12_drawnOf_60 hl (by decide) rfl ?_
          clear hl
          clear ls
          intro ls hl
          obtain ⟨v191, ev191⟩ : ∃ y : Int32, y = x9_7_171 + 1 := ⟨_, rfl⟩
          refine lv_iinc (v := v191) (lv' := [(7, .int v191), (6, .int v190), (4, .long v182), (0, .ref a_0), (1, .long j_0), (3, .int i_0)]) hx hb dX12_drawnOf_62 hl (k := 2) rfl (by rw [ev191]; rfl) (by decide) rfl ?_
          clear hl
          clear ls
          intro ls hl
          have rv191 : mm_rg v191 1 7 := mm_add ev191 q177 mm_k1 (by decide) (by decide)
          have tv191 := mm_addEc ev191 q177 mm_k1 (by decide) (k := 1) (by decide)
          refine lv_goto (tgt := 9) hx hb dX12_drawnOf_65 (by decide) ?_
          exact ih9 v191 v190 v182 (mm_wk rv191 (by decide)) (mm_wk rv190 (by decide)) rv182 (by have := tv190; have := tv191; have := w174; omega) (mm_mu hm9 tv191 (by decide) (rv191).2 (by decide)) H locs hP hD hS ls (lv_sub hl [0, 1, 2, 3, 4, 5] rfl)
        · have q192 := mm_ltRl (lo := 1) (mm_cmp_lt ev186 (mm_n_ge c187)) rv184 rv185 (by decide)
          have q193 := mm_meet (lo := 1) (hi := 10) (mm_l2x ev185 q192) h2 (by decide)
          refine lv_iconst (v := 1) hx hb dX12_drawnOf_54 (by decide) ?_
          refine lv_goto (tgt := 59) hx hb dX12_drawnOf_55 (by decide) ?_
          refine lv_iadd hx hb dX12_drawnOf_59 ?_
          refine lv_topi (fun v194 ev194 => ?_)
          have rv194 : mm_rg v194 1 7 := mm_add ev194 q179 mm_k1 (by decide) (by decide)
          have tv194 := mm_addEc ev194 q179 mm_k1 (by decide) (k := 1) (by decide)
          refine lv_istore (lv' := [(6, .int v194), (4, .long v182), (7, .int x9_7_171), (0, .ref a_0), (1, .long j_0), (3, .int i_0)]) hx hb dX12_drawnOf_60 hl (by decide) rfl ?_
          clear hl
          clear ls
          intro ls hl
          obtain ⟨v195, ev195⟩ : ∃ y : Int32, y = x9_7_171 + 1 := ⟨_, rfl⟩
          refine lv_iinc (v := v195) (lv' := [(7, .int v195), (6, .int v194), (4, .long v182), (0, .ref a_0), (1, .long j_0), (3, .int i_0)]) hx hb dX12_drawnOf_62 hl (k := 2) rfl (by rw [ev195]; rfl) (by decide) rfl ?_
          clear hl
          clear ls
          intro ls hl
          have rv195 : mm_rg v195 1 7 := mm_add ev195 q177 mm_k1 (by decide) (by decide)
          have tv195 := mm_addEc ev195 q177 mm_k1 (by decide) (k := 1) (by decide)
          refine lv_goto (tgt := 9) hx hb dX12_drawnOf_65 (by decide) ?_
          exact ih9 v195 v194 v182 (mm_wk rv195 (by decide)) (mm_wk rv194 (by decide)) rv182 (by have := tv194; have := tv195; have := w174; omega) (mm_mu hm9 tv195 (by decide) (rv195).2 (by decide)) H locs hP hD hS ls (lv_sub hl [0, 1, 2, 3, 4, 5] rfl)
  exact L9_174 _ 0 0 j_0 (mm_wk mm_k0 (by decide)) (mm_wk mm_k0 (by decide)) (mm_wkl h0 (by decide)) (Int.le_refl _) (Nat.lt_succ_self _) H locs hP hD hS ls (lv_sub hl [0, 1, 2, 3, 4, 5] rfl)

