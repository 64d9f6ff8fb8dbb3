theorem dX12_again_0 : decode cX12_again 0 = .ok (.aload_n 0, 1) := by decide +kernel
theorem dX12_again_1 : decode cX12_again 1 = .ok (.iconst 0, 1) := by decide +kernel
theorem dX12_again_2 : decode cX12_again 2 = .ok (.putfield 77, 3) := by decide +kernel
theorem dX12_again_5 : decode cX12_again 5 = .ok (.aload_n 0, 1) := by decide +kernel
theorem dX12_again_6 : decode cX12_again 6 = .ok (.iload_n 1, 1) := by decide +kernel
theorem dX12_again_7 : decode cX12_again 7 = .ok (.iload_n 2, 1) := by decide +kernel
theorem dX12_again_8 : decode cX12_again 8 = .ok (.invokevirtual 323, 3) := by decide +kernel
theorem dX12_again_11 : decode cX12_again 11 = .ok (.ifCond .eq 12, 3) := by decide +kernel
theorem dX12_again_14 : decode cX12_again 14 = .ok (.aload_n 0, 1) := by decide +kernel
theorem dX12_again_15 : decode cX12_again 15 = .ok (.iload_n 3, 1) := by decide +kernel
theorem dX12_again_16 : decode cX12_again 16 = .ok (.i2l, 1) := by decide +kernel
theorem dX12_again_17 : decode cX12_again 17 = .ok (.invokevirtual 317, 3) := by decide +kernel
theorem dX12_again_20 : decode cX12_again 20 = .ok (.ifCond .ne 6, 3) := by decide +kernel
theorem dX12_again_23 : decode cX12_again 23 = .ok (.bipush (-2), 2) := by decide +kernel
theorem dX12_again_25 : decode cX12_again 25 = .ok (.ireturn, 1) := by decide +kernel
theorem dX12_again_26 : decode cX12_again 26 = .ok (.aload_n 0, 1) := by decide +kernel
theorem dX12_again_27 : decode cX12_again 27 = .ok (.invokevirtual 326, 3) := by decide +kernel
theorem dX12_again_30 : decode cX12_again 30 = .ok (.aload_n 0, 1) := by decide +kernel
theorem dX12_again_31 : decode cX12_again 31 = .ok (.iload_n 1, 1) := by decide +kernel
theorem dX12_again_32 : decode cX12_again 32 = .ok (.iload_n 2, 1) := by decide +kernel
theorem dX12_again_33 : decode cX12_again 33 = .ok (.iload_n 3, 1) := by decide +kernel
theorem dX12_again_34 : decode cX12_again 34 = .ok (.invokevirtual 338, 3) := by decide +kernel
theorem dX12_again_37 : decode cX12_again 37 = .ok (.istore 4, 2) := by decide +kernel
theorem dX12_again_39 : decode cX12_again 39 = .ok (.iconst 1, 1) := by decide +kernel
theorem dX12_again_40 : decode cX12_again 40 = .ok (.istore 5, 2) := by decide +kernel
theorem dX12_again_42 : decode cX12_again 42 = .ok (.aload_n 0, 1) := by decide +kernel
theorem dX12_again_43 : decode cX12_again 43 = .ok (.iload_n 1, 1) := by decide +kernel
theorem dX12_again_44 : decode cX12_again 44 = .ok (.iload_n 2, 1) := by decide +kernel
theorem dX12_again_45 : decode cX12_again 45 = .ok (.iload 5, 2) := by decide +kernel
theorem dX12_again_47 : decode cX12_again 47 = .ok (.iadd, 1) := by decide +kernel
theorem dX12_again_48 : decode cX12_again 48 = .ok (.iload_n 3, 1) := by decide +kernel
theorem dX12_again_49 : decode cX12_again 49 = .ok (.invokevirtual 338, 3) := by decide +kernel
theorem dX12_again_52 : decode cX12_again 52 = .ok (.iload 4, 2) := by decide +kernel
theorem dX12_again_54 : decode cX12_again 54 = .ok (.if_icmp .eq 9, 3) := by decide +kernel
theorem dX12_again_57 : decode cX12_again 57 = .ok (.iinc 5 1, 3) := by decide +kernel
theorem dX12_again_60 : decode cX12_again 60 = .ok (.goto (-18), 3) := by decide +kernel
theorem dX12_again_63 : decode cX12_again 63 = .ok (.iload_n 2, 1) := by decide +kernel
theorem dX12_again_64 : decode cX12_again 64 = .ok (.iload 5, 2) := by decide +kernel
theorem dX12_again_66 : decode cX12_again 66 = .ok (.iadd, 1) := by decide +kernel
theorem dX12_again_67 : decode cX12_again 67 = .ok (.ireturn, 1) := by decide +kernel
theorem dX12_first_0 : decode cX12_first 0 = .ok (.aload_n 0, 1) := by decide +kernel
theorem dX12_first_1 : decode cX12_first 1 = .ok (.iconst 0, 1) := by decide +kernel
theorem dX12_first_2 : decode cX12_first 2 = .ok (.putfield 77, 3) := by decide +kernel
theorem dX12_first_5 : decode cX12_first 5 = .ok (.aload_n 0, 1) := by decide +kernel
theorem dX12_first_6 : decode cX12_first 6 = .ok (.iload_n 1, 1) := by decide +kernel
theorem dX12_first_7 : decode cX12_first 7 = .ok (.iload_n 2, 1) := by decide +kernel
theorem dX12_first_8 : decode cX12_first 8 = .ok (.invokevirtual 323, 3) := by decide +kernel
theorem dX12_first_11 : decode cX12_first 11 = .ok (.ifCond .eq 21, 3) := by decide +kernel
theorem dX12_first_14 : decode cX12_first 14 = .ok (.aload_n 0, 1) := by decide +kernel
theorem dX12_first_15 : decode cX12_first 15 = .ok (.iload_n 3, 1) := by decide +kernel
theorem dX12_first_16 : decode cX12_first 16 = .ok (.i2l, 1) := by decide +kernel
theorem dX12_first_17 : decode cX12_first 17 = .ok (.invokevirtual 317, 3) := by decide +kernel
theorem dX12_first_20 : decode cX12_first 20 = .ok (.ifCond .eq 12, 3) := by decide +kernel
theorem dX12_first_23 : decode cX12_first 23 = .ok (.iload 4, 2) := by decide +kernel
theorem dX12_first_25 : decode cX12_first 25 = .ok (.i2l, 1) := by decide +kernel
theorem dX12_first_26 : decode cX12_first 26 = .ok (.invokestatic 341, 3) := by decide +kernel
theorem dX12_first_29 : decode cX12_first 29 = .ok (.ifCond .ne 6, 3) := by decide +kernel
theorem dX12_first_32 : decode cX12_first 32 = .ok (.bipush (-2), 2) := by decide +kernel
theorem dX12_first_34 : decode cX12_first 34 = .ok (.ireturn, 1) := by decide +kernel
theorem dX12_first_35 : decode cX12_first 35 = .ok (.aload_n 0, 1) := by decide +kernel
theorem dX12_first_36 : decode cX12_first 36 = .ok (.invokevirtual 326, 3) := by decide +kernel
theorem dX12_first_39 : decode cX12_first 39 = .ok (.iconst 0, 1) := by decide +kernel
theorem dX12_first_40 : decode cX12_first 40 = .ok (.istore 5, 2) := by decide +kernel
theorem dX12_first_42 : decode cX12_first 42 = .ok (.iload 5, 2) := by decide +kernel
theorem dX12_first_44 : decode cX12_first 44 = .ok (.aload_n 0, 1) := by decide +kernel
theorem dX12_first_45 : decode cX12_first 45 = .ok (.getfield 62, 3) := by decide +kernel
theorem dX12_first_48 : decode cX12_first 48 = .ok (.iload_n 1, 1) := by decide +kernel
theorem dX12_first_49 : decode cX12_first 49 = .ok (.iaload, 1) := by decide +kernel
theorem dX12_first_50 : decode cX12_first 50 = .ok (.if_icmp .ge 29, 3) := by decide +kernel
theorem dX12_first_53 : decode cX12_first 53 = .ok (.aload_n 0, 1) := by decide +kernel
theorem dX12_first_54 : decode cX12_first 54 = .ok (.iload_n 1, 1) := by decide +kernel
theorem dX12_first_55 : decode cX12_first 55 = .ok (.iload_n 2, 1) := by decide +kernel
theorem dX12_first_56 : decode cX12_first 56 = .ok (.iload 5, 2) := by decide +kernel
theorem dX12_first_58 : decode cX12_first 58 = .ok (.iadd, 1) := by decide +kernel
theorem dX12_first_59 : decode cX12_first 59 = .ok (.iload_n 3, 1) := by decide +kernel
theorem dX12_first_60 : decode cX12_first 60 = .ok (.invokevirtual 338, 3) := by decide +kernel
theorem dX12_first_63 : decode cX12_first 63 = .ok (.iload 4, 2) := by decide +kernel
theorem dX12_first_65 : decode cX12_first 65 = .ok (.if_icmp .ne 8, 3) := by decide +kernel
theorem dX12_first_68 : decode cX12_first 68 = .ok (.iload_n 2, 1) := by decide +kernel
theorem dX12_first_69 : decode cX12_first 69 = .ok (.iload 5, 2) := by decide +kernel
theorem dX12_first_71 : decode cX12_first 71 = .ok (.iadd, 1) := by decide +kernel
theorem dX12_first_72 : decode cX12_first 72 = .ok (.ireturn, 1) := by decide +kernel
theorem dX12_first_73 : decode cX12_first 73 = .ok (.iinc 5 1, 3) := by decide +kernel
theorem dX12_first_76 : decode cX12_first 76 = .ok (.goto (-34), 3) := by decide +kernel
theorem dX12_first_79 : decode cX12_first 79 = .ok (.iconst (-1), 1) := by decide +kernel
theorem dX12_first_80 : decode cX12_first 80 = .ok (.ireturn, 1) := by decide +kernel
theorem dX12_isStock_0 : decode cX12_isStock 0 = .ok (.lload_n 0, 1) := by decide +kernel
theorem dX12_isStock_1 : decode cX12_isStock 1 = .ok (.lconst 0, 1) := by decide +kernel
theorem dX12_isStock_2 : decode cX12_isStock 2 = .ok (.ldc2_w 271, 3) := by decide +kernel
theorem dX12_isStock_5 : decode cX12_isStock 5 = .ok (.invokestatic 82, 3) := by decide +kernel
theorem dX12_isStock_8 : decode cX12_isStock 8 = .ok (.ireturn, 1) := by decide +kernel
theorem dX12_mostOf_0 : decode cX12_mostOf 0 = .ok (.aload_n 0, 1) := by decide +kernel
theorem dX12_mostOf_1 : decode cX12_mostOf 1 = .ok (.invokevirtual 326, 3) := by decide +kernel
theorem dX12_mostOf_4 : decode cX12_mostOf 4 = .ok (.iload_n 2, 1) := by decide +kernel
theorem dX12_mostOf_5 : decode cX12_mostOf 5 = .ok (.istore 6, 2) := by decide +kernel
theorem dX12_mostOf_7 : decode cX12_mostOf 7 = .ok (.iload 5, 2) := by decide +kernel
theorem dX12_mostOf_9 : decode cX12_mostOf 9 = .ok (.aload_n 0, 1) := by decide +kernel
theorem dX12_mostOf_10 : decode cX12_mostOf 10 = .ok (.iload_n 1, 1) := by decide +kernel
theorem dX12_mostOf_11 : decode cX12_mostOf 11 = .ok (.iload_n 2, 1) := by decide +kernel
theorem dX12_mostOf_12 : decode cX12_mostOf 12 = .ok (.iload 4, 2) := by decide +kernel
theorem dX12_mostOf_14 : decode cX12_mostOf 14 = .ok (.invokevirtual 338, 3) := by decide +kernel
theorem dX12_mostOf_17 : decode cX12_mostOf 17 = .ok (.imul, 1) := by decide +kernel
theorem dX12_mostOf_18 : decode cX12_mostOf 18 = .ok (.istore 7, 2) := by decide +kernel
theorem dX12_mostOf_20 : decode cX12_mostOf 20 = .ok (.iconst 1, 1) := by decide +kernel
theorem dX12_mostOf_21 : decode cX12_mostOf 21 = .ok (.istore 8, 2) := by decide +kernel
theorem dX12_mostOf_23 : decode cX12_mostOf 23 = .ok (.iload 8, 2) := by decide +kernel
theorem dX12_mostOf_25 : decode cX12_mostOf 25 = .ok (.iload_n 3, 1) := by decide +kernel
theorem dX12_mostOf_26 : decode cX12_mostOf 26 = .ok (.if_icmp .ge 56, 3) := by decide +kernel
theorem dX12_mostOf_29 : decode cX12_mostOf 29 = .ok (.iload 8, 2) := by decide +kernel
theorem dX12_mostOf_31 : decode cX12_mostOf 31 = .ok (.aload_n 0, 1) := by decide +kernel
theorem dX12_mostOf_32 : decode cX12_mostOf 32 = .ok (.getfield 62, 3) := by decide +kernel
theorem dX12_mostOf_35 : decode cX12_mostOf 35 = .ok (.iload_n 1, 1) := by decide +kernel
theorem dX12_mostOf_36 : decode cX12_mostOf 36 = .ok (.iaload, 1) := by decide +kernel
theorem dX12_mostOf_37 : decode cX12_mostOf 37 = .ok (.if_icmp .ge 45, 3) := by decide +kernel
theorem dX12_mostOf_40 : decode cX12_mostOf 40 = .ok (.iload 5, 2) := by decide +kernel
theorem dX12_mostOf_42 : decode cX12_mostOf 42 = .ok (.aload_n 0, 1) := by decide +kernel
theorem dX12_mostOf_43 : decode cX12_mostOf 43 = .ok (.iload_n 1, 1) := by decide +kernel
theorem dX12_mostOf_44 : decode cX12_mostOf 44 = .ok (.iload_n 2, 1) := by decide +kernel
theorem dX12_mostOf_45 : decode cX12_mostOf 45 = .ok (.iload 8, 2) := by decide +kernel
theorem dX12_mostOf_47 : decode cX12_mostOf 47 = .ok (.iadd, 1) := by decide +kernel
theorem dX12_mostOf_48 : decode cX12_mostOf 48 = .ok (.iload 4, 2) := by decide +kernel
theorem dX12_mostOf_50 : decode cX12_mostOf 50 = .ok (.invokevirtual 338, 3) := by decide +kernel
theorem dX12_mostOf_53 : decode cX12_mostOf 53 = .ok (.imul, 1) := by decide +kernel
theorem dX12_mostOf_54 : decode cX12_mostOf 54 = .ok (.istore 9, 2) := by decide +kernel
theorem dX12_mostOf_56 : decode cX12_mostOf 56 = .ok (.iload 9, 2) := by decide +kernel
theorem dX12_mostOf_58 : decode cX12_mostOf 58 = .ok (.iload 7, 2) := by decide +kernel
theorem dX12_mostOf_60 : decode cX12_mostOf 60 = .ok (.if_icmp .gt 6, 3) := by decide +kernel
theorem dX12_mostOf_63 : decode cX12_mostOf 63 = .ok (.goto 13, 3) := by decide +kernel
theorem dX12_mostOf_66 : decode cX12_mostOf 66 = .ok (.iload_n 2, 1) := by decide +kernel
theorem dX12_mostOf_67 : decode cX12_mostOf 67 = .ok (.iload 8, 2) := by decide +kernel
theorem dX12_mostOf_69 : decode cX12_mostOf 69 = .ok (.iadd, 1) := by decide +kernel
theorem dX12_mostOf_70 : decode cX12_mostOf 70 = .ok (.istore 6, 2) := by decide +kernel
theorem dX12_mostOf_72 : decode cX12_mostOf 72 = .ok (.iload 9, 2) := by decide +kernel
theorem dX12_mostOf_74 : decode cX12_mostOf 74 = .ok (.istore 7, 2) := by decide +kernel
theorem dX12_mostOf_76 : decode cX12_mostOf 76 = .ok (.iinc 8 1, 3) := by decide +kernel
theorem dX12_mostOf_79 : decode cX12_mostOf 79 = .ok (.goto (-56), 3) := by decide +kernel
theorem dX12_mostOf_82 : decode cX12_mostOf 82 = .ok (.iload 6, 2) := by decide +kernel
theorem dX12_mostOf_84 : decode cX12_mostOf 84 = .ok (.ireturn, 1) := by decide +kernel
theorem hs_X12_isStock : yX12_isStock.cls ≠ "java/lang/invoke/MethodHandle" ∧ yX12_isStock.cls ≠ "java/lang/invoke/VarHandle" ∧ (parseMethodDescriptor yX12_isStock.desc).map (fun d => d.parameters.length) = some 1 := by decide +kernel
set_option maxHeartbeats 4000000 in
set_option maxRecDepth 100000 in
theorem M145_X12_again (l : Launch) (G : va_G) (cy : Nat → ClassId) (sz : Nat) (a_0 : Nat) (i_0 : Int32) (i_1 : Int32) (i_2 : Int32) (i_3 : Int32) (a_1 : Nat) (a_2 : Nat) (a_3 : Nat) (a_4 : Nat) (a_5 : Nat) (i_4 : Int32) (i_5 : Int32) (i_6 : Int32) (i_7 : Int32) (i_8 : Int32) (j_0 : Int64) (i_9 : Int32) (i_10 : Int32) (i_11 : Int32) (i_12 : Int32) (a_6 : Nat) (a_7 : Nat) (a_8 : Nat) (a_9 : Nat) (a_10 : Nat) (a_11 : Nat) (a_12 : Nat) (a_13 : Nat) (a_14 : Nat) (a_15 : Nat) (a_16 : Nat) (a_17 : Nat) (a_18 : Nat) (i_13 : Int32) (i_14 : Int32) (i_15 : Int32) (i_16 : Int32) (i_17 : Int32) (i_18 : Int32) (a_19 : Nat) (i_19 : Int32) (a_20 : Nat) (i_20 : Int32) (i_21 : Int32) (i_22 : Int32) (i_23 : Int32) (i_24 : Int32) (i_25 : Int32) (i_26 : Int32) (i_27 : Int32) (i_28 : Int32) (i_29 : Int32) (i_30 : Int32) (i_31 : Int32) (i_32 : Int32) (i_33 : Int32) (i_34 : Int32) (i_35 : Int32) (i_36 : Int32) (i_37 : Int32) (i_38 : Int32) (i_39 : Int32) (i_40 : Int32) (i_41 : Int32) (i_42 : Int32) (i_43 : Int32) (i_44 : Int32) (i_45 : Int32) (i_46 : Int32) (i_47 : Int32) (i_48 : Int32) (i_49 : Int32) (i_50 : Int32) (i_51 : Int32) (i_52 : Int32) (i_53 : Int32) (i_54 : Int32) (f_0 : Nat → Int32) (f_1 : Nat → Int32) (f_2 : Nat → Int32) (f_3 : Nat → Int32) (f_4 : Nat → Int32) (f_5 : Nat → Int32) (f_6 : Nat → Int32) (f_7 : Nat → Int32) (f_8 : Nat → Int32) (f_9 : Nat → Int32) (h0 : mm_rg i_13 0 8) (h1 : mm_rg i_20 0 601) (h2 : mm_rg i_21 0 601) (h3 : mm_rg i_22 0 601) (h4 : mm_rg i_23 0 601) (h5 : mm_rg i_24 0 601) (h6 : mm_rg i_25 0 10) (h7 : mm_rg i_26 0 99) (h8 : mm_rg i_27 0 9) (h9 : mm_rg i_28 0 3) (h10 : mm_rg i_29 0 6) (h11 : mm_rg i_30 0 30) (h12 : mm_rg i_31 0 10) (h13 : mm_rg i_32 0 99) (h14 : mm_rg i_33 0 9) (h15 : mm_rg i_34 0 3) (h16 : mm_rg i_35 0 6) (h17 : mm_rg i_36 0 30) (h18 : mm_rg i_37 0 10) (h19 : mm_rg i_38 0 99) (h20 : mm_rg i_39 0 9) (h21 : mm_rg i_40 0 3) (h22 : mm_rg i_41 0 6) (h23 : mm_rg i_42 0 30) (h24 : mm_rg i_43 0 10) (h25 : mm_rg i_44 0 99) (h26 : mm_rg i_45 0 9) (h27 : mm_rg i_46 0 3) (h28 : mm_rg i_47 0 6) (h29 : mm_rg i_48 0 30) (h30 : mm_rg i_49 0 10) (h31 : mm_rg i_50 0 99) (h32 : mm_rg i_51 0 9) (h33 : mm_rg i_52 0 3) (h34 : mm_rg i_53 0 6) (h35 : mm_rg i_54 0 30) (h36 : mm_ar f_0 0 99) (h37 : mm_ar f_1 0 7) (h38 : mm_ar f_2 0 9) (h39 : mm_ar f_3 0 8) (h40 : mm_ar f_4 0 9) (h41 : mm_ar f_5 (-1) 99) (h42 : mm_ar f_6 0 9) (h43 : mm_ar f_7 0 210) (h44 : mm_ar f_8 0 210) (h45 : mm_ar f_9 0 9) (h46 : mm_rls f_1 f_2 0 i_27 i_28) (h47 : mm_txs f_3 f_4 0 i_27 i_29) (h48 : mm_acs f_5 0 i_27 i_28 i_30) (h49 : mm_tl i_20 i_28 i_29) (h50 : mm_rls f_1 f_2 1 i_33 i_34) (h51 : mm_txs f_3 f_4 1 i_33 i_35) (h52 : mm_acs f_5 1 i_33 i_34 i_36) (h53 : mm_tl i_21 i_34 i_35) (h54 : mm_rls f_1 f_2 2 i_39 i_40) (h55 : mm_txs f_3 f_4 2 i_39 i_41) (h56 : mm_acs f_5 2 i_39 i_40 i_42) (h57 : mm_tl i_22 i_40 i_41) (h58 : mm_rls f_1 f_2 3 i_45 i_46) (h59 : mm_txs f_3 f_4 3 i_45 i_47) (h60 : mm_acs f_5 3 i_45 i_46 i_48) (h61 : mm_tl i_23 i_46 i_47)  : mm_CI l yX12_again (mm_ws yX12_again cX12_again 6 (some .int)) ({ frames := 14, cells := 0, slots := 0, locals := 300 } : Room) G cy sz [(a_0, .inr (12, [.int i_3, .ref a_1, .ref a_2, .ref a_3, .ref a_4, .ref a_5, .int i_4, .int i_5, .int i_6, .int i_7, .int i_8, .long j_0, .int i_9, .int i_10, .int i_11, .int i_12, .ref a_6, .ref a_7, .ref a_8, .ref a_9, .ref a_10, .ref a_11, .ref a_12, .ref a_13, .ref a_14, .ref a_15, .ref a_16, .ref a_17, .ref a_18, .int i_13, .int i_14, .int i_15, .int i_16, .int i_17, .int i_18, .ref a_19, .int i_19, .ref a_20])), (a_6, .inl (cy 1, 5, .inl (mm_g [i_20, i_21, i_22, i_23, i_24]))), (a_7, .inl (cy 1, 30, .inl (mm_g [i_25, i_26, i_27, i_28, i_29, i_30, i_31, i_32, i_33, i_34, i_35, i_36, i_37, i_38, i_39, i_40, i_41, i_42, i_43, i_44, i_45, i_46, i_47, i_48, i_49, i_50, i_51, i_52, i_53, i_54]))), (a_8, .inl (cy 1, 90, .inl f_0)), (a_9, .inl (cy 1, 15, .inl f_1)), (a_10, .inl (cy 1, 1050, .inl f_2)), (a_11, .inl (cy 1, 30, .inl f_3)), (a_12, .inl (cy 1, 240, .inl f_4)), (a_13, .inl (cy 1, 450, .inl f_5)), (a_15, .inl (cy 1, 7200, .inl f_6)), (a_16, .inl (cy 1, 3, .inl f_7)), (a_17, .inl (cy 1, 3, .inl f_8)), (a_18, .inl (cy 1, 8, .inl f_9))] [.ref a_0, .int i_0, .int i_1, .int i_2] (fun u : Int32 × Int32 × Int32 × (Nat → Int32) × (Nat → Int32) × (Nat → Int32) × (Nat → Int32) => [(a_0, .inr (12, [.int 0, .ref a_1, .ref a_2, .ref a_3, .ref a_4, .ref a_5, .int i_4, .int i_5, .int i_6, .int i_7, .int i_8, .long j_0, .int i_9, .int i_10, .int i_11, .int i_12, .ref a_6, .ref a_7, .ref a_8, .ref a_9, .ref a_10, .ref a_11, .ref a_12, .ref a_13, .ref a_14, .ref a_15, .ref a_16, .ref a_17, .ref a_18, .int u.1, .int u.2.1, .int u.2.2.1, .int i_16, .int i_17, .int i_18, .ref a_19, .int i_19, .ref a_20])), (a_6, .inl (cy 1, 5, .inl (mm_g [i_20, i_21, i_22, i_23, i_24]))), (a_7, .inl (cy 1, 30, .inl (mm_g [i_25, i_26, i_27, i_28, i_29, i_30, i_31, i_32, i_33, i_34, i_35, i_36, i_37, i_38, i_39, i_40, i_41, i_42, i_43, i_44, i_45, i_46, i_47, i_48, i_49, i_50, i_51, i_52, i_53, i_54]))), (a_8, .inl (cy 1, 90, .inl f_0)), (a_9, .inl (cy 1, 15, .inl f_1)), (a_10, .inl (cy 1, 1050, .inl f_2)), (a_11, .inl (cy 1, 30, .inl f_3)), (a_12, .inl (cy 1, 240, .inl f_4)), (a_13, .inl (cy 1, 450, .inl f_5)), (a_15, .inl (cy 1, 7200, .inl u.2.2.2.1)), (a_16, .inl (cy 1, 3, .inl u.2.2.2.2.1)), (a_17, .inl (cy 1, 3, .inl u.2.2.2.2.2.1)), (a_18, .inl (cy 1, 8, .inl u.2.2.2.2.2.2))]) (fun (r : Int32) (u : Int32 × Int32 × Int32 × (Nat → Int32) × (Nat → Int32) × (Nat → Int32) × (Nat → Int32)) => mm_rg u.1 0 8 ∧ mm_ar u.2.2.2.1 0 9 ∧ mm_ar u.2.2.2.2.1 0 210 ∧ mm_ar u.2.2.2.2.2.1 0 210 ∧ mm_ar u.2.2.2.2.2.2 0 9 ∧ mm_rg r (-2) 1000000210) 0 0 := by
  refine mm_begin (lv := [(0, .ref a_0), (1, .int i_0), (2, .int i_1), (3, .int i_2)]) (by decide) (Nat.le_of_ble_eq_true rfl) rfl ?_
  intro p e s m below meth c A ls R args Q H locs hRe hQ hAe hx hb hr hlocks hml hown hnm hts hsz hA hS hP hK hD hZ hl
  have hRf : R.frames = 14 := by rw [hRe]
  have hRl : R.locals = 300 := by rw [hRe]
  have hRc : R.cells = 0 := by rw [hRe]
  have hRs : R.slots = 0 := by rw [hRe]
  refine lv_aload_n hx hb dX12_again_0 rfl (lv_at hl 0 rfl) ?_
  refine lv_iconst (v := 0) hx hb dX12_again_1 (by decide) ?_
  refine va_put (D := G) (ci := 12) (v := .int 0) (ty := tyX12 0) (C := RX12) (T := TX12) (N := 38) hx hb hts (mm_i inlX12) tyX12 tyX12_ok nmX12 hown hK.1 hP hD hS 0 rfl rfl 0 (by decide) (mm_h hts mm_w177) (fun _ h9 => h9) rfl (tyX12_ok 0 (by decide)) rfl rfl (Nat.le_of_ble_eq_true rfl) dX12_again_2 ?_
  clear hP hD hS
  clear H locs
  intro H locs (hP : va_P G vwCl [(a_0, .inr (12, [.int 0, .ref a_1, .ref a_2, .ref a_3, .ref a_4, .ref a_5, .int i_4, .int i_5, .int i_6, .int i_7, .int i_8, .long j_0, .int i_9, .int i_10, .int i_11, .int i_12, .ref a_6, .ref a_7, .ref a_8, .ref a_9, .ref a_10, .ref a_11, .ref a_12, .ref a_13, .ref a_14, .ref a_15, .ref a_16, .ref a_17, .ref a_18, .int i_13, .int i_14, .int i_15, .int i_16, .int i_17, .int i_18, .ref a_19, .int i_19, .ref a_20])), (a_6, .inl (cy 1, 5, .inl (mm_g [i_20, i_21, i_22, i_23, i_24]))), (a_7, .inl (cy 1, 30, .inl (mm_g [i_25, i_26, i_27, i_28, i_29, i_30, i_31, i_32, i_33, i_34, i_35, i_36, i_37, i_38, i_39, i_40, i_41, i_42, i_43, i_44, i_45, i_46, i_47, i_48, i_49, i_50, i_51, i_52, i_53, i_54]))), (a_8, .inl (cy 1, 90, .inl f_0)), (a_9, .inl (cy 1, 15, .inl f_1)), (a_10, .inl (cy 1, 1050, .inl f_2)), (a_11, .inl (cy 1, 30, .inl f_3)), (a_12, .inl (cy 1, 240, .inl f_4)), (a_13, .inl (cy 1, 450, .inl f_5)), (a_15, .inl (cy 1, 7200, .inl f_6)), (a_16, .inl (cy 1, 3, .inl f_7)), (a_17, .inl (cy 1, 3, .inl f_8)), (a_18, .inl (cy 1, 8, .inl f_9))] H) (hD : va_D A [(a_0, .inr (12, [.int 0, .ref a_1, .ref a_2, .ref a_3, .ref a_4, .ref a_5, .int i_4, .int i_5, .int i_6, .int i_7, .int i_8, .long j_0, .int i_9, .int i_10, .int i_11, .int i_12, .ref a_6, .ref a_7, .ref a_8, .ref a_9, .ref a_10, .ref a_11, .ref a_12, .ref a_13, .ref a_14, .ref a_15, .ref a_16, .ref a_17, .ref a_18, .int i_13, .int i_14, .int i_15, .int i_16, .int i_17, .int i_18, .ref a_19, .int i_19, .ref a_20])), (a_6, .inl (cy 1, 5, .inl (mm_g [i_20, i_21, i_22, i_23, i_24]))), (a_7, .inl (cy 1, 30, .inl (mm_g [i_25, i_26, i_27, i_28, i_29, i_30, i_31, i_32, i_33, i_34, i_35, i_36, i_37, i_38, i_39, i_40, i_41, i_42, i_43, i_44, i_45, i_46, i_47, i_48, i_49, i_50, i_51, i_52, i_53, i_54]))), (a_8, .inl (cy 1, 90, .inl f_0)), (a_9, .inl (cy 1, 15, .inl f_1)), (a_10, .inl (cy 1, 1050, .inl f_2)), (a_11, .inl (cy 1, 30, .inl f_3)), (a_12, .inl (cy 1, 240, .inl f_4)), (a_13, .inl (cy 1, 450, .inl f_5)), (a_15, .inl (cy 1, 7200, .inl f_6)), (a_16, .inl (cy 1, 3, .inl f_7)), (a_17, .inl (cy 1, 3, .inl f_8)), (a_18, .inl (cy 1, 8, .inl f_9))]) hS
  refine lv_aload_n hx hb dX12_again_5 rfl (lv_at hl 0 rfl) ?_
  refine lv_iload_n hx hb dX12_again_6 rfl (lv_at hl 1 rfl) ?_
  refine lv_iload_n hx hb dX12_again_7 rfl (lv_at hl 2 rfl) ?_
  refine mm_finir (va_runV (As := [.int i_0, .int i_1]) (rest := []) ⟨hx, hb, hml, hown, hts⟩ (M104_X12_isThen l G cy H.size a_0 i_0 i_1 0 a_1 a_2 a_3 a_4 a_5 i_4 i_5 i_6 i_7 i_8 j_0 i_9 i_10 i_11 i_12 a_6 a_7 a_8 a_9 a_10 a_11 a_12 a_13 a_14 a_15 a_16 a_17 a_18 i_13 i_14 i_15 i_16 i_17 i_18 a_19 i_19 a_20 i_25 i_26 i_27 i_28 i_29 i_30 i_31 i_32 i_33 i_34 i_35 i_36 i_37 i_38 i_39 i_40 i_41 i_42 i_43 i_44 i_45 i_46 i_47 i_48 i_49 i_50 i_51 i_52 i_53 i_54 h6 h7 h8 h9 h10 h11 h12 h13 h14 h15 h16 h17 h18 h19 h20 h21 h22 h23 h24 h25 h26 h27 h28 h29 h30 h31 h32 h33 h34 h35) (cwV 2 hts (mm_gV mm_w678 mm_w679 mm_w680 mm_w5 mm_w681) rfl rfl rfl hd_X12_isThen ⟨by rw [hRf]; exact Nat.le_of_ble_eq_true rfl, by rw [hRl]; exact Nat.le_of_ble_eq_true rfl⟩) (mm_preV hK hZ hS hA hP hD [0, 2] rfl rfl 0 rfl rfl rfl) rfl rfl hl.1 rfl (lv_room (Nat.le_of_ble_eq_true rfl)) dX12_again_8 ⟨by rw [hRc]; exact Nat.le_of_ble_eq_true rfl, by rw [hRs]; exact Nat.le_of_ble_eq_true rfl⟩) hP hD hS hA [0, 2] rfl (fun _ => rfl) ?_
  clear hP hD hS
  clear H locs
  intro v1 _u H locs hw hP hD hS
  rcases hw with rfl | ⟨rfl, w2, w3, w4⟩
  · refine lv_if_eq (tgt := 23) hx hb dX12_again_11 (by decide) (fun c5 => ?_) (fun c5 => ?_)
    · refine lv_bipush (v := (-2)) hx hb dX12_again_23 (by decide) ?_
      subst hAe
      rw [hQ]
      exact W.iret (v := (-2)) hx hb hr (fun t ht hW => ⟨⟨(-2), (i_13, i_14, i_15, f_6, f_7, f_8, f_9), rfl, ⟨h0, h42, h43, h44, h45, (mm_wk mm_km2 (by decide))⟩, by rw [ht]; exact hP, hK.warm hW, hD⟩, hS.F ht⟩) hS.2.2 dX12_again_25
    · have q6 := mm_neL (lo := 1) (mm_ne c5) mm_k0 mm_k0 (by decide) (by decide)
      exact mm_no q6 (by decide)
  · have q7 := mm_ltR (lo := 1) w4 w2 h9 (by decide)
    have q8 : mm_rg i_20 1 601 := mm_tl_3 h49 q7 h1 (by decide)
    refine lv_if_eq (tgt := 23) hx hb dX12_again_11 (by decide) (fun c9 => ?_) (fun c9 => ?_)
    · exact mm_eqN c9.symm mm_k0 mm_k1 (by decide)
    · refine lv_aload_n hx hb dX12_again_14 rfl (lv_at hl 0 rfl) ?_
      refine lv_iload_n hx hb dX12_again_15 rfl (lv_at hl 3 rfl) ?_
      obtain ⟨v10, ev10⟩ : ∃ y : Int64, y = i_2.toInt64 := ⟨_, rfl⟩
      refine lv_i2l hx hb dX12_again_16 ev10.symm ?_
      have rv10 : mm_rl v10 (-2147483648) 2147483647 := mm_i2l ev10 (mm_top i_2)
      refine mm_finir (va_runV (As := [.long v10]) (rest := []) ⟨hx, hb, hml, hown, hts⟩ (M96_X12_isText l G cy H.size a_0 v10 0 a_1 a_2 a_3 a_4 a_5 i_4 i_5 i_6 i_7 i_8 j_0 i_9 i_10 i_11 i_12 a_6 a_7 a_8 a_9 a_10 a_11 a_12 a_13 a_14 a_15 a_16 a_17 a_18 i_13 i_14 i_15 i_16 i_17 i_18 a_19 i_19 a_20 i_25 i_26 i_27 i_28 i_29 i_30 i_31 i_32 i_33 i_34 i_35 i_36 i_37 i_38 i_39 i_40 i_41 i_42 i_43 i_44 i_45 i_46 i_47 i_48 i_49 i_50 i_51 i_52 i_53 i_54 h6 h7 h8 (mm_wk q7 (by decide)) h10 h11 h12 h13 h14 h15 h16 h17 h18 h19 h20 h21 h22 h23 h24 h25 h26 h27 h28 h29 h30 h31 h32 h33 h34 h35) (cwV 1 hts (mm_gV mm_w613 mm_w614 mm_w615 mm_w5 mm_w616) rfl rfl rfl hd_X12_isText ⟨by rw [hRf]; exact Nat.le_of_ble_eq_true rfl, by rw [hRl]; exact Nat.le_of_ble_eq_true rfl⟩) (mm_preV hK hZ hS hA hP hD [0, 2] rfl rfl 0 rfl rfl rfl) rfl rfl hl.1 rfl (lv_room (Nat.le_of_ble_eq_true rfl)) dX12_again_17 ⟨by rw [hRc]; exact Nat.le_of_ble_eq_true rfl, by rw [hRs]; exact Nat.le_of_ble_eq_true rfl⟩) hP hD hS hA [0, 2] rfl (fun _ => rfl) ?_
      clear hP hD hS
      clear H locs
      intro v11 _u H locs hw hP hD hS
      rcases hw with rfl | ⟨rfl, w12, w13⟩
      · refine lv_if_ne (tgt := 26) hx hb dX12_again_20 (by decide) (fun c14 => ?_) (fun c14 => ?_)
        · have q15 := mm_neL (lo := 1) (mm_ne c14) mm_k0 mm_k0 (by decide) (by decide)
          exact mm_no q15 (by decide)
        · refine lv_bipush (v := (-2)) hx hb dX12_again_23 (by decide) ?_
          subst hAe
          rw [hQ]
          exact W.iret (v := (-2)) hx hb hr (fun t ht hW => ⟨⟨(-2), (i_13, i_14, i_15, f_6, f_7, f_8, f_9), rfl, ⟨h0, h42, h43, h44, h45, (mm_wk mm_km2 (by decide))⟩, by rw [ht]; exact hP, hK.warm hW, hD⟩, hS.F ht⟩) hS.2.2 dX12_again_25
      · have q16 := mm_meet (lo := 0) (hi := 5) (mm_l2x ev10 w12) (mm_top i_2) (by decide)
        have w17 := mm_tx_lt w13 (mm_i2lE ev10)
        have q18 := mm_ltR (lo := 1) w17 q16 h10 (by decide)
        refine lv_if_ne (tgt := 26) hx hb dX12_again_20 (by decide) (fun c19 => ?_) (fun c19 => ?_)
        · refine lv_aload_n hx hb dX12_again_26 rfl (lv_at hl 0 rfl) ?_
          refine mm_finv (va_runV (As := []) (rest := []) ⟨hx, hb, hml, hown, hts⟩ (M125_X12_lays l G cy H.size a_0 0 a_1 a_2 a_3 a_4 a_5 i_4 i_5 i_6 i_7 i_8 j_0 i_9 i_10 i_11 i_12 a_6 a_7 a_8 a_9 a_10 a_11 a_12 a_13 a_14 a_15 a_16 a_17 a_18 i_13 i_14 i_15 i_16 i_17 i_18 a_19 i_19 a_20 i_20 i_21 i_22 i_23 i_24 i_25 i_26 i_27 i_28 i_29 i_30 i_31 i_32 i_33 i_34 i_35 i_36 i_37 i_38 i_39 i_40 i_41 i_42 i_43 i_44 i_45 i_46 i_47 i_48 i_49 i_50 i_51 i_52 i_53 i_54 f_1 f_2 f_5 f_6 f_7 f_8 (mm_wk q8 (by decide)) h2 h3 h4 h5 h6 h7 h8 (mm_wk q7 (by decide)) (mm_wk q18 (by decide)) h11 h12 h13 h14 h15 h16 h17 h18 h19 h20 h21 h22 h23 h24 h25 h26 h27 h28 h29 h30 h31 h32 h33 h34 h35 h37 h38 h41 h42 h43 h44 h46 h48 h49 h50 h52 h53 h54 h56 h57 h58 h60 h61) (cwV 0 hts (mm_gV mm_w686 mm_w687 mm_w688 mm_w5 mm_w689) rfl rfl rfl hd_X12_lays ⟨by rw [hRf]; exact Nat.le_of_ble_eq_true rfl, by rw [hRl]; exact Nat.le_of_ble_eq_true rfl⟩) (mm_preV hK hZ hS hA hP hD [0, 1, 2, 4, 5, 8, 9, 10, 11] rfl rfl 0 rfl rfl rfl) rfl rfl hl.1 rfl (lv_room (Nat.le_of_ble_eq_true rfl)) dX12_again_27 ⟨by rw [hRc]; exact Nat.le_of_ble_eq_true rfl, by rw [hRs]; exact Nat.le_of_ble_eq_true rfl⟩) hP hD hS hA (fun u : (Nat → Int32) × (Nat → Int32) × (Nat → Int32) => [(a_0, .inr (12, [.int 0, .ref a_1, .ref a_2, .ref a_3, .ref a_4, .ref a_5, .int i_4, .int i_5, .int i_6, .int i_7, .int i_8, .long j_0, .int i_9, .int i_10, .int i_11, .int i_12, .ref a_6, .ref a_7, .ref a_8, .ref a_9, .ref a_10, .ref a_11, .ref a_12, .ref a_13, .ref a_14, .ref a_15, .ref a_16, .ref a_17, .ref a_18, .int i_13, .int i_14, .int i_15, .int i_16, .int i_17, .int i_18, .ref a_19, .int i_19, .ref a_20])), (a_6, .inl (cy 1, 5, .inl (mm_g [i_20, i_21, i_22, i_23, i_24]))), (a_7, .inl (cy 1, 30, .inl (mm_g [i_25, i_26, i_27, i_28, i_29, i_30, i_31, i_32, i_33, i_34, i_35, i_36, i_37, i_38, i_39, i_40, i_41, i_42, i_43, i_44, i_45, i_46, i_47, i_48, i_49, i_50, i_51, i_52, i_53, i_54]))), (a_8, .inl (cy 1, 90, .inl f_0)), (a_9, .inl (cy 1, 15, .inl f_1)), (a_10, .inl (cy 1, 1050, .inl f_2)), (a_11, .inl (cy 1, 30, .inl f_3)), (a_12, .inl (cy 1, 240, .inl f_4)), (a_13, .inl (cy 1, 450, .inl f_5)), (a_15, .inl (cy 1, 7200, .inl u.1)), (a_16, .inl (cy 1, 3, .inl u.2.1)), (a_17, .inl (cy 1, 3, .inl u.2.2)), (a_18, .inl (cy 1, 8, .inl f_9))]) [0, 1, 2, 4, 5, 8, 9, 10, 11] [3, 6, 7, 12] (n := 13) (fun _ => rfl) (by decide +kernel) (by decide +kernel) rfl (fun _ => rfl) (wr := [(a_8, .inl (cy 1, 90, .inl f_0)), (a_11, .inl (cy 1, 30, .inl f_3)), (a_12, .inl (cy 1, 240, .inl f_4)), (a_18, .inl (cy 1, 8, .inl f_9))]) rfl (fun _ => rfl) (fun _ => @rfl _ ([a_0, a_6, a_7, a_9, a_10, a_13, a_15, a_16, a_17] : List Nat)) ?_
          clear hP hD hS
          clear H locs
          intro u
          obtain ⟨n20, n21, n22⟩ := u
          intro H locs hw (hP : va_P G vwCl [(a_0, .inr (12, [.int 0, .ref a_1, .ref a_2, .ref a_3, .ref a_4, .ref a_5, .int i_4, .int i_5, .int i_6, .int i_7, .int i_8, .long j_0, .int i_9, .int i_10, .int i_11, .int i_12, .ref a_6, .ref a_7, .ref a_8, .ref a_9, .ref a_10, .ref a_11, .ref a_12, .ref a_13, .ref a_14, .ref a_15, .ref a_16, .ref a_17, .ref a_18, .int i_13, .int i_14, .int i_15, .int i_16, .int i_17, .int i_18, .ref a_19, .int i_19, .ref a_20])), (a_6, .inl (cy 1, 5, .inl (mm_g [i_20, i_21, i_22, i_23, i_24]))), (a_7, .inl (cy 1, 30, .inl (mm_g [i_25, i_26, i_27, i_28, i_29, i_30, i_31, i_32, i_33, i_34, i_35, i_36, i_37, i_38, i_39, i_40, i_41, i_42, i_43, i_44, i_45, i_46, i_47, i_48, i_49, i_50, i_51, i_52, i_53, i_54]))), (a_8, .inl (cy 1, 90, .inl f_0)), (a_9, .inl (cy 1, 15, .inl f_1)), (a_10, .inl (cy 1, 1050, .inl f_2)), (a_11, .inl (cy 1, 30, .inl f_3)), (a_12, .inl (cy 1, 240, .inl f_4)), (a_13, .inl (cy 1, 450, .inl f_5)), (a_15, .inl (cy 1, 7200, .inl n20)), (a_16, .inl (cy 1, 3, .inl n21)), (a_17, .inl (cy 1, 3, .inl n22)), (a_18, .inl (cy 1, 8, .inl f_9))] H) (hD : va_D A [(a_0, .inr (12, [.int 0, .ref a_1, .ref a_2, .ref a_3, .ref a_4, .ref a_5, .int i_4, .int i_5, .int i_6, .int i_7, .int i_8, .long j_0, .int i_9, .int i_10, .int i_11, .int i_12, .ref a_6, .ref a_7, .ref a_8, .ref a_9, .ref a_10, .ref a_11, .ref a_12, .ref a_13, .ref a_14, .ref a_15, .ref a_16, .ref a_17, .ref a_18, .int i_13, .int i_14, .int i_15, .int i_16, .int i_17, .int i_18, .ref a_19, .int i_19, .ref a_20])), (a_6, .inl (cy 1, 5, .inl (mm_g [i_20, i_21, i_22, i_23, i_24]))), (a_7, .inl (cy 1, 30, .inl (mm_g [i_25, i_26, i_27, i_28, i_29, i_30, i_31, i_32, i_33, i_34, i_35, i_36, i_37, i_38, i_39, i_40, i_41, i_42, i_43, i_44, i_45, i_46, i_47, i_48, i_49, i_50, i_51, i_52, i_53, i_54]))), (a_8, .inl (cy 1, 90, .inl f_0)), (a_9, .inl (cy 1, 15, .inl f_1)), (a_10, .inl (cy 1, 1050, .inl f_2)), (a_11, .inl (cy 1, 30, .inl f_3)), (a_12, .inl (cy 1, 240, .inl f_4)), (a_13, .inl (cy 1, 450, .inl f_5)), (a_15, .inl (cy 1, 7200, .inl n20)), (a_16, .inl (cy 1, 3, .inl n21)), (a_17, .inl (cy 1, 3, .inl n22)), (a_18, .inl (cy 1, 8, .inl f_9))]) hS
          obtain ⟨w23, w24, w25, w26, w27⟩ := hw
          replace w26 : mm_laid n21 n22 i_28 := w26
          replace w27 : mm_tab n20 n21 i_27 i_28 := w27
          refine lv_aload_n hx hb dX12_again_30 rfl (lv_at hl 0 rfl) ?_
          refine lv_iload_n hx hb dX12_again_31 rfl (lv_at hl 1 rfl) ?_
          refine lv_iload_n hx hb dX12_again_32 rfl (lv_at hl 2 rfl) ?_
          refine lv_iload_n hx hb dX12_again_33 rfl (lv_at hl 3 rfl) ?_
          refine mm_fini (va_runV (As := [.int i_0, .int i_1, .int i_2]) (rest := []) ⟨hx, hb, hml, hown, hts⟩ (M141_X12_reads l G cy H.size a_0 i_0 i_1 i_2 0 a_1 a_2 a_3 a_4 a_5 i_4 i_5 i_6 i_7 i_8 j_0 i_9 i_10 i_11 i_12 a_6 a_7 a_8 a_9 a_10 a_11 a_12 a_13 a_14 a_15 a_16 a_17 a_18 i_13 i_14 i_15 i_16 i_17 i_18 a_19 i_19 a_20 i_25 i_26 i_27 i_28 i_29 i_30 i_31 i_32 i_33 i_34 i_35 i_36 i_37 i_38 i_39 i_40 i_41 i_42 i_43 i_44 i_45 i_46 i_47 i_48 i_49 i_50 i_51 i_52 i_53 i_54 f_0 f_3 f_4 f_5 n20 n21 f_9 w2 (mm_wk w3 (by decide)) q16 h0 h6 h7 h8 (mm_wk q7 (by decide)) (mm_wk q18 (by decide)) h11 h12 h13 h14 h15 h16 h17 h18 h19 h20 h21 h22 h23 h24 h25 h26 h27 h28 h29 h30 h31 h32 h33 h34 h35 h36 h39 h40 h41 w23 w24 h45 h47 h48 h51 h52 h55 h56 h59 h60 (mm_f1_l w26 w4 w2 (by decide))) (cwV 3 hts (mm_gV mm_w852 mm_w853 mm_w854 mm_w5 mm_w855) rfl rfl rfl hd_X12_reads ⟨by rw [hRf]; exact Nat.le_of_ble_eq_true rfl, by rw [hRl]; exact Nat.le_of_ble_eq_true rfl⟩) (mm_preV hK hZ hS hA hP hD [0, 2, 3, 6, 7, 8, 9, 10, 12] rfl rfl 0 rfl rfl rfl) rfl rfl hl.1 rfl (lv_room (Nat.le_of_ble_eq_true rfl)) dX12_again_34 ⟨by rw [hRc]; exact Nat.le_of_ble_eq_true rfl, by rw [hRs]; exact Nat.le_of_ble_eq_true rfl⟩) hP hD hS hA (fun u : Int32 × Int32 × Int32 × (Nat → Int32) => [(a_0, .inr (12, [.int 0, .ref a_1, .ref a_2, .ref a_3, .ref a_4, .ref a_5, .int i_4, .int i_5, .int i_6, .int i_7, .int i_8, .long j_0, .int i_9, .int i_10, .int i_11, .int i_12, .ref a_6, .ref a_7, .ref a_8, .ref a_9, .ref a_10, .ref a_11, .ref a_12, .ref a_13, .ref a_14, .ref a_15, .ref a_16, .ref a_17, .ref a_18, .int u.1, .int u.2.1, .int u.2.2.1, .int i_16, .int i_17, .int i_18, .ref a_19, .int i_19, .ref a_20])), (a_6, .inl (cy 1, 5, .inl (mm_g [i_20, i_21, i_22, i_23, i_24]))), (a_7, .inl (cy 1, 30, .inl (mm_g [i_25, i_26, i_27, i_28, i_29, i_30, i_31, i_32, i_33, i_34, i_35, i_36, i_37, i_38, i_39, i_40, i_41, i_42, i_43, i_44, i_45, i_46, i_47, i_48, i_49, i_50, i_51, i_52, i_53, i_54]))), (a_8, .inl (cy 1, 90, .inl f_0)), (a_9, .inl (cy 1, 15, .inl f_1)), (a_10, .inl (cy 1, 1050, .inl f_2)), (a_11, .inl (cy 1, 30, .inl f_3)), (a_12, .inl (cy 1, 240, .inl f_4)), (a_13, .inl (cy 1, 450, .inl f_5)), (a_15, .inl (cy 1, 7200, .inl n20)), (a_16, .inl (cy 1, 3, .inl n21)), (a_17, .inl (cy 1, 3, .inl n22)), (a_18, .inl (cy 1, 8, .inl u.2.2.2))]) [0, 2, 3, 6, 7, 8, 9, 10, 12] [1, 4, 5, 11] (n := 13) (fun _ => rfl) (by decide +kernel) (by decide +kernel) rfl (fun _ => rfl) (wr := [(a_6, .inl (cy 1, 5, .inl (mm_g [i_20, i_21, i_22, i_23, i_24]))), (a_9, .inl (cy 1, 15, .inl f_1)), (a_10, .inl (cy 1, 1050, .inl f_2)), (a_17, .inl (cy 1, 3, .inl n22))]) rfl (fun _ => rfl) (fun _ => @rfl _ ([a_0, a_7, a_8, a_11, a_12, a_13, a_15, a_16, a_18] : List Nat)) ?_
          clear hP hD hS
          clear H locs
          intro v32 u
          obtain ⟨n28, n29, n30, n31⟩ := u
          intro H locs hw (hP : va_P G vwCl [(a_0, .inr (12, [.int 0, .ref a_1, .ref a_2, .ref a_3, .ref a_4, .ref a_5, .int i_4, .int i_5, .int i_6, .int i_7, .int i_8, .long j_0, .int i_9, .int i_10, .int i_11, .int i_12, .ref a_6, .ref a_7, .ref a_8, .ref a_9, .ref a_10, .ref a_11, .ref a_12, .ref a_13, .ref a_14, .ref a_15, .ref a_16, .ref a_17, .ref a_18, .int n28, .int n29, .int n30, .int i_16, .int i_17, .int i_18, .ref a_19, .int i_19, .ref a_20])), (a_6, .inl (cy 1, 5, .inl (mm_g [i_20, i_21, i_22, i_23, i_24]))), (a_7, .inl (cy 1, 30, .inl (mm_g [i_25, i_26, i_27, i_28, i_29, i_30, i_31, i_32, i_33, i_34, i_35, i_36, i_37, i_38, i_39, i_40, i_41, i_42, i_43, i_44, i_45, i_46, i_47, i_48, i_49, i_50, i_51, i_52, i_53, i_54]))), (a_8, .inl (cy 1, 90, .inl f_0)), (a_9, .inl (cy 1, 15, .inl f_1)), (a_10, .inl (cy 1, 1050, .inl f_2)), (a_11, .inl (cy 1, 30, .inl f_3)), (a_12, .inl (cy 1, 240, .inl f_4)), (a_13, .inl (cy 1, 450, .inl f_5)), (a_15, .inl (cy 1, 7200, .inl n20)), (a_16, .inl (cy 1, 3, .inl n21)), (a_17, .inl (cy 1, 3, .inl n22)), (a_18, .inl (cy 1, 8, .inl n31))] H) (hD : va_D A [(a_0, .inr (12, [.int 0, .ref a_1, .ref a_2, .ref a_3, .ref a_4, .ref a_5, .int i_4, .int i_5, .int i_6, .int i_7, .int i_8, .long j_0, .int i_9, .int i_10, .int i_11, .int i_12, .ref a_6, .ref a_7, .ref a_8, .ref a_9, .ref a_10, .ref a_11, .ref a_12, .ref a_13, .ref a_14, .ref a_15, .ref a_16, .ref a_17, .ref a_18, .int n28, .int n29, .int n30, .int i_16, .int i_17, .int i_18, .ref a_19, .int i_19, .ref a_20])), (a_6, .inl (cy 1, 5, .inl (mm_g [i_20, i_21, i_22, i_23, i_24]))), (a_7, .inl (cy 1, 30, .inl (mm_g [i_25, i_26, i_27, i_28, i_29, i_30, i_31, i_32, i_33, i_34, i_35, i_36, i_37, i_38, i_39, i_40, i_41, i_42, i_43, i_44, i_45, i_46, i_47, i_48, i_49, i_50, i_51, i_52, i_53, i_54]))), (a_8, .inl (cy 1, 90, .inl f_0)), (a_9, .inl (cy 1, 15, .inl f_1)), (a_10, .inl (cy 1, 1050, .inl f_2)), (a_11, .inl (cy 1, 30, .inl f_3)), (a_12, .inl (cy 1, 240, .inl f_4)), (a_13, .inl (cy 1, 450, .inl f_5)), (a_15, .inl (cy 1, 7200, .inl n20)), (a_16, .inl (cy 1, 3, .inl n21)), (a_17, .inl (cy 1, 3, .inl n22)), (a_18, .inl (cy 1, 8, .inl n31))]) hS
          obtain ⟨w33, w34, hw⟩ := hw
          obtain ⟨w35, w36⟩ := hw
          replace w36 : mm_rd n20 n21 f_0 f_3 f_4 f_5 i_0 i_1 i_2 i_26 i_27 i_30 v32 := w36
          refine lv_istore (lv' := [(4, .int v32), (0, .ref a_0), (1, .int i_0), (2, .int i_1), (3, .int i_2)]) hx hb dX12_again_37 hl (by decide) rfl ?_
          clear hl
          clear ls
          intro ls hl
          refine lv_iconst (v := 1) hx hb dX12_again_39 (by decide) ?_
          refine lv_istore (lv' := [(5, .int 1), (4, .int v32), (0, .ref a_0), (1, .int i_0), (2, .int i_1), (3, .int i_2)]) hx hb dX12_again_40 hl (by decide) rfl ?_
          clear hl
          clear ls
          intro ls hl
          have L42_65 : ∀ (n : Nat) (x42_5_60 : Int32) (y42_0_29_61 : Int32) (y42_0_30_62 : Int32) (y42_0_31_63 : Int32) (z42_12_64 : Nat → Int32), mm_rg x42_5_60 1 210 → mm_rg y42_0_29_61 0 8 → mm_ar z42_12_64 0 9 → mm_ng n21 i_0 x42_5_60 → (210 - x42_5_60.toInt).toNat < n → ∀ (H : Heap) (locs : List Loc), va_P G vwCl [(a_0, .inr (12, [.int 0, .ref a_1, .ref a_2, .ref a_3, .ref a_4, .ref a_5, .int i_4, .int i_5, .int i_6, .int i_7, .int i_8, .long j_0, .int i_9, .int i_10, .int i_11, .int i_12, .ref a_6, .ref a_7, .ref a_8, .ref a_9, .ref a_10, .ref a_11, .ref a_12, .ref a_13, .ref a_14, .ref a_15, .ref a_16, .ref a_17, .ref a_18, .int y42_0_29_61, .int y42_0_30_62, .int y42_0_31_63, .int i_16, .int i_17, .int i_18, .ref a_19, .int i_19, .ref a_20])), (a_6, .inl (cy 1, 5, .inl (mm_g [i_20, i_21, i_22, i_23, i_24]))), (a_7, .inl (cy 1, 30, .inl (mm_g [i_25, i_26, i_27, i_28, i_29, i_30, i_31, i_32, i_33, i_34, i_35, i_36, i_37, i_38, i_39, i_40, i_41, i_42, i_43, i_44, i_45, i_46, i_47, i_48, i_49, i_50, i_51, i_52, i_53, i_54]))), (a_8, .inl (cy 1, 90, .inl f_0)), (a_9, .inl (cy 1, 15, .inl f_1)), (a_10, .inl (cy 1, 1050, .inl f_2)), (a_11, .inl (cy 1, 30, .inl f_3)), (a_12, .inl (cy 1, 240, .inl f_4)), (a_13, .inl (cy 1, 450, .inl f_5)), (a_15, .inl (cy 1, 7200, .inl n20)), (a_16, .inl (cy 1, 3, .inl n21)), (a_17, .inl (cy 1, 3, .inl n22)), (a_18, .inl (cy 1, 8, .inl z42_12_64))] H → va_D A [(a_0, .inr (12, [.int 0, .ref a_1, .ref a_2, .ref a_3, .ref a_4, .ref a_5, .int i_4, .int i_5, .int i_6, .int i_7, .int i_8, .long j_0, .int i_9, .int i_10, .int i_11, .int i_12, .ref a_6, .ref a_7, .ref a_8, .ref a_9, .ref a_10, .ref a_11, .ref a_12, .ref a_13, .ref a_14, .ref a_15, .ref a_16, .ref a_17, .ref a_18, .int y42_0_29_61, .int y42_0_30_62, .int y42_0_31_63, .int i_16, .int i_17, .int i_18, .ref a_19, .int i_19, .ref a_20])), (a_6, .inl (cy 1, 5, .inl (mm_g [i_20, i_21, i_22, i_23, i_24]))), (a_7, .inl (cy 1, 30, .inl (mm_g [i_25, i_26, i_27, i_28, i_29, i_30, i_31, i_32, i_33, i_34, i_35, i_36, i_37, i_38, i_39, i_40, i_41, i_42, i_43, i_44, i_45, i_46, i_47, i_48, i_49, i_50, i_51, i_52, i_53, i_54]))), (a_8, .inl (cy 1, 90, .inl f_0)), (a_9, .inl (cy 1, 15, .inl f_1)), (a_10, .inl (cy 1, 1050, .inl f_2)), (a_11, .inl (cy 1, 30, .inl f_3)), (a_12, .inl (cy 1, 240, .inl f_4)), (a_13, .inl (cy 1, 450, .inl f_5)), (a_15, .inl (cy 1, 7200, .inl n20)), (a_16, .inl (cy 1, 3, .inl n21)), (a_17, .inl (cy 1, 3, .inl n22)), (a_18, .inl (cy 1, 8, .inl z42_12_64))] → va_S A s.heap H locs → ∀ (ls : Array Slot), lv_has ls 6 [(5, .int x42_5_60), (4, .int v32), (0, .ref a_0), (1, .int i_0), (2, .int i_1), (3, .int i_2)] → W p l e R s m args below meth c H locs 0 0 Q (F0 m 42 ls []) := by
            intro n
            induction n with
            | zero => intro x42_5_60 y42_0_29_61 y42_0_30_62 y42_0_31_63 z42_12_64 rx42_5_60 ry42_0_29_61 rz42_12_64 w65 hm; exact absurd hm (Nat.not_lt_zero _)
            | succ n ih42 =>
              intro x42_5_60 y42_0_29_61 y42_0_30_62 y42_0_31_63 z42_12_64 rx42_5_60 ry42_0_29_61 rz42_12_64 w65 hm42 H locs hP hD hS ls hl
              refine lv_aload_n hx hb dX12_again_42 rfl (lv_at hl 2 rfl) ?_
              refine lv_iload_n hx hb dX12_again_43 rfl (lv_at hl 3 rfl) ?_
              refine lv_iload_n hx hb dX12_again_44 rfl (lv_at hl 4 rfl) ?_
              refine lv_iload hx hb dX12_again_45 (lv_at hl 0 rfl) ?_
              refine lv_iadd hx hb dX12_again_47 ?_
              refine lv_topi (fun v67 ev67 => ?_)
              have rv67 : mm_rg v67 1 1000000210 := mm_add ev67 w3 rx42_5_60 (by decide) (by decide)
              have tv67 := mm_addE ev67 w3 rx42_5_60 (by decide)
              refine lv_iload_n hx hb dX12_again_48 rfl (lv_at hl 5 rfl) ?_
              refine mm_fini (va_runV (As := [.int i_0, .int v67, .int i_2]) (rest := []) ⟨hx, hb, hml, hown, hts⟩ (M141_X12_reads l G cy H.size a_0 i_0 v67 i_2 0 a_1 a_2 a_3 a_4 a_5 i_4 i_5 i_6 i_7 i_8 j_0 i_9 i_10 i_11 i_12 a_6 a_7 a_8 a_9 a_10 a_11 a_12 a_13 a_14 a_15 a_16 a_17 a_18 y42_0_29_61 y42_0_30_62 y42_0_31_63 i_16 i_17 i_18 a_19 i_19 a_20 i_25 i_26 i_27 i_28 i_29 i_30 i_31 i_32 i_33 i_34 i_35 i_36 i_37 i_38 i_39 i_40 i_41 i_42 i_43 i_44 i_45 i_46 i_47 i_48 i_49 i_50 i_51 i_52 i_53 i_54 f_0 f_3 f_4 f_5 n20 n21 z42_12_64 w2 (mm_wk rv67 (by decide)) q16 ry42_0_29_61 h6 h7 h8 (mm_wk q7 (by decide)) (mm_wk q18 (by decide)) h11 h12 h13 h14 h15 h16 h17 h18 h19 h20 h21 h22 h23 h24 h25 h26 h27 h28 h29 h30 h31 h32 h33 h34 h35 h36 h39 h40 h41 w23 w24 rz42_12_64 h47 h48 h51 h52 h55 h56 h59 h60 (mm_f1_l w26 w4 w2 (by decide))) (cwV 3 hts (mm_gV mm_w852 mm_w853 mm_w854 mm_w5 mm_w855) rfl rfl rfl hd_X12_reads ⟨by rw [hRf]; exact Nat.le_of_ble_eq_true rfl, by rw [hRl]; exact Nat.le_of_ble_eq_true rfl⟩) (mm_preV hK hZ hS hA hP hD [0, 2, 3, 6, 7, 8, 9, 10, 12] rfl rfl 0 rfl rfl rfl) rfl rfl hl.1 rfl (lv_room (Nat.le_of_ble_eq_true rfl)) dX12_again_49 ⟨by rw [hRc]; exact Nat.le_of_ble_eq_true rfl, by rw [hRs]; exact Nat.le_of_ble_eq_true rfl⟩) hP hD hS hA (fun u : Int32 × Int32 × Int32 × (Nat → Int32) => [(a_0, .inr (12, [.int 0, .ref a_1, .ref a_2, .ref a_3, .ref a_4, .ref a_5, .int i_4, .int i_5, .int i_6, .int i_7, .int i_8, .long j_0, .int i_9, .int i_10, .int i_11, .int i_12, .ref a_6, .ref a_7, .ref a_8, .ref a_9, .ref a_10, .ref a_11, .ref a_12, .ref a_13, .ref a_14, .ref a_15, .ref a_16, .ref a_17, .ref a_18, .int u.1, .int u.2.1, .int u.2.2.1, .int i_16, .int i_17, .int i_18, .ref a_19, .int i_19, .ref a_20])), (a_6, .inl (cy 1, 5, .inl (mm_g [i_20, i_21, i_22, i_23, i_24]))), (a_7, .inl (cy 1, 30, .inl (mm_g [i_25, i_26, i_27, i_28, i_29, i_30, i_31, i_32, i_33, i_34, i_35, i_36, i_37, i_38, i_39, i_40, i_41, i_42, i_43, i_44, i_45, i_46, i_47, i_48, i_49, i_50, i_51, i_52, i_53, i_54]))), (a_8, .inl (cy 1, 90, .inl f_0)), (a_9, .inl (cy 1, 15, .inl f_1)), (a_10, .inl (cy 1, 1050, .inl f_2)), (a_11, .inl (cy 1, 30, .inl f_3)), (a_12, .inl (cy 1, 240, .inl f_4)), (a_13, .inl (cy 1, 450, .inl f_5)), (a_15, .inl (cy 1, 7200, .inl n20)), (a_16, .inl (cy 1, 3, .inl n21)), (a_17, .inl (cy 1, 3, .inl n22)), (a_18, .inl (cy 1, 8, .inl u.2.2.2))]) [0, 2, 3, 6, 7, 8, 9, 10, 12] [1, 4, 5, 11] (n := 13) (fun _ => rfl) (by decide +kernel) (by decide +kernel) rfl (fun _ => rfl) (wr := [(a_6, .inl (cy 1, 5, .inl (mm_g [i_20, i_21, i_22, i_23, i_24]))), (a_9, .inl (cy 1, 15, .inl f_1)), (a_10, .inl (cy 1, 1050, .inl f_2)), (a_17, .inl (cy 1, 3, .inl n22))]) rfl (fun _ => rfl) (fun _ => @rfl _ ([a_0, a_7, a_8, a_11, a_12, a_13, a_15, a_16, a_18] : List Nat)) ?_
              clear hP hD hS
              clear H locs
              intro v72 u
              obtain ⟨n68, n69, n70, n71⟩ := u
              intro H locs hw (hP : va_P G vwCl [(a_0, .inr (12, [.int 0, .ref a_1, .ref a_2, .ref a_3, .ref a_4, .ref a_5, .int i_4, .int i_5, .int i_6, .int i_7, .int i_8, .long j_0, .int i_9, .int i_10, .int i_11, .int i_12, .ref a_6, .ref a_7, .ref a_8, .ref a_9, .ref a_10, .ref a_11, .ref a_12, .ref a_13, .ref a_14, .ref a_15, .ref a_16, .ref a_17, .ref a_18, .int n68, .int n69, .int n70, .int i_16, .int i_17, .int i_18, .ref a_19, .int i_19, .ref a_20])), (a_6, .inl (cy 1, 5, .inl (mm_g [i_20, i_21, i_22, i_23, i_24]))), (a_7, .inl (cy 1, 30, .inl (mm_g [i_25, i_26, i_27, i_28, i_29, i_30, i_31, i_32, i_33, i_34, i_35, i_36, i_37, i_38, i_39, i_40, i_41, i_42, i_43, i_44, i_45, i_46, i_47, i_48, i_49, i_50, i_51, i_52, i_53, i_54]))), (a_8, .inl (cy 1, 90, .inl f_0)), (a_9, .inl (cy 1, 15, .inl f_1)), (a_10, .inl (cy 1, 1050, .inl f_2)), (a_11, .inl (cy 1, 30, .inl f_3)), (a_12, .inl (cy 1, 240, .inl f_4)), (a_13, .inl (cy 1, 450, .inl f_5)), (a_15, .inl (cy 1, 7200, .inl n20)), (a_16, .inl (cy 1, 3, .inl n21)), (a_17, .inl (cy 1, 3, .inl n22)), (a_18, .inl (cy 1, 8, .inl n71))] H) (hD : va_D A [(a_0, .inr (12, [.int 0, .ref a_1, .ref a_2, .ref a_3, .ref a_4, .ref a_5, .int i_4, .int i_5, .int i_6, .int i_7, .int i_8, .long j_0, .int i_9, .int i_10, .int i_11, .int i_12, .ref a_6, .ref a_7, .ref a_8, .ref a_9, .ref a_10, .ref a_11, .ref a_12, .ref a_13, .ref a_14, .ref a_15, .ref a_16, .ref a_17, .ref a_18, .int n68, .int n69, .int n70, .int i_16, .int i_17, .int i_18, .ref a_19, .int i_19, .ref a_20])), (a_6, .inl (cy 1, 5, .inl (mm_g [i_20, i_21, i_22, i_23, i_24]))), (a_7, .inl (cy 1, 30, .inl (mm_g [i_25, i_26, i_27, i_28, i_29, i_30, i_31, i_32, i_33, i_34, i_35, i_36, i_37, i_38, i_39, i_40, i_41, i_42, i_43, i_44, i_45, i_46, i_47, i_48, i_49, i_50, i_51, i_52, i_53, i_54]))), (a_8, .inl (cy 1, 90, .inl f_0)), (a_9, .inl (cy 1, 15, .inl f_1)), (a_10, .inl (cy 1, 1050, .inl f_2)), (a_11, .inl (cy 1, 30, .inl f_3)), (a_12, .inl (cy 1, 240, .inl f_4)), (a_13, .inl (cy 1, 450, .inl f_5)), (a_15, .inl (cy 1, 7200, .inl n20)), (a_16, .inl (cy 1, 3, .inl n21)), (a_17, .inl (cy 1, 3, .inl n22)), (a_18, .inl (cy 1, 8, .inl n71))]) hS
              obtain ⟨w73, w74, hw⟩ := hw
              obtain ⟨w75, w76⟩ := hw
              replace w76 : mm_rd n20 n21 f_0 f_3 f_4 f_5 i_0 v67 i_2 i_26 i_27 i_30 v72 := w76
              refine lv_iload hx hb dX12_again_52 (lv_at hl 1 rfl) ?_
              refine lv_icmp_eq (tgt := 63) hx hb dX12_again_54 (by decide) (fun c77 => ?_) (fun c77 => ?_)
              · refine lv_iload_n hx hb dX12_again_63 rfl (lv_at hl 4 rfl) ?_
                refine lv_iload hx hb dX12_again_64 (lv_at hl 0 rfl) ?_
                refine lv_iadd hx hb dX12_again_66 ?_
                refine lv_topi (fun v78 ev78 => ?_)
                have rv78 : mm_rg v78 1 1000000210 := mm_add ev78 w3 rx42_5_60 (by decide) (by decide)
                have tv78 := mm_addE ev78 w3 rx42_5_60 (by decide)
                subst hAe
                rw [hQ]
                exact W.iret (v := v78) hx hb hr (fun t ht hW => ⟨⟨v78, (n68, n69, n70, n20, n21, n22, n71), rfl, ⟨w73, w23, w24, w25, w74, (mm_wk rv78 (by decide))⟩, by rw [ht]; exact hP, hK.warm hW, hD⟩, hS.F ht⟩) hS.2.2 dX12_again_67
              · obtain ⟨v79, ev79⟩ : ∃ y : Int32, y = x42_5_60 + 1 := ⟨_, rfl⟩
                refine lv_iinc (v := v79) (lv' := [(5, .int v79), (4, .int v32), (0, .ref a_0), (1, .int i_0), (2, .int i_1), (3, .int i_2)]) hx hb dX12_again_57 hl (k := 0) rfl (by rw [ev79]; rfl) (by decide) rfl ?_
                clear hl
                clear ls
                intro ls hl
                have rv79 : mm_rg v79 2 211 := mm_add ev79 rx42_5_60 mm_k1 (by decide) (by decide)
                have tv79 := mm_addEc ev79 rx42_5_60 mm_k1 (by decide) (k := 1) (by decide)
                refine lv_goto (tgt := 42) hx hb dX12_again_60 (by decide) ?_
                have w80 : mm_ng n21 i_0 v79 := (mm_ng_s w65 w36 w76 (mm_ne c77) tv67 tv79)
                have q81 : mm_rg v79 1 210 := mm_ng_rg w80 w24
                exact ih42 v79 n68 n69 n70 n71 q81 w73 w74 w80 (mm_mu hm42 tv79 (by decide) (q81).2 (by decide)) H locs hP hD hS ls (lv_sub hl [0, 1, 2, 3, 4, 5] rfl)
          exact L42_65 _ 1 n28 n29 n30 n31 (mm_wk mm_k1 (by decide)) w33 w34 (mm_ng_1 (mm_f1_l w26 w4 w2 (by decide))) (Nat.lt_succ_self _) H locs hP hD hS ls (lv_sub hl [0, 1, 2, 3, 4, 5] rfl)
        · exact mm_eqN c19.symm mm_k0 mm_k1 (by decide)

set_option maxHeartbeats 4000000 in
set_option maxRecDepth 100000 in
theorem M146_X12_isStock (l : Launch) (G : va_G) (cy : Nat → ClassId) (sz : Nat) (j_0 : Int64) (h0 : mm_rl j_0 (-2147483648) 2147483647)  : mm_CI l yX12_isStock (mm_ws yX12_isStock cX12_isStock 2 (some .boolean)) ({ frames := 1, cells := 0, slots := 0, locals := 25 } : Room) G cy sz [] [.long j_0] (fun u : Unit => []) (fun (r : Int32) (u : Unit) => ((0 = r) ∨ (1 = r ∧ mm_rl j_0 0 9999))) 0 0 := by
  refine mm_begin (lv := [(0, .long j_0)]) (by decide) (Nat.le_of_ble_eq_true rfl) rfl ?_
  intro p e s m below meth c A ls R args Q H locs hRe hQ hAe hx hb hr hlocks hml hown hnm hts hsz hA hS hP hK hD hZ hl
  have hRf : R.frames = 1 := by rw [hRe]
  have hRl : R.locals = 25 := by rw [hRe]
  have hRc : R.cells = 0 := by rw [hRe]
  have hRs : R.slots = 0 := by rw [hRe]
  refine lv_lload_n hx hb dX12_isStock_0 rfl (lv_at hl 0 rfl) ?_
  refine lv_lconst (v := 0) hx hb dX12_isStock_1 (by decide) ?_
  refine lv_ldc2 (v := 9999) hx hb hown (mm_h hts mm_w925) dX12_isStock_2 ?_
  refine mm_finir (va_runS (As := [.long j_0, .long 0, .long 9999]) (rest := []) ⟨hx, hb, hml, hown, hts⟩ (M7_X12_in l G cy H.size j_0 9999 ) (va_cwS 3 hts (mm_gS mm_w191 mm_w192 mm_w5 mm_w193) rfl rfl rfl hs_X12_in ⟨by rw [hRf]; exact Nat.le_of_ble_eq_true rfl, by rw [hRl]; exact Nat.le_of_ble_eq_true rfl⟩) (mm_preS hK hZ hS hA hP hD [] rfl rfl) rfl rfl hl.1 rfl (lv_room (Nat.le_of_ble_eq_true rfl)) dX12_isStock_5 ⟨by rw [hRc]; exact Nat.le_of_ble_eq_true rfl, by rw [hRs]; exact Nat.le_of_ble_eq_true rfl⟩) hP hD hS hA [] rfl (fun _ => rfl) ?_
  clear hP hD hS
  clear H locs
  intro v1 _u H locs hw hP hD hS
  rcases hw with ⟨rfl, w2⟩ | ⟨rfl, w3, w4, w5, w6⟩
  · subst hAe
    rw [hQ]
    exact W.zret (v := 0) hx hb hr rfl (fun t ht hW => ⟨⟨0, (), rfl, (Or.inl rfl), by rw [ht]; exact hP, hK.warm hW, hD⟩, hS.F ht⟩) hS.2.2 dX12_isStock_8
  · have q7 := mm_meetl (lo := 0) (hi := 2147483647) w3 h0 (by decide)
    have q8 := mm_leLl w5 q7 mm_kl9999
    subst hAe
    rw [hQ]
    exact W.zret (v := 1) hx hb hr rfl (fun t ht hW => ⟨⟨1, (), rfl, (Or.inr ⟨rfl, q8⟩), by rw [ht]; exact hP, hK.warm hW, hD⟩, hS.F ht⟩) hS.2.2 dX12_isStock_8

set_option maxHeartbeats 4000000 in
set_option maxRecDepth 100000 in
theorem M147_X12_first (l : Launch) (G : va_G) (cy : Nat → ClassId) (sz : Nat) (a_0 : Nat) (i_0 : Int32) (i_1 : Int32) (i_2 : Int32) (i_3 : Int32) (i_4 : Int32) (a_1 : Nat) (a_2 : Nat) (a_3 : Nat) (a_4 : Nat) (a_5 : Nat) (i_5 : Int32) (i_6 : Int32) (i_7 : Int32) (i_8 : Int32) (i_9 : Int32) (j_0 : Int64) (i_10 : Int32) (i_11 : Int32) (i_12 : Int32) (i_13 : Int32) (a_6 : Nat) (a_7 : Nat) (a_8 : Nat) (a_9 : Nat) (a_10 : Nat) (a_11 : Nat) (a_12 : Nat) (a_13 : Nat) (a_14 : Nat) (a_15 : Nat) (a_16 : Nat) (a_17 : Nat) (a_18 : Nat) (i_14 : Int32) (i_15 : Int32) (i_16 : Int32) (i_17 : Int32) (i_18 : Int32) (i_19 : Int32) (a_19 : Nat) (i_20 : Int32) (a_20 : Nat) (i_21 : Int32) (i_22 : Int32) (i_23 : Int32) (i_24 : Int32) (i_25 : Int32) (i_26 : Int32) (i_27 : Int32) (i_28 : Int32) (i_29 : Int32) (i_30 : Int32) (i_31 : Int32) (i_32 : Int32) (i_33 : Int32) (i_34 : Int32) (i_35 : Int32) (i_36 : Int32) (i_37 : Int32) (i_38 : Int32) (i_39 : Int32) (i_40 : Int32) (i_41 : Int32) (i_42 : Int32) (i_43 : Int32) (i_44 : Int32) (i_45 : Int32) (i_46 : Int32) (i_47 : Int32) (i_48 : Int32) (i_49 : Int32) (i_50 : Int32) (i_51 : Int32) (i_52 : Int32) (i_53 : Int32) (i_54 : Int32) (i_55 : Int32) (f_0 : Nat → Int32) (f_1 : Nat → Int32) (f_2 : Nat → Int32) (f_3 : Nat → Int32) (f_4 : Nat → Int32) (f_5 : Nat → Int32) (f_6 : Nat → Int32) (f_7 : Nat → Int32) (f_8 : Nat → Int32) (f_9 : Nat → Int32) (h0 : mm_rg i_14 0 8) (h1 : mm_rg i_21 0 601) (h2 : mm_rg i_22 0 601) (h3 : mm_rg i_23 0 601) (h4 : mm_rg i_24 0 601) (h5 : mm_rg i_25 0 601) (h6 : mm_rg i_26 0 10) (h7 : mm_rg i_27 0 99) (h8 : mm_rg i_28 0 9) (h9 : mm_rg i_29 0 3) (h10 : mm_rg i_30 0 6) (h11 : mm_rg i_31 0 30) (h12 : mm_rg i_32 0 10) (h13 : mm_rg i_33 0 99) (h14 : mm_rg i_34 0 9) (h15 : mm_rg i_35 0 3) (h16 : mm_rg i_36 0 6) (h17 : mm_rg i_37 0 30) (h18 : mm_rg i_38 0 10) (h19 : mm_rg i_39 0 99) (h20 : mm_rg i_40 0 9) (h21 : mm_rg i_41 0 3) (h22 : mm_rg i_42 0 6) (h23 : mm_rg i_43 0 30) (h24 : mm_rg i_44 0 10) (h25 : mm_rg i_45 0 99) (h26 : mm_rg i_46 0 9) (h27 : mm_rg i_47 0 3) (h28 : mm_rg i_48 0 6) (h29 : mm_rg i_49 0 30) (h30 : mm_rg i_50 0 10) (h31 : mm_rg i_51 0 99) (h32 : mm_rg i_52 0 9) (h33 : mm_rg i_53 0 3) (h34 : mm_rg i_54 0 6) (h35 : mm_rg i_55 0 30) (h36 : mm_ar f_0 0 99) (h37 : mm_ar f_1 0 7) (h38 : mm_ar f_2 0 9) (h39 : mm_ar f_3 0 8) (h40 : mm_ar f_4 0 9) (h41 : mm_ar f_5 (-1) 99) (h42 : mm_ar f_6 0 9) (h43 : mm_ar f_7 0 210) (h44 : mm_ar f_8 0 210) (h45 : mm_ar f_9 0 9) (h46 : mm_rls f_1 f_2 0 i_28 i_29) (h47 : mm_txs f_3 f_4 0 i_28 i_30) (h48 : mm_acs f_5 0 i_28 i_29 i_31) (h49 : mm_tl i_21 i_29 i_30) (h50 : mm_rls f_1 f_2 1 i_34 i_35) (h51 : mm_txs f_3 f_4 1 i_34 i_36) (h52 : mm_acs f_5 1 i_34 i_35 i_37) (h53 : mm_tl i_22 i_35 i_36) (h54 : mm_rls f_1 f_2 2 i_40 i_41) (h55 : mm_txs f_3 f_4 2 i_40 i_42) (h56 : mm_acs f_5 2 i_40 i_41 i_43) (h57 : mm_tl i_23 i_41 i_42) (h58 : mm_rls f_1 f_2 3 i_46 i_47) (h59 : mm_txs f_3 f_4 3 i_46 i_48) (h60 : mm_acs f_5 3 i_46 i_47 i_49) (h61 : mm_tl i_24 i_47 i_48)  : mm_CI l yX12_first (mm_ws yX12_first cX12_first 6 (some .int)) ({ frames := 14, cells := 0, slots := 0, locals := 300 } : Room) G cy sz [(a_0, .inr (12, [.int i_4, .ref a_1, .ref a_2, .ref a_3, .ref a_4, .ref a_5, .int i_5, .int i_6, .int i_7, .int i_8, .int i_9, .long j_0, .int i_10, .int i_11, .int i_12, .int i_13, .ref a_6, .ref a_7, .ref a_8, .ref a_9, .ref a_10, .ref a_11, .ref a_12, .ref a_13, .ref a_14, .ref a_15, .ref a_16, .ref a_17, .ref a_18, .int i_14, .int i_15, .int i_16, .int i_17, .int i_18, .int i_19, .ref a_19, .int i_20, .ref a_20])), (a_6, .inl (cy 1, 5, .inl (mm_g [i_21, i_22, i_23, i_24, i_25]))), (a_7, .inl (cy 1, 30, .inl (mm_g [i_26, i_27, i_28, i_29, i_30, i_31, i_32, i_33, i_34, i_35, i_36, i_37, i_38, i_39, i_40, i_41, i_42, i_43, i_44, i_45, i_46, i_47, i_48, i_49, i_50, i_51, i_52, i_53, i_54, i_55]))), (a_8, .inl (cy 1, 90, .inl f_0)), (a_9, .inl (cy 1, 15, .inl f_1)), (a_10, .inl (cy 1, 1050, .inl f_2)), (a_11, .inl (cy 1, 30, .inl f_3)), (a_12, .inl (cy 1, 240, .inl f_4)), (a_13, .inl (cy 1, 450, .inl f_5)), (a_15, .inl (cy 1, 7200, .inl f_6)), (a_16, .inl (cy 1, 3, .inl f_7)), (a_17, .inl (cy 1, 3, .inl f_8)), (a_18, .inl (cy 1, 8, .inl f_9))] [.ref a_0, .int i_0, .int i_1, .int i_2, .int i_3] (fun u : Int32 × Int32 × Int32 × (Nat → Int32) × (Nat → Int32) × (Nat → Int32) × (Nat → Int32) => [(a_0, .inr (12, [.int 0, .ref a_1, .ref a_2, .ref a_3, .ref a_4, .ref a_5, .int i_5, .int i_6, .int i_7, .int i_8, .int i_9, .long j_0, .int i_10, .int i_11, .int i_12, .int i_13, .ref a_6, .ref a_7, .ref a_8, .ref a_9, .ref a_10, .ref a_11, .ref a_12, .ref a_13, .ref a_14, .ref a_15, .ref a_16, .ref a_17, .ref a_18, .int u.1, .int u.2.1, .int u.2.2.1, .int i_17, .int i_18, .int i_19, .ref a_19, .int i_20, .ref a_20])), (a_6, .inl (cy 1, 5, .inl (mm_g [i_21, i_22, i_23, i_24, i_25]))), (a_7, .inl (cy 1, 30, .inl (mm_g [i_26, i_27, i_28, i_29, i_30, i_31, i_32, i_33, i_34, i_35, i_36, i_37, i_38, i_39, i_40, i_41, i_42, i_43, i_44, i_45, i_46, i_47, i_48, i_49, i_50, i_51, i_52, i_53, i_54, i_55]))), (a_8, .inl (cy 1, 90, .inl f_0)), (a_9, .inl (cy 1, 15, .inl f_1)), (a_10, .inl (cy 1, 1050, .inl f_2)), (a_11, .inl (cy 1, 30, .inl f_3)), (a_12, .inl (cy 1, 240, .inl f_4)), (a_13, .inl (cy 1, 450, .inl f_5)), (a_15, .inl (cy 1, 7200, .inl u.2.2.2.1)), (a_16, .inl (cy 1, 3, .inl u.2.2.2.2.1)), (a_17, .inl (cy 1, 3, .inl u.2.2.2.2.2.1)), (a_18, .inl (cy 1, 8, .inl u.2.2.2.2.2.2))]) (fun (r : Int32) (u : Int32 × Int32 × Int32 × (Nat → Int32) × (Nat → Int32) × (Nat → Int32) × (Nat → Int32)) => mm_rg u.1 0 8 ∧ mm_ar u.2.2.2.1 0 9 ∧ mm_ar u.2.2.2.2.1 0 210 ∧ mm_ar u.2.2.2.2.2.1 0 210 ∧ mm_ar u.2.2.2.2.2.2 0 9 ∧ mm_rg r (-2) 1000000209) 0 0 := by
  refine mm_begin (lv := [(0, .ref a_0), (1, .int i_0), (2, .int i_1), (3, .int i_2), (4, .int i_3)]) (by decide) (Nat.le_of_ble_eq_true rfl) rfl ?_
  intro p e s m below meth c A ls R args Q H locs hRe hQ hAe hx hb hr hlocks hml hown hnm hts hsz hA hS hP hK hD hZ hl
  have hRf : R.frames = 14 := by rw [hRe]
  have hRl : R.locals = 300 := by rw [hRe]
  have hRc : R.cells = 0 := by rw [hRe]
  have hRs : R.slots = 0 := by rw [hRe]
  refine lv_aload_n hx hb dX12_first_0 rfl (lv_at hl 0 rfl) ?_
  refine lv_iconst (v := 0) hx hb dX12_first_1 (by decide) ?_
  refine va_put (D := G) (ci := 12) (v := .int 0) (ty := tyX12 0) (C := RX12) (T := TX12) (N := 38) hx hb hts (mm_i inlX12) tyX12 tyX12_ok nmX12 hown hK.1 hP hD hS 0 rfl rfl 0 (by decide) (mm_h hts mm_w177) (fun _ h9 => h9) rfl (tyX12_ok 0 (by decide)) rfl rfl (Nat.le_of_ble_eq_true rfl) dX12_first_2 ?_
  clear hP hD hS
  clear H locs
  intro H locs (hP : va_P G vwCl [(a_0, .inr (12, [.int 0, .ref a_1, .ref a_2, .ref a_3, .ref a_4, .ref a_5, .int i_5, .int i_6, .int i_7, .int i_8, .int i_9, .long j_0, .int i_10, .int i_11, .int i_12, .int i_13, .ref a_6, .ref a_7, .ref a_8, .ref a_9, .ref a_10, .ref a_11, .ref a_12, .ref a_13, .ref a_14, .ref a_15, .ref a_16, .ref a_17, .ref a_18, .int i_14, .int i_15, .int i_16, .int i_17, .int i_18, .int i_19, .ref a_19, .int i_20, .ref a_20])), (a_6, .inl (cy 1, 5, .inl (mm_g [i_21, i_22, i_23, i_24, i_25]))), (a_7, .inl (cy 1, 30, .inl (mm_g [i_26, i_27, i_28, i_29, i_30, i_31, i_32, i_33, i_34, i_35, i_36, i_37, i_38, i_39, i_40, i_41, i_42, i_43, i_44, i_45, i_46, i_47, i_48, i_49, i_50, i_51, i_52, i_53, i_54, i_55]))), (a_8, .inl (cy 1, 90, .inl f_0)), (a_9, .inl (cy 1, 15, .inl f_1)), (a_10, .inl (cy 1, 1050, .inl f_2)), (a_11, .inl (cy 1, 30, .inl f_3)), (a_12, .inl (cy 1, 240, .inl f_4)), (a_13, .inl (cy 1, 450, .inl f_5)), (a_15, .inl (cy 1, 7200, .inl f_6)), (a_16, .inl (cy 1, 3, .inl f_7)), (a_17, .inl (cy 1, 3, .inl f_8)), (a_18, .inl (cy 1, 8, .inl f_9))] H) (hD : va_D A [(a_0, .inr (12, [.int 0, .ref a_1, .ref a_2, .ref a_3, .ref a_4, .ref a_5, .int i_5, .int i_6, .int i_7, .int i_8, .int i_9, .long j_0, .int i_10, .int i_11, .int i_12, .int i_13, .ref a_6, .ref a_7, .ref a_8, .ref a_9, .ref a_10, .ref a_11, .ref a_12, .ref a_13, .ref a_14, .ref a_15, .ref a_16, .ref a_17, .ref a_18, .int i_14, .int i_15, .int i_16, .int i_17, .int i_18, .int i_19, .ref a_19, .int i_20, .ref a_20])), (a_6, .inl (cy 1, 5, .inl (mm_g [i_21, i_22, i_23, i_24, i_25]))), (a_7, .inl (cy 1, 30, .inl (mm_g [i_26, i_27, i_28, i_29, i_30, i_31, i_32, i_33, i_34, i_35, i_36, i_37, i_38, i_39, i_40, i_41, i_42, i_43, i_44, i_45, i_46, i_47, i_48, i_49, i_50, i_51, i_52, i_53, i_54, i_55]))), (a_8, .inl (cy 1, 90, .inl f_0)), (a_9, .inl (cy 1, 15, .inl f_1)), (a_10, .inl (cy 1, 1050, .inl f_2)), (a_11, .inl (cy 1, 30, .inl f_3)), (a_12, .inl (cy 1, 240, .inl f_4)), (a_13, .inl (cy 1, 450, .inl f_5)), (a_15, .inl (cy 1, 7200, .inl f_6)), (a_16, .inl (cy 1, 3, .inl f_7)), (a_17, .inl (cy 1, 3, .inl f_8)), (a_18, .inl (cy 1, 8, .inl f_9))]) hS
  refine lv_aload_n hx hb dX12_first_5 rfl (lv_at hl 0 rfl) ?_
  refine lv_iload_n hx hb dX12_first_6 rfl (lv_at hl 1 rfl) ?_
  refine lv_iload_n hx hb dX12_first_7 rfl (lv_at hl 2 rfl) ?_
  refine mm_finir (va_runV (As := [.int i_0, .int i_1]) (rest := []) ⟨hx, hb, hml, hown, hts⟩ (M104_X12_isThen l G cy H.size a_0 i_0 i_1 0 a_1 a_2 a_3 a_4 a_5 i_5 i_6 i_7 i_8 i_9 j_0 i_10 i_11 i_12 i_13 a_6 a_7 a_8 a_9 a_10 a_11 a_12 a_13 a_14 a_15 a_16 a_17 a_18 i_14 i_15 i_16 i_17 i_18 i_19 a_19 i_20 a_20 i_26 i_27 i_28 i_29 i_30 i_31 i_32 i_33 i_34 i_35 i_36 i_37 i_38 i_39 i_40 i_41 i_42 i_43 i_44 i_45 i_46 i_47 i_48 i_49 i_50 i_51 i_52 i_53 i_54 i_55 h6 h7 h8 h9 h10 h11 h12 h13 h14 h15 h16 h17 h18 h19 h20 h21 h22 h23 h24 h25 h26 h27 h28 h29 h30 h31 h32 h33 h34 h35) (cwV 2 hts (mm_gV mm_w678 mm_w679 mm_w680 mm_w5 mm_w681) rfl rfl rfl hd_X12_isThen ⟨by rw [hRf]; exact Nat.le_of_ble_eq_true rfl, by rw [hRl]; exact Nat.le_of_ble_eq_true rfl⟩) (mm_preV hK hZ hS hA hP hD [0, 2] rfl rfl 0 rfl rfl rfl) rfl rfl hl.1 rfl (lv_room (Nat.le_of_ble_eq_true rfl)) dX12_first_8 ⟨by rw [hRc]; exact Nat.le_of_ble_eq_true rfl, by rw [hRs]; exact Nat.le_of_ble_eq_true rfl⟩) hP hD hS hA [0, 2] rfl (fun _ => rfl) ?_
  clear hP hD hS
  clear H locs
  intro v1 _u H locs hw hP hD hS
  rcases hw with rfl | ⟨rfl, w2, w3, w4⟩
  · refine lv_if_eq (tgt := 32) hx hb dX12_first_11 (by decide) (fun c5 => ?_) (fun c5 => ?_)
    · refine lv_bipush (v := (-2)) hx hb dX12_first_32 (by decide) ?_
      subst hAe
      rw [hQ]
      exact W.iret (v := (-2)) hx hb hr (fun t ht hW => ⟨⟨(-2), (i_14, i_15, i_16, f_6, f_7, f_8, f_9), rfl, ⟨h0, h42, h43, h44, h45, (mm_wk mm_km2 (by decide))⟩, by rw [ht]; exact hP, hK.warm hW, hD⟩, hS.F ht⟩) hS.2.2 dX12_first_34
    · have q6 := mm_neL (lo := 1) (mm_ne c5) mm_k0 mm_k0 (by decide) (by decide)
      exact mm_no q6 (by decide)
  · have q7 := mm_ltR (lo := 1) w4 w2 h9 (by decide)
    have q8 : mm_rg i_21 1 601 := mm_tl_3 h49 q7 h1 (by decide)
    refine lv_if_eq (tgt := 32) hx hb dX12_first_11 (by decide) (fun c9 => ?_) (fun c9 => ?_)
    · exact mm_eqN c9.symm mm_k0 mm_k1 (by decide)
    · refine lv_aload_n hx hb dX12_first_14 rfl (lv_at hl 0 rfl) ?_
      refine lv_iload_n hx hb dX12_first_15 rfl (lv_at hl 3 rfl) ?_
      obtain ⟨v10, ev10⟩ : ∃ y : Int64, y = i_2.toInt64 := ⟨_, rfl⟩
      refine lv_i2l hx hb dX12_first_16 ev10.symm ?_
      have rv10 : mm_rl v10 (-2147483648) 2147483647 := mm_i2l ev10 (mm_top i_2)
      refine mm_finir (va_runV (As := [.long v10]) (rest := []) ⟨hx, hb, hml, hown, hts⟩ (M96_X12_isText l G cy H.size a_0 v10 0 a_1 a_2 a_3 a_4 a_5 i_5 i_6 i_7 i_8 i_9 j_0 i_10 i_11 i_12 i_13 a_6 a_7 a_8 a_9 a_10 a_11 a_12 a_13 a_14 a_15 a_16 a_17 a_18 i_14 i_15 i_16 i_17 i_18 i_19 a_19 i_20 a_20 i_26 i_27 i_28 i_29 i_30 i_31 i_32 i_33 i_34 i_35 i_36 i_37 i_38 i_39 i_40 i_41 i_42 i_43 i_44 i_45 i_46 i_47 i_48 i_49 i_50 i_51 i_52 i_53 i_54 i_55 h6 h7 h8 (mm_wk q7 (by decide)) h10 h11 h12 h13 h14 h15 h16 h17 h18 h19 h20 h21 h22 h23 h24 h25 h26 h27 h28 h29 h30 h31 h32 h33 h34 h35) (cwV 1 hts (mm_gV mm_w613 mm_w614 mm_w615 mm_w5 mm_w616) rfl rfl rfl hd_X12_isText ⟨by rw [hRf]; exact Nat.le_of_ble_eq_true rfl, by rw [hRl]; exact Nat.le_of_ble_eq_true rfl⟩) (mm_preV hK hZ hS hA hP hD [0, 2] rfl rfl 0 rfl rfl rfl) rfl rfl hl.1 rfl (lv_room (Nat.le_of_ble_eq_true rfl)) dX12_first_17 ⟨by rw [hRc]; exact Nat.le_of_ble_eq_true rfl, by rw [hRs]; exact Nat.le_of_ble_eq_true rfl⟩) hP hD hS hA [0, 2] rfl (fun _ => rfl) ?_
      clear hP hD hS
      clear H locs
      intro v11 _u H locs hw hP hD hS
      rcases hw with rfl | ⟨rfl, w12, w13⟩
      · refine lv_if_eq (tgt := 32) hx hb dX12_first_20 (by decide) (fun c14 => ?_) (fun c14 => ?_)
        · refine lv_bipush (v := (-2)) hx hb dX12_first_32 (by decide) ?_
          subst hAe
          rw [hQ]
          exact W.iret (v := (-2)) hx hb hr (fun t ht hW => ⟨⟨(-2), (i_14, i_15, i_16, f_6, f_7, f_8, f_9), rfl, ⟨h0, h42, h43, h44, h45, (mm_wk mm_km2 (by decide))⟩, by rw [ht]; exact hP, hK.warm hW, hD⟩, hS.F ht⟩) hS.2.2 dX12_first_34
        · have q15 := mm_neL (lo := 1) (mm_ne c14) mm_k0 mm_k0 (by decide) (by decide)
          exact mm_no q15 (by decide)
      · have q16 := mm_meet (lo := 0) (hi := 5) (mm_l2x ev10 w12) (mm_top i_2) (by decide)
        have w17 := mm_tx_lt w13 (mm_i2lE ev10)
        have q18 := mm_ltR (lo := 1) w17 q16 h10 (by decide)
        refine lv_if_eq (tgt := 32) hx hb dX12_first_20 (by decide) (fun c19 => ?_) (fun c19 => ?_)
        · exact mm_eqN c19.symm mm_k0 mm_k1 (by decide)
        · refine lv_iload hx hb dX12_first_23 (lv_at hl 4 rfl) ?_
          obtain ⟨v20, ev20⟩ : ∃ y : Int64, y = i_3.toInt64 := ⟨_, rfl⟩
          refine lv_i2l hx hb dX12_first_25 ev20.symm ?_
          have rv20 : mm_rl v20 (-2147483648) 2147483647 := mm_i2l ev20 (mm_top i_3)
          refine mm_finir (va_runS (As := [.long v20]) (rest := []) ⟨hx, hb, hml, hown, hts⟩ (M146_X12_isStock l G cy H.size v20 rv20) (va_cwS 1 hts (mm_gS mm_w922 mm_w923 mm_w5 mm_w924) rfl rfl rfl hs_X12_isStock ⟨by rw [hRf]; exact Nat.le_of_ble_eq_true rfl, by rw [hRl]; exact Nat.le_of_ble_eq_true rfl⟩) (mm_preS hK hZ hS hA hP hD [] rfl rfl) rfl rfl hl.1 rfl (lv_room (Nat.le_of_ble_eq_true rfl)) dX12_first_26 ⟨by rw [hRc]; exact Nat.le_of_ble_eq_true rfl, by rw [hRs]; exact Nat.le_of_ble_eq_true rfl⟩) hP hD hS hA [] rfl (fun _ => rfl) ?_
          clear hP hD hS
          clear H locs
          intro v21 _u H locs hw hP hD hS
          rcases hw with rfl | ⟨rfl, w22⟩
          · refine lv_if_ne (tgt := 35) hx hb dX12_first_29 (by decide) (fun c23 => ?_) (fun c23 => ?_)
            · have q24 := mm_neL (lo := 1) (mm_ne c23) mm_k0 mm_k0 (by decide) (by decide)
              exact mm_no q24 (by decide)
            · refine lv_bipush (v := (-2)) hx hb dX12_first_32 (by decide) ?_
              subst hAe
              rw [hQ]
              exact W.iret (v := (-2)) hx hb hr (fun t ht hW => ⟨⟨(-2), (i_14, i_15, i_16, f_6, f_7, f_8, f_9), rfl, ⟨h0, h42, h43, h44, h45, (mm_wk mm_km2 (by decide))⟩, by rw [ht]; exact hP, hK.warm hW, hD⟩, hS.F ht⟩) hS.2.2 dX12_first_34
          · have q25 := mm_meet (lo := 0) (hi := 9999) (mm_l2x ev20 w22) (mm_top i_3) (by decide)
            refine lv_if_ne (tgt := 35) hx hb dX12_first_29 (by decide) (fun c26 => ?_) (fun c26 => ?_)
            · refine lv_aload_n hx hb dX12_first_35 rfl (lv_at hl 0 rfl) ?_
              refine mm_finv (va_runV (As := []) (rest := []) ⟨hx, hb, hml, hown, hts⟩ (M125_X12_lays l G cy H.size a_0 0 a_1 a_2 a_3 a_4 a_5 i_5 i_6 i_7 i_8 i_9 j_0 i_10 i_11 i_12 i_13 a_6 a_7 a_8 a_9 a_10 a_11 a_12 a_13 a_14 a_15 a_16 a_17 a_18 i_14 i_15 i_16 i_17 i_18 i_19 a_19 i_20 a_20 i_21 i_22 i_23 i_24 i_25 i_26 i_27 i_28 i_29 i_30 i_31 i_32 i_33 i_34 i_35 i_36 i_37 i_38 i_39 i_40 i_41 i_42 i_43 i_44 i_45 i_46 i_47 i_48 i_49 i_50 i_51 i_52 i_53 i_54 i_55 f_1 f_2 f_5 f_6 f_7 f_8 (mm_wk q8 (by decide)) h2 h3 h4 h5 h6 h7 h8 (mm_wk q7 (by decide)) (mm_wk q18 (by decide)) h11 h12 h13 h14 h15 h16 h17 h18 h19 h20 h21 h22 h23 h24 h25 h26 h27 h28 h29 h30 h31 h32 h33 h34 h35 h37 h38 h41 h42 h43 h44 h46 h48 h49 h50 h52 h53 h54 h56 h57 h58 h60 h61) (cwV 0 hts (mm_gV mm_w686 mm_w687 mm_w688 mm_w5 mm_w689) rfl rfl rfl hd_X12_lays ⟨by rw [hRf]; exact Nat.le_of_ble_eq_true rfl, by rw [hRl]; exact Nat.le_of_ble_eq_true rfl⟩) (mm_preV hK hZ hS hA hP hD [0, 1, 2, 4, 5, 8, 9, 10, 11] rfl rfl 0 rfl rfl rfl) rfl rfl hl.1 rfl (lv_room (Nat.le_of_ble_eq_true rfl)) dX12_first_36 ⟨by rw [hRc]; exact Nat.le_of_ble_eq_true rfl, by rw [hRs]; exact Nat.le_of_ble_eq_true rfl⟩) hP hD hS hA (fun u : (Nat → Int32) × (Nat → Int32) × (Nat → Int32) => [(a_0, .inr (12, [.int 0, .ref a_1, .ref a_2, .ref a_3, .ref a_4, .ref a_5, .int i_5, .int i_6, .int i_7, .int i_8, .int i_9, .long j_0, .int i_10, .int i_11, .int i_12, .int i_13, .ref a_6, .ref a_7, .ref a_8, .ref a_9, .ref a_10, .ref a_11, .ref a_12, .ref a_13, .ref a_14, .ref a_15, .ref a_16, .ref a_17, .ref a_18, .int i_14, .int i_15, .int i_16, .int i_17, .int i_18, .int i_19, .ref a_19, .int i_20, .ref a_20])), (a_6, .inl (cy 1, 5, .inl (mm_g [i_21, i_22, i_23, i_24, i_25]))), (a_7, .inl (cy 1, 30, .inl (mm_g [i_26, i_27, i_28, i_29, i_30, i_31, i_32, i_33, i_34, i_35, i_36, i_37, i_38, i_39, i_40, i_41, i_42, i_43, i_44, i_45, i_46, i_47, i_48, i_49, i_50, i_51, i_52, i_53, i_54, i_55]))), (a_8, .inl (cy 1, 90, .inl f_0)), (a_9, .inl (cy 1, 15, .inl f_1)), (a_10, .inl (cy 1, 1050, .inl f_2)), (a_11, .inl (cy 1, 30, .inl f_3)), (a_12, .inl (cy 1, 240, .inl f_4)), (a_13, .inl (cy 1, 450, .inl f_5)), (a_15, .inl (cy 1, 7200, .inl u.1)), (a_16, .inl (cy 1, 3, .inl u.2.1)), (a_17, .inl (cy 1, 3, .inl u.2.2)), (a_18, .inl (cy 1, 8, .inl f_9))]) [0, 1, 2, 4, 5, 8, 9, 10, 11] [3, 6, 7, 12] (n := 13) (fun _ => rfl) (by decide +kernel) (by decide +kernel) rfl (fun _ => rfl) (wr := [(a_8, .inl (cy 1, 90, .inl f_0)), (a_11, .inl (cy 1, 30, .inl f_3)), (a_12, .inl (cy 1, 240, .inl f_4)), (a_18, .inl (cy 1, 8, .inl f_9))]) rfl (fun _ => rfl) (fun _ => @rfl _ ([a_0, a_6, a_7, a_9, a_10, a_13, a_15, a_16, a_17] : List Nat)) ?_
              clear hP hD hS
              clear H locs
              intro u
              obtain ⟨n27, n28, n29⟩ := u
              intro H locs hw (hP : va_P G vwCl [(a_0, .inr (12, [.int 0, .ref a_1, .ref a_2, .ref a_3, .ref a_4, .ref a_5, .int i_5, .int i_6, .int i_7, .int i_8, .int i_9, .long j_0, .int i_10, .int i_11, .int i_12, .int i_13, .ref a_6, .ref a_7, .ref a_8, .ref a_9, .ref a_10, .ref a_11, .ref a_12, .ref a_13, .ref a_14, .ref a_15, .ref a_16, .ref a_17, .ref a_18, .int i_14, .int i_15, .int i_16, .int i_17, .int i_18, .int i_19, .ref a_19, .int i_20, .ref a_20])), (a_6, .inl (cy 1, 5, .inl (mm_g [i_21, i_22, i_23, i_24, i_25]))), (a_7, .inl (cy 1, 30, .inl (mm_g [i_26, i_27, i_28, i_29, i_30, i_31, i_32, i_33, i_34, i_35, i_36, i_37, i_38, i_39, i_40, i_41, i_42, i_43, i_44, i_45, i_46, i_47, i_48, i_49, i_50, i_51, i_52, i_53, i_54, i_55]))), (a_8, .inl (cy 1, 90, .inl f_0)), (a_9, .inl (cy 1, 15, .inl f_1)), (a_10, .inl (cy 1, 1050, .inl f_2)), (a_11, .inl (cy 1, 30, .inl f_3)), (a_12, .inl (cy 1, 240, .inl f_4)), (a_13, .inl (cy 1, 450, .inl f_5)), (a_15, .inl (cy 1, 7200, .inl n27)), (a_16, .inl (cy 1, 3, .inl n28)), (a_17, .inl (cy 1, 3, .inl n29)), (a_18, .inl (cy 1, 8, .inl f_9))] H) (hD : va_D A [(a_0, .inr (12, [.int 0, .ref a_1, .ref a_2, .ref a_3, .ref a_4, .ref a_5, .int i_5, .int i_6, .int i_7, .int i_8, .int i_9, .long j_0, .int i_10, .int i_11, .int i_12, .int i_13, .ref a_6, .ref a_7, .ref a_8, .ref a_9, .ref a_10, .ref a_11, .ref a_12, .ref a_13, .ref a_14, .ref a_15, .ref a_16, .ref a_17, .ref a_18, .int i_14, .int i_15, .int i_16, .int i_17, .int i_18, .int i_19, .ref a_19, .int i_20, .ref a_20])), (a_6, .inl (cy 1, 5, .inl (mm_g [i_21, i_22, i_23, i_24, i_25]))), (a_7, .inl (cy 1, 30, .inl (mm_g [i_26, i_27, i_28, i_29, i_30, i_31, i_32, i_33, i_34, i_35, i_36, i_37, i_38, i_39, i_40, i_41, i_42, i_43, i_44, i_45, i_46, i_47, i_48, i_49, i_50, i_51, i_52, i_53, i_54, i_55]))), (a_8, .inl (cy 1, 90, .inl f_0)), (a_9, .inl (cy 1, 15, .inl f_1)), (a_10, .inl (cy 1, 1050, .inl f_2)), (a_11, .inl (cy 1, 30, .inl f_3)), (a_12, .inl (cy 1, 240, .inl f_4)), (a_13, .inl (cy 1, 450, .inl f_5)), (a_15, .inl (cy 1, 7200, .inl n27)), (a_16, .inl (cy 1, 3, .inl n28)), (a_17, .inl (cy 1, 3, .inl n29)), (a_18, .inl (cy 1, 8, .inl f_9))]) hS
              obtain ⟨w30, w31, w32, w33, w34⟩ := hw
              replace w33 : mm_laid n28 n29 i_29 := w33
              replace w34 : mm_tab n27 n28 i_28 i_29 := w34
              refine lv_iconst (v := 0) hx hb dX12_first_39 (by decide) ?_
              refine lv_istore (lv' := [(5, .int 0), (0, .ref a_0), (1, .int i_0), (2, .int i_1), (3, .int i_2), (4, .int i_3)]) hx hb dX12_first_40 hl (by decide) rfl ?_
              clear hl
              clear ls
              intro ls hl
              have L42_308 : ∀ (n : Nat) (x42_5_304 : Int32) (y42_0_29_305 : Int32) (y42_0_30_306 : Int32) (y42_0_31_307 : Int32) (z42_12_308 : Nat → Int32), mm_rg x42_5_304 0 210 → mm_rg y42_0_29_305 0 8 → mm_ar z42_12_308 0 9 → (210 - x42_5_304.toInt).toNat < n → ∀ (H : Heap) (locs : List Loc), va_P G vwCl [(a_0, .inr (12, [.int 0, .ref a_1, .ref a_2, .ref a_3, .ref a_4, .ref a_5, .int i_5, .int i_6, .int i_7, .int i_8, .int i_9, .long j_0, .int i_10, .int i_11, .int i_12, .int i_13, .ref a_6, .ref a_7, .ref a_8, .ref a_9, .ref a_10, .ref a_11, .ref a_12, .ref a_13, .ref a_14, .ref a_15, .ref a_16, .ref a_17, .ref a_18, .int y42_0_29_305, .int y42_0_30_306, .int y42_0_31_307, .int i_17, .int i_18, .int i_19, .ref a_19, .int i_20, .ref a_20])), (a_6, .inl (cy 1, 5, .inl (mm_g [i_21, i_22, i_23, i_24, i_25]))), (a_7, .inl (cy 1, 30, .inl (mm_g [i_26, i_27, i_28, i_29, i_30, i_31, i_32, i_33, i_34, i_35, i_36, i_37, i_38, i_39, i_40, i_41, i_42, i_43, i_44, i_45, i_46, i_47, i_48, i_49, i_50, i_51, i_52, i_53, i_54, i_55]))), (a_8, .inl (cy 1, 90, .inl f_0)), (a_9, .inl (cy 1, 15, .inl f_1)), (a_10, .inl (cy 1, 1050, .inl f_2)), (a_11, .inl (cy 1, 30, .inl f_3)), (a_12, .inl (cy 1, 240, .inl f_4)), (a_13, .inl (cy 1, 450, .inl f_5)), (a_15, .inl (cy 1, 7200, .inl n27)), (a_16, .inl (cy 1, 3, .inl n28)), (a_17, .inl (cy 1, 3, .inl n29)), (a_18, .inl (cy 1, 8, .inl z42_12_308))] H → va_D A [(a_0, .inr (12, [.int 0, .ref a_1, .ref a_2, .ref a_3, .ref a_4, .ref a_5, .int i_5, .int i_6, .int i_7, .int i_8, .int i_9, .long j_0, .int i_10, .int i_11, .int i_12, .int i_13, .ref a_6, .ref a_7, .ref a_8, .ref a_9, .ref a_10, .ref a_11, .ref a_12, .ref a_13, .ref a_14, .ref a_15, .ref a_16, .ref a_17, .ref a_18, .int y42_0_29_305, .int y42_0_30_306, .int y42_0_31_307, .int i_17, .int i_18, .int i_19, .ref a_19, .int i_20, .ref a_20])), (a_6, .inl (cy 1, 5, .inl (mm_g [i_21, i_22, i_23, i_24, i_25]))), (a_7, .inl (cy 1, 30, .inl (mm_g [i_26, i_27, i_28, i_29, i_30, i_31, i_32, i_33, i_34, i_35, i_36, i_37, i_38, i_39, i_40, i_41, i_42, i_43, i_44, i_45, i_46, i_47, i_48, i_49, i_50, i_51, i_52, i_53, i_54, i_55]))), (a_8, .inl (cy 1, 90, .inl f_0)), (a_9, .inl (cy 1, 15, .inl f_1)), (a_10, .inl (cy 1, 1050, .inl f_2)), (a_11, .inl (cy 1, 30, .inl f_3)), (a_12, .inl (cy 1, 240, .inl f_4)), (a_13, .inl (cy 1, 450, .inl f_5)), (a_15, .inl (cy 1, 7200, .inl n27)), (a_16, .inl (cy 1, 3, .inl n28)), (a_17, .inl (cy 1, 3, .inl n29)), (a_18, .inl (cy 1, 8, .inl z42_12_308))] → va_S A s.heap H locs → ∀ (ls : Array Slot), lv_has ls 6 [(5, .int x42_5_304), (0, .ref a_0), (1, .int i_0), (2, .int i_1), (3, .int i_2), (4, .int i_3)] → W p l e R s m args below meth c H locs 0 0 Q (F0 m 42 ls []) := by
                intro n
                induction n with
                | zero => intro x42_5_304 y42_0_29_305 y42_0_30_306 y42_0_31_307 z42_12_308 rx42_5_304 ry42_0_29_305 rz42_12_308 hm; exact absurd hm (Nat.not_lt_zero _)
                | succ n ih42 =>
                  intro x42_5_304 y42_0_29_305 y42_0_30_306 y42_0_31_307 z42_12_308 rx42_5_304 ry42_0_29_305 rz42_12_308 hm42 H locs hP hD hS ls hl
                  refine lv_iload hx hb dX12_first_42 (lv_at hl 0 rfl) ?_
                  refine lv_aload_n hx hb dX12_first_44 rfl (lv_at hl 1 rfl) ?_
                  refine va_get (D := G) (ci := 12) (v := .ref a_16) (C := RX12) (T := TX12) (N := 38) hx hb hts (mm_i inlX12) hown hK.1 hP 0 rfl rfl 26 (by decide) (mm_h hts mm_w158) (fun _ h9 => h9) rfl dX12_first_45 ?_
                  refine lv_iload_n hx hb dX12_first_48 rfl (lv_at hl 2 rfl) ?_
                  refine va_iald hx hb hK.1 hP 10 1 rfl rfl (mm_in w2 (by decide)) dX12_first_49 ?_
                  refine lv_topi (fun v310 ev310 => ?_)
                  have rv310 : mm_rg v310 0 210 := mm_eqv ev310 (w31 _)
                  have q311 : mm_rg v310 1 210 := mm_laid_ld0 w33 w4 ev310 w2 rv310 (by decide)
                  refine lv_icmp_ge (tgt := 79) hx hb dX12_first_50 (by decide) (fun c312 => ?_) (fun c312 => ?_)
                  · have q313 := mm_leR (mm_le c312) q311 rx42_5_304
                    refine lv_iconst (v := (-1)) hx hb dX12_first_79 (by decide) ?_
                    subst hAe
                    rw [hQ]
                    exact W.iret (v := (-1)) hx hb hr (fun t ht hW => ⟨⟨(-1), (y42_0_29_305, y42_0_30_306, y42_0_31_307, n27, n28, n29, z42_12_308), rfl, ⟨ry42_0_29_305, w30, w31, w32, rz42_12_308, (mm_wk mm_km1 (by decide))⟩, by rw [ht]; exact hP, hK.warm hW, hD⟩, hS.F ht⟩) hS.2.2 dX12_first_80
                  · have q314 := mm_ltL (h := 209) (mm_nle c312) rx42_5_304 q311 (by decide)
                    refine lv_aload_n hx hb dX12_first_53 rfl (lv_at hl 1 rfl) ?_
                    refine lv_iload_n hx hb dX12_first_54 rfl (lv_at hl 2 rfl) ?_
                    refine lv_iload_n hx hb dX12_first_55 rfl (lv_at hl 3 rfl) ?_
                    refine lv_iload hx hb dX12_first_56 (lv_at hl 0 rfl) ?_
                    refine lv_iadd hx hb dX12_first_58 ?_
                    refine lv_topi (fun v315 ev315 => ?_)
                    have rv315 : mm_rg v315 0 1000000209 := mm_add ev315 w3 q314 (by decide) (by decide)
                    have tv315 := mm_addE ev315 w3 q314 (by decide)
                    refine lv_iload_n hx hb dX12_first_59 rfl (lv_at hl 4 rfl) ?_
                    refine mm_fini (va_runV (As := [.int i_0, .int v315, .int i_2]) (rest := []) ⟨hx, hb, hml, hown, hts⟩ (M141_X12_reads l G cy H.size a_0 i_0 v315 i_2 0 a_1 a_2 a_3 a_4 a_5 i_5 i_6 i_7 i_8 i_9 j_0 i_10 i_11 i_12 i_13 a_6 a_7 a_8 a_9 a_10 a_11 a_12 a_13 a_14 a_15 a_16 a_17 a_18 y42_0_29_305 y42_0_30_306 y42_0_31_307 i_17 i_18 i_19 a_19 i_20 a_20 i_26 i_27 i_28 i_29 i_30 i_31 i_32 i_33 i_34 i_35 i_36 i_37 i_38 i_39 i_40 i_41 i_42 i_43 i_44 i_45 i_46 i_47 i_48 i_49 i_50 i_51 i_52 i_53 i_54 i_55 f_0 f_3 f_4 f_5 n27 n28 z42_12_308 w2 (mm_wk rv315 (by decide)) q16 ry42_0_29_305 h6 h7 h8 (mm_wk q7 (by decide)) (mm_wk q18 (by decide)) h11 h12 h13 h14 h15 h16 h17 h18 h19 h20 h21 h22 h23 h24 h25 h26 h27 h28 h29 h30 h31 h32 h33 h34 h35 h36 h39 h40 h41 w30 w31 rz42_12_308 h47 h48 h51 h52 h55 h56 h59 h60 (mm_f1_l w33 w4 w2 (by decide))) (cwV 3 hts (mm_gV mm_w852 mm_w853 mm_w854 mm_w5 mm_w855) rfl rfl rfl hd_X12_reads ⟨by rw [hRf]; exact Nat.le_of_ble_eq_true rfl, by rw [hRl]; exact Nat.le_of_ble_eq_true rfl⟩) (mm_preV hK hZ hS hA hP hD [0, 2, 3, 6, 7, 8, 9, 10, 12] rfl rfl 0 rfl rfl rfl) rfl rfl hl.1 rfl (lv_room (Nat.le_of_ble_eq_true rfl)) dX12_first_60 ⟨by rw [hRc]; exact Nat.le_of_ble_eq_true rfl, by rw [hRs]; exact Nat.le_of_ble_eq_true rfl⟩) hP hD hS hA (fun u : Int32 × Int32 × Int32 × (Nat → Int32) => [(a_0, .inr (12, [.int 0, .ref a_1, .ref a_2, .ref a_3, .ref a_4, .ref a_5, .int i_5, .int i_6, .int i_7, .int i_8, .int i_9, .long j_0, .int i_10, .int i_11, .int i_12, .int i_13, .ref a_6, .ref a_7, .ref a_8, .ref a_9, .ref a_10, .ref a_11, .ref a_12, .ref a_13, .ref a_14, .ref a_15, .ref a_16, .ref a_17, .ref a_18, .int u.1, .int u.2.1, .int u.2.2.1, .int i_17, .int i_18, .int i_19, .ref a_19, .int i_20, .ref a_20])), (a_6, .inl (cy 1, 5, .inl (mm_g [i_21, i_22, i_23, i_24, i_25]))), (a_7, .inl (cy 1, 30, .inl (mm_g [i_26, i_27, i_28, i_29, i_30, i_31, i_32, i_33, i_34, i_35, i_36, i_37, i_38, i_39, i_40, i_41, i_42, i_43, i_44, i_45, i_46, i_47, i_48, i_49, i_50, i_51, i_52, i_53, i_54, i_55]))), (a_8, .inl (cy 1, 90, .inl f_0)), (a_9, .inl (cy 1, 15, .inl f_1)), (a_10, .inl (cy 1, 1050, .inl f_2)), (a_11, .inl (cy 1, 30, .inl f_3)), (a_12, .inl (cy 1, 240, .inl f_4)), (a_13, .inl (cy 1, 450, .inl f_5)), (a_15, .inl (cy 1, 7200, .inl n27)), (a_16, .inl (cy 1, 3, .inl n28)), (a_17, .inl (cy 1, 3, .inl n29)), (a_18, .inl (cy 1, 8, .inl u.2.2.2))]) [0, 2, 3, 6, 7, 8, 9, 10, 12] [1, 4, 5, 11] (n := 13) (fun _ => rfl) (by decide +kernel) (by decide +kernel) rfl (fun _ => rfl) (wr := [(a_6, .inl (cy 1, 5, .inl (mm_g [i_21, i_22, i_23, i_24, i_25]))), (a_9, .inl (cy 1, 15, .inl f_1)), (a_10, .inl (cy 1, 1050, .inl f_2)), (a_17, .inl (cy 1, 3, .inl n29))]) rfl (fun _ => rfl) (fun _ => @rfl _ ([a_0, a_7, a_8, a_11, a_12, a_13, a_15, a_16, a_18] : List Nat)) ?_
                    clear hP hD hS
                    clear H locs
                    intro v320 u
                    obtain ⟨n316, n317, n318, n319⟩ := u
                    intro H locs hw (hP : va_P G vwCl [(a_0, .inr (12, [.int 0, .ref a_1, .ref a_2, .ref a_3, .ref a_4, .ref a_5, .int i_5, .int i_6, .int i_7, .int i_8, .int i_9, .long j_0, .int i_10, .int i_11, .int i_12, .int i_13, .ref a_6, .ref a_7, .ref a_8, .ref a_9, .ref a_10, .ref a_11, .ref a_12, .ref a_13, .ref a_14, .ref a_15, .ref a_16, .ref a_17, .ref a_18, .int n316, .int n317, .int n318, .int i_17, .int i_18, .int i_19, .ref a_19, .int i_20, .ref a_20])), (a_6, .inl (cy 1, 5, .inl (mm_g [i_21, i_22, i_23, i_24, i_25]))), (a_7, .inl (cy 1, 30, .inl (mm_g [i_26, i_27, i_28, i_29, i_30, i_31, i_32, i_33, i_34, i_35, i_36, i_37, i_38, i_39, i_40, i_41, i_42, i_43, i_44, i_45, i_46, i_47, i_48, i_49, i_50, i_51, i_52, i_53, i_54, i_55]))), (a_8, .inl (cy 1, 90, .inl f_0)), (a_9, .inl (cy 1, 15, .inl f_1)), (a_10, .inl (cy 1, 1050, .inl f_2)), (a_11, .inl (cy 1, 30, .inl f_3)), (a_12, .inl (cy 1, 240, .inl f_4)), (a_13, .inl (cy 1, 450, .inl f_5)), (a_15, .inl (cy 1, 7200, .inl n27)), (a_16, .inl (cy 1, 3, .inl n28)), (a_17, .inl (cy 1, 3, .inl n29)), (a_18, .inl (cy 1, 8, .inl n319))] H) (hD : va_D A [(a_0, .inr (12, [.int 0, .ref a_1, .ref a_2, .ref a_3, .ref a_4, .ref a_5, .int i_5, .int i_6, .int i_7, .int i_8, .int i_9, .long j_0, .int i_10, .int i_11, .int i_12, .int i_13, .ref a_6, .ref a_7, .ref a_8, .ref a_9, .ref a_10, .ref a_11, .ref a_12, .ref a_13, .ref a_14, .ref a_15, .ref a_16, .ref a_17, .ref a_18, .int n316, .int n317, .int n318, .int i_17, .int i_18, .int i_19, .ref a_19, .int i_20, .ref a_20])), (a_6, .inl (cy 1, 5, .inl (mm_g [i_21, i_22, i_23, i_24, i_25]))), (a_7, .inl (cy 1, 30, .inl (mm_g [i_26, i_27, i_28, i_29, i_30, i_31, i_32, i_33, i_34, i_35, i_36, i_37, i_38, i_39, i_40, i_41, i_42, i_43, i_44, i_45, i_46, i_47, i_48, i_49, i_50, i_51, i_52, i_53, i_54, i_55]))), (a_8, .inl (cy 1, 90, .inl f_0)), (a_9, .inl (cy 1, 15, .inl f_1)), (a_10, .inl (cy 1, 1050, .inl f_2)), (a_11, .inl (cy 1, 30, .inl f_3)), (a_12, .inl (cy 1, 240, .inl f_4)), (a_13, .inl (cy 1, 450, .inl f_5)), (a_15, .inl (cy 1, 7200, .inl n27)), (a_16, .inl (cy 1, 3, .inl n28)), (a_17, .inl (cy 1, 3, .inl n29)), (a_18, .inl (cy 1, 8, .inl n319))]) hS
                    obtain ⟨w321, w322, hw⟩ := hw
                    obtain ⟨w323, w324⟩ := hw
                    replace w324 : mm_rd n27 n28 f_0 f_3 f_4 f_5 i_0 v315 i_2 i_27 i_28 i_31 v320 := w324
                    refine lv_iload hx hb dX12_first_63 (lv_at hl 5 rfl) ?_
                    refine lv_icmp_ne (tgt := 73) hx hb dX12_first_65 (by decide) (fun c325 => ?_) (fun c325 => ?_)
                    · obtain ⟨v326, ev326⟩ : ∃ y : Int32, y = x42_5_304 + 1 := ⟨_, rfl⟩
                      refine lv_iinc (v := v326) (lv' := [(5, .int v326), (0, .ref a_0), (1, .int i_0), (2, .int i_1), (3, .int i_2), (4, .int i_3)]) hx hb dX12_first_73 hl (k := 0) rfl (by rw [ev326]; rfl) (by decide) rfl ?_
                      clear hl
                      clear ls
                      intro ls hl
                      have rv326 : mm_rg v326 1 210 := mm_add ev326 q314 mm_k1 (by decide) (by decide)
                      have tv326 := mm_addEc ev326 q314 mm_k1 (by decide) (k := 1) (by decide)
                      refine lv_goto (tgt := 42) hx hb dX12_first_76 (by decide) ?_
                      exact ih42 v326 n316 n317 n318 n319 (mm_wk rv326 (by decide)) w321 w322 (mm_mu hm42 tv326 (by decide) (rv326).2 (by decide)) H locs hP hD hS ls (lv_sub hl [0, 1, 2, 3, 4, 5] rfl)
                    · refine lv_iload_n hx hb dX12_first_68 rfl (lv_at hl 3 rfl) ?_
                      refine lv_iload hx hb dX12_first_69 (lv_at hl 0 rfl) ?_
                      refine lv_iadd hx hb dX12_first_71 ?_
                      refine lv_topi (fun v327 ev327 => ?_)
                      have rv327 : mm_rg v327 0 1000000209 := mm_add ev327 w3 q314 (by decide) (by decide)
                      have tv327 := mm_addE ev327 w3 q314 (by decide)
                      subst hAe
                      rw [hQ]
                      exact W.iret (v := v327) hx hb hr (fun t ht hW => ⟨⟨v327, (n316, n317, n318, n27, n28, n29, n319), rfl, ⟨w321, w30, w31, w32, w322, (mm_wk rv327 (by decide))⟩, by rw [ht]; exact hP, hK.warm hW, hD⟩, hS.F ht⟩) hS.2.2 dX12_first_72
              exact L42_308 _ 0 i_14 i_15 i_16 f_9 (mm_wk mm_k0 (by decide)) h0 h45 (Nat.lt_succ_self _) H locs hP hD hS ls (lv_sub hl [0, 1, 2, 3, 4, 5] rfl)
            · exact mm_eqN c26.symm mm_k0 mm_k1 (by decide)

set_option maxHeartbeats 4000000 in
set_option maxRecDepth 100000 in
theorem M148_X12_mostOf (l : Launch) (G : va_G) (cy : Nat → ClassId) (sz : Nat) (a_0 : Nat) (i_0 : Int32) (i_1 : Int32) (i_2 : Int32) (i_3 : Int32) (i_4 : Int32) (a_1 : Nat) (a_2 : Nat) (a_3 : Nat) (a_4 : Nat) (a_5 : Nat) (i_5 : Int32) (i_6 : Int32) (i_7 : Int32) (i_8 : Int32) (i_9 : Int32) (j_0 : Int64) (i_10 : Int32) (i_11 : Int32) (i_12 : Int32) (i_13 : Int32) (a_6 : Nat) (a_7 : Nat) (a_8 : Nat) (a_9 : Nat) (a_10 : Nat) (a_11 : Nat) (a_12 : Nat) (a_13 : Nat) (a_14 : Nat) (a_15 : Nat) (a_16 : Nat) (a_17 : Nat) (a_18 : Nat) (i_14 : Int32) (i_15 : Int32) (i_16 : Int32) (i_17 : Int32) (i_18 : Int32) (i_19 : Int32) (a_19 : Nat) (i_20 : Int32) (a_20 : Nat) (i_21 : Int32) (i_22 : Int32) (i_23 : Int32) (i_24 : Int32) (i_25 : Int32) (i_26 : Int32) (i_27 : Int32) (i_28 : Int32) (i_29 : Int32) (i_30 : Int32) (i_31 : Int32) (i_32 : Int32) (i_33 : Int32) (i_34 : Int32) (i_35 : Int32) (i_36 : Int32) (i_37 : Int32) (i_38 : Int32) (i_39 : Int32) (i_40 : Int32) (i_41 : Int32) (i_42 : Int32) (i_43 : Int32) (i_44 : Int32) (i_45 : Int32) (i_46 : Int32) (i_47 : Int32) (i_48 : Int32) (i_49 : Int32) (i_50 : Int32) (i_51 : Int32) (i_52 : Int32) (i_53 : Int32) (i_54 : Int32) (i_55 : Int32) (f_0 : Nat → Int32) (f_1 : Nat → Int32) (f_2 : Nat → Int32) (f_3 : Nat → Int32) (f_4 : Nat → Int32) (f_5 : Nat → Int32) (f_6 : Nat → Int32) (f_7 : Nat → Int32) (f_8 : Nat → Int32) (f_9 : Nat → Int32) (h0 : mm_rg i_0 0 2) (h1 : mm_rg i_1 0 1000000000) (h2 : mm_rg i_2 1 1000) (h3 : mm_rg i_3 0 5) (h4 : mm_rg i_14 0 8) (h5 : mm_rg i_21 0 601) (h6 : mm_rg i_22 0 601) (h7 : mm_rg i_23 0 601) (h8 : mm_rg i_24 0 601) (h9 : mm_rg i_25 0 601) (h10 : mm_rg i_26 0 10) (h11 : mm_rg i_27 0 99) (h12 : mm_rg i_28 0 9) (h13 : mm_rg i_29 0 3) (h14 : mm_rg i_30 0 6) (h15 : mm_rg i_31 0 30) (h16 : mm_rg i_32 0 10) (h17 : mm_rg i_33 0 99) (h18 : mm_rg i_34 0 9) (h19 : mm_rg i_35 0 3) (h20 : mm_rg i_36 0 6) (h21 : mm_rg i_37 0 30) (h22 : mm_rg i_38 0 10) (h23 : mm_rg i_39 0 99) (h24 : mm_rg i_40 0 9) (h25 : mm_rg i_41 0 3) (h26 : mm_rg i_42 0 6) (h27 : mm_rg i_43 0 30) (h28 : mm_rg i_44 0 10) (h29 : mm_rg i_45 0 99) (h30 : mm_rg i_46 0 9) (h31 : mm_rg i_47 0 3) (h32 : mm_rg i_48 0 6) (h33 : mm_rg i_49 0 30) (h34 : mm_rg i_50 0 10) (h35 : mm_rg i_51 0 99) (h36 : mm_rg i_52 0 9) (h37 : mm_rg i_53 0 3) (h38 : mm_rg i_54 0 6) (h39 : mm_rg i_55 0 30) (h40 : mm_ar f_0 0 99) (h41 : mm_ar f_1 0 7) (h42 : mm_ar f_2 0 9) (h43 : mm_ar f_3 0 8) (h44 : mm_ar f_4 0 9) (h45 : mm_ar f_5 (-1) 99) (h46 : mm_ar f_6 0 9) (h47 : mm_ar f_7 0 210) (h48 : mm_ar f_8 0 210) (h49 : mm_ar f_9 0 9) (h50 : mm_rls f_1 f_2 0 i_28 i_29) (h51 : mm_txs f_3 f_4 0 i_28 i_30) (h52 : mm_acs f_5 0 i_28 i_29 i_31) (h53 : mm_tl i_21 i_29 i_30) (h54 : mm_rls f_1 f_2 1 i_34 i_35) (h55 : mm_txs f_3 f_4 1 i_34 i_36) (h56 : mm_acs f_5 1 i_34 i_35 i_37) (h57 : mm_tl i_22 i_35 i_36) (h58 : mm_rls f_1 f_2 2 i_40 i_41) (h59 : mm_txs f_3 f_4 2 i_40 i_42) (h60 : mm_acs f_5 2 i_40 i_41 i_43) (h61 : mm_tl i_23 i_41 i_42) (h62 : mm_rls f_1 f_2 3 i_46 i_47) (h63 : mm_txs f_3 f_4 3 i_46 i_48) (h64 : mm_acs f_5 3 i_46 i_47 i_49) (h65 : mm_tl i_24 i_47 i_48) (h66 : (i_0 : Int32).toInt < (i_29 : Int32).toInt)  : mm_CI l yX12_mostOf (mm_ws yX12_mostOf cX12_mostOf 10 (some .int)) ({ frames := 14, cells := 0, slots := 0, locals := 300 } : Room) G cy sz [(a_0, .inr (12, [.int i_4, .ref a_1, .ref a_2, .ref a_3, .ref a_4, .ref a_5, .int i_5, .int i_6, .int i_7, .int i_8, .int i_9, .long j_0, .int i_10, .int i_11, .int i_12, .int i_13, .ref a_6, .ref a_7, .ref a_8, .ref a_9, .ref a_10, .ref a_11, .ref a_12, .ref a_13, .ref a_14, .ref a_15, .ref a_16, .ref a_17, .ref a_18, .int i_14, .int i_15, .int i_16, .int i_17, .int i_18, .int i_19, .ref a_19, .int i_20, .ref a_20])), (a_6, .inl (cy 1, 5, .inl (mm_g [i_21, i_22, i_23, i_24, i_25]))), (a_7, .inl (cy 1, 30, .inl (mm_g [i_26, i_27, i_28, i_29, i_30, i_31, i_32, i_33, i_34, i_35, i_36, i_37, i_38, i_39, i_40, i_41, i_42, i_43, i_44, i_45, i_46, i_47, i_48, i_49, i_50, i_51, i_52, i_53, i_54, i_55]))), (a_8, .inl (cy 1, 90, .inl f_0)), (a_9, .inl (cy 1, 15, .inl f_1)), (a_10, .inl (cy 1, 1050, .inl f_2)), (a_11, .inl (cy 1, 30, .inl f_3)), (a_12, .inl (cy 1, 240, .inl f_4)), (a_13, .inl (cy 1, 450, .inl f_5)), (a_15, .inl (cy 1, 7200, .inl f_6)), (a_16, .inl (cy 1, 3, .inl f_7)), (a_17, .inl (cy 1, 3, .inl f_8)), (a_18, .inl (cy 1, 8, .inl f_9))] [.ref a_0, .int i_0, .int i_1, .int i_2, .int i_3, .int 1] (fun u : Int32 × Int32 × Int32 × (Nat → Int32) × (Nat → Int32) × (Nat → Int32) × (Nat → Int32) => [(a_0, .inr (12, [.int i_4, .ref a_1, .ref a_2, .ref a_3, .ref a_4, .ref a_5, .int i_5, .int i_6, .int i_7, .int i_8, .int i_9, .long j_0, .int i_10, .int i_11, .int i_12, .int i_13, .ref a_6, .ref a_7, .ref a_8, .ref a_9, .ref a_10, .ref a_11, .ref a_12, .ref a_13, .ref a_14, .ref a_15, .ref a_16, .ref a_17, .ref a_18, .int u.1, .int u.2.1, .int u.2.2.1, .int i_17, .int i_18, .int i_19, .ref a_19, .int i_20, .ref a_20])), (a_6, .inl (cy 1, 5, .inl (mm_g [i_21, i_22, i_23, i_24, i_25]))), (a_7, .inl (cy 1, 30, .inl (mm_g [i_26, i_27, i_28, i_29, i_30, i_31, i_32, i_33, i_34, i_35, i_36, i_37, i_38, i_39, i_40, i_41, i_42, i_43, i_44, i_45, i_46, i_47, i_48, i_49, i_50, i_51, i_52, i_53, i_54, i_55]))), (a_8, .inl (cy 1, 90, .inl f_0)), (a_9, .inl (cy 1, 15, .inl f_1)), (a_10, .inl (cy 1, 1050, .inl f_2)), (a_11, .inl (cy 1, 30, .inl f_3)), (a_12, .inl (cy 1, 240, .inl f_4)), (a_13, .inl (cy 1, 450, .inl f_5)), (a_15, .inl (cy 1, 7200, .inl u.2.2.2.1)), (a_16, .inl (cy 1, 3, .inl u.2.2.2.2.1)), (a_17, .inl (cy 1, 3, .inl u.2.2.2.2.2.1)), (a_18, .inl (cy 1, 8, .inl u.2.2.2.2.2.2))]) (fun (r : Int32) (u : Int32 × Int32 × Int32 × (Nat → Int32) × (Nat → Int32) × (Nat → Int32) × (Nat → Int32)) => mm_rg u.1 0 8 ∧ mm_ar u.2.2.2.1 0 9 ∧ mm_ar u.2.2.2.2.1 0 210 ∧ mm_ar u.2.2.2.2.2.1 0 210 ∧ mm_ar u.2.2.2.2.2.2 0 9 ∧ mm_rg r 0 1200000000) 0 0 := by
  refine mm_begin (lv := [(0, .ref a_0), (1, .int i_0), (2, .int i_1), (3, .int i_2), (4, .int i_3), (5, .int 1)]) (by decide) (Nat.le_of_ble_eq_true rfl) rfl ?_
  intro p e s m below meth c A ls R args Q H locs hRe hQ hAe hx hb hr hlocks hml hown hnm hts hsz hA hS hP hK hD hZ hl
  have hRf : R.frames = 14 := by rw [hRe]
  have hRl : R.locals = 300 := by rw [hRe]
  have hRc : R.cells = 0 := by rw [hRe]
  have hRs : R.slots = 0 := by rw [hRe]
  have q1 := mm_ltR (lo := 1) h66 h0 h13 (by decide)
  have q2 : mm_rg i_21 1 601 := mm_tl_3 h53 q1 h5 (by decide)
  refine lv_aload_n hx hb dX12_mostOf_0 rfl (lv_at hl 0 rfl) ?_
  refine mm_finv (va_runV (As := []) (rest := []) ⟨hx, hb, hml, hown, hts⟩ (M125_X12_lays l G cy H.size a_0 i_4 a_1 a_2 a_3 a_4 a_5 i_5 i_6 i_7 i_8 i_9 j_0 i_10 i_11 i_12 i_13 a_6 a_7 a_8 a_9 a_10 a_11 a_12 a_13 a_14 a_15 a_16 a_17 a_18 i_14 i_15 i_16 i_17 i_18 i_19 a_19 i_20 a_20 i_21 i_22 i_23 i_24 i_25 i_26 i_27 i_28 i_29 i_30 i_31 i_32 i_33 i_34 i_35 i_36 i_37 i_38 i_39 i_40 i_41 i_42 i_43 i_44 i_45 i_46 i_47 i_48 i_49 i_50 i_51 i_52 i_53 i_54 i_55 f_1 f_2 f_5 f_6 f_7 f_8 (mm_wk q2 (by decide)) h6 h7 h8 h9 h10 h11 h12 (mm_wk q1 (by decide)) h14 h15 h16 h17 h18 h19 h20 h21 h22 h23 h24 h25 h26 h27 h28 h29 h30 h31 h32 h33 h34 h35 h36 h37 h38 h39 h41 h42 h45 h46 h47 h48 h50 h52 h53 h54 h56 h57 h58 h60 h61 h62 h64 h65) (cwV 0 hts (mm_gV mm_w686 mm_w687 mm_w688 mm_w5 mm_w689) rfl rfl rfl hd_X12_lays ⟨by rw [hRf]; exact Nat.le_of_ble_eq_true rfl, by rw [hRl]; exact Nat.le_of_ble_eq_true rfl⟩) (mm_preV hK hZ hS hA hP hD [0, 1, 2, 4, 5, 8, 9, 10, 11] rfl rfl 0 rfl rfl rfl) rfl rfl hl.1 rfl (lv_room (Nat.le_of_ble_eq_true rfl)) dX12_mostOf_1 ⟨by rw [hRc]; exact Nat.le_of_ble_eq_true rfl, by rw [hRs]; exact Nat.le_of_ble_eq_true rfl⟩) hP hD hS hA (fun u : (Nat → Int32) × (Nat → Int32) × (Nat → Int32) => [(a_0, .inr (12, [.int i_4, .ref a_1, .ref a_2, .ref a_3, .ref a_4, .ref a_5, .int i_5, .int i_6, .int i_7, .int i_8, .int i_9, .long j_0, .int i_10, .int i_11, .int i_12, .int i_13, .ref a_6, .ref a_7, .ref a_8, .ref a_9, .ref a_10, .ref a_11, .ref a_12, .ref a_13, .ref a_14, .ref a_15, .ref a_16, .ref a_17, .ref a_18, .int i_14, .int i_15, .int i_16, .int i_17, .int i_18, .int i_19, .ref a_19, .int i_20, .ref a_20])), (a_6, .inl (cy 1, 5, .inl (mm_g [i_21, i_22, i_23, i_24, i_25]))), (a_7, .inl (cy 1, 30, .inl (mm_g [i_26, i_27, i_28, i_29, i_30, i_31, i_32, i_33, i_34, i_35, i_36, i_37, i_38, i_39, i_40, i_41, i_42, i_43, i_44, i_45, i_46, i_47, i_48, i_49, i_50, i_51, i_52, i_53, i_54, i_55]))), (a_8, .inl (cy 1, 90, .inl f_0)), (a_9, .inl (cy 1, 15, .inl f_1)), (a_10, .inl (cy 1, 1050, .inl f_2)), (a_11, .inl (cy 1, 30, .inl f_3)), (a_12, .inl (cy 1, 240, .inl f_4)), (a_13, .inl (cy 1, 450, .inl f_5)), (a_15, .inl (cy 1, 7200, .inl u.1)), (a_16, .inl (cy 1, 3, .inl u.2.1)), (a_17, .inl (cy 1, 3, .inl u.2.2)), (a_18, .inl (cy 1, 8, .inl f_9))]) [0, 1, 2, 4, 5, 8, 9, 10, 11] [3, 6, 7, 12] (n := 13) (fun _ => rfl) (by decide +kernel) (by decide +kernel) rfl (fun _ => rfl) (wr := [(a_8, .inl (cy 1, 90, .inl f_0)), (a_11, .inl (cy 1, 30, .inl f_3)), (a_12, .inl (cy 1, 240, .inl f_4)), (a_18, .inl (cy 1, 8, .inl f_9))]) rfl (fun _ => rfl) (fun _ => @rfl _ ([a_0, a_6, a_7, a_9, a_10, a_13, a_15, a_16, a_17] : List Nat)) ?_
  clear hP hD hS
  clear H locs
  intro u
  obtain ⟨n3, n4, n5⟩ := u
  intro H locs hw (hP : va_P G vwCl [(a_0, .inr (12, [.int i_4, .ref a_1, .ref a_2, .ref a_3, .ref a_4, .ref a_5, .int i_5, .int i_6, .int i_7, .int i_8, .int i_9, .long j_0, .int i_10, .int i_11, .int i_12, .int i_13, .ref a_6, .ref a_7, .ref a_8, .ref a_9, .ref a_10, .ref a_11, .ref a_12, .ref a_13, .ref a_14, .ref a_15, .ref a_16, .ref a_17, .ref a_18, .int i_14, .int i_15, .int i_16, .int i_17, .int i_18, .int i_19, .ref a_19, .int i_20, .ref a_20])), (a_6, .inl (cy 1, 5, .inl (mm_g [i_21, i_22, i_23, i_24, i_25]))), (a_7, .inl (cy 1, 30, .inl (mm_g [i_26, i_27, i_28, i_29, i_30, i_31, i_32, i_33, i_34, i_35, i_36, i_37, i_38, i_39, i_40, i_41, i_42, i_43, i_44, i_45, i_46, i_47, i_48, i_49, i_50, i_51, i_52, i_53, i_54, i_55]))), (a_8, .inl (cy 1, 90, .inl f_0)), (a_9, .inl (cy 1, 15, .inl f_1)), (a_10, .inl (cy 1, 1050, .inl f_2)), (a_11, .inl (cy 1, 30, .inl f_3)), (a_12, .inl (cy 1, 240, .inl f_4)), (a_13, .inl (cy 1, 450, .inl f_5)), (a_15, .inl (cy 1, 7200, .inl n3)), (a_16, .inl (cy 1, 3, .inl n4)), (a_17, .inl (cy 1, 3, .inl n5)), (a_18, .inl (cy 1, 8, .inl f_9))] H) (hD : va_D A [(a_0, .inr (12, [.int i_4, .ref a_1, .ref a_2, .ref a_3, .ref a_4, .ref a_5, .int i_5, .int i_6, .int i_7, .int i_8, .int i_9, .long j_0, .int i_10, .int i_11, .int i_12, .int i_13, .ref a_6, .ref a_7, .ref a_8, .ref a_9, .ref a_10, .ref a_11, .ref a_12, .ref a_13, .ref a_14, .ref a_15, .ref a_16, .ref a_17, .ref a_18, .int i_14, .int i_15, .int i_16, .int i_17, .int i_18, .int i_19, .ref a_19, .int i_20, .ref a_20])), (a_6, .inl (cy 1, 5, .inl (mm_g [i_21, i_22, i_23, i_24, i_25]))), (a_7, .inl (cy 1, 30, .inl (mm_g [i_26, i_27, i_28, i_29, i_30, i_31, i_32, i_33, i_34, i_35, i_36, i_37, i_38, i_39, i_40, i_41, i_42, i_43, i_44, i_45, i_46, i_47, i_48, i_49, i_50, i_51, i_52, i_53, i_54, i_55]))), (a_8, .inl (cy 1, 90, .inl f_0)), (a_9, .inl (cy 1, 15, .inl f_1)), (a_10, .inl (cy 1, 1050, .inl f_2)), (a_11, .inl (cy 1, 30, .inl f_3)), (a_12, .inl (cy 1, 240, .inl f_4)), (a_13, .inl (cy 1, 450, .inl f_5)), (a_15, .inl (cy 1, 7200, .inl n3)), (a_16, .inl (cy 1, 3, .inl n4)), (a_17, .inl (cy 1, 3, .inl n5)), (a_18, .inl (cy 1, 8, .inl f_9))]) hS
  obtain ⟨w6, w7, w8, w9, w10⟩ := hw
  replace w9 : mm_laid n4 n5 i_29 := w9
  replace w10 : mm_tab n3 n4 i_28 i_29 := w10
  refine lv_iload_n hx hb dX12_mostOf_4 rfl (lv_at hl 2 rfl) ?_
  refine lv_istore (lv' := [(6, .int i_1), (0, .ref a_0), (1, .int i_0), (2, .int i_1), (3, .int i_2), (4, .int i_3), (5, .int 1)]) hx hb dX12_mostOf_5 hl (by decide) rfl ?_
  clear hl
  clear ls
  intro ls hl
  refine lv_iload hx hb dX12_mostOf_7 (lv_at hl 6 rfl) ?_
  refine lv_aload_n hx hb dX12_mostOf_9 rfl (lv_at hl 1 rfl) ?_
  refine lv_iload_n hx hb dX12_mostOf_10 rfl (lv_at hl 2 rfl) ?_
  refine lv_iload_n hx hb dX12_mostOf_11 rfl (lv_at hl 3 rfl) ?_
  refine lv_iload hx hb dX12_mostOf_12 (lv_at hl 5 rfl) ?_
  refine mm_fini (va_runV (As := [.int i_0, .int i_1, .int i_3]) (rest := [.int 1]) ⟨hx, hb, hml, hown, hts⟩ (M141_X12_reads l G cy H.size a_0 i_0 i_1 i_3 i_4 a_1 a_2 a_3 a_4 a_5 i_5 i_6 i_7 i_8 i_9 j_0 i_10 i_11 i_12 i_13 a_6 a_7 a_8 a_9 a_10 a_11 a_12 a_13 a_14 a_15 a_16 a_17 a_18 i_14 i_15 i_16 i_17 i_18 i_19 a_19 i_20 a_20 i_26 i_27 i_28 i_29 i_30 i_31 i_32 i_33 i_34 i_35 i_36 i_37 i_38 i_39 i_40 i_41 i_42 i_43 i_44 i_45 i_46 i_47 i_48 i_49 i_50 i_51 i_52 i_53 i_54 i_55 f_0 f_3 f_4 f_5 n3 n4 f_9 h0 (mm_wk h1 (by decide)) h3 h4 h10 h11 h12 (mm_wk q1 (by decide)) h14 h15 h16 h17 h18 h19 h20 h21 h22 h23 h24 h25 h26 h27 h28 h29 h30 h31 h32 h33 h34 h35 h36 h37 h38 h39 h40 h43 h44 h45 w6 w7 h49 h51 h52 h55 h56 h59 h60 h63 h64 (mm_f1_l w9 h66 h0 (by decide))) (cwV 3 hts (mm_gV mm_w852 mm_w853 mm_w854 mm_w5 mm_w855) rfl rfl rfl hd_X12_reads ⟨by rw [hRf]; exact Nat.le_of_ble_eq_true rfl, by rw [hRl]; exact Nat.le_of_ble_eq_true rfl⟩) (mm_preV hK hZ hS hA hP hD [0, 2, 3, 6, 7, 8, 9, 10, 12] rfl rfl 0 rfl rfl rfl) rfl rfl hl.1 rfl (lv_room (Nat.le_of_ble_eq_true rfl)) dX12_mostOf_14 ⟨by rw [hRc]; exact Nat.le_of_ble_eq_true rfl, by rw [hRs]; exact Nat.le_of_ble_eq_true rfl⟩) hP hD hS hA (fun u : Int32 × Int32 × Int32 × (Nat → Int32) => [(a_0, .inr (12, [.int i_4, .ref a_1, .ref a_2, .ref a_3, .ref a_4, .ref a_5, .int i_5, .int i_6, .int i_7, .int i_8, .int i_9, .long j_0, .int i_10, .int i_11, .int i_12, .int i_13, .ref a_6, .ref a_7, .ref a_8, .ref a_9, .ref a_10, .ref a_11, .ref a_12, .ref a_13, .ref a_14, .ref a_15, .ref a_16, .ref a_17, .ref a_18, .int u.1, .int u.2.1, .int u.2.2.1, .int i_17, .int i_18, .int i_19, .ref a_19, .int i_20, .ref a_20])), (a_6, .inl (cy 1, 5, .inl (mm_g [i_21, i_22, i_23, i_24, i_25]))), (a_7, .inl (cy 1, 30, .inl (mm_g [i_26, i_27, i_28, i_29, i_30, i_31, i_32, i_33, i_34, i_35, i_36, i_37, i_38, i_39, i_40, i_41, i_42, i_43, i_44, i_45, i_46, i_47, i_48, i_49, i_50, i_51, i_52, i_53, i_54, i_55]))), (a_8, .inl (cy 1, 90, .inl f_0)), (a_9, .inl (cy 1, 15, .inl f_1)), (a_10, .inl (cy 1, 1050, .inl f_2)), (a_11, .inl (cy 1, 30, .inl f_3)), (a_12, .inl (cy 1, 240, .inl f_4)), (a_13, .inl (cy 1, 450, .inl f_5)), (a_15, .inl (cy 1, 7200, .inl n3)), (a_16, .inl (cy 1, 3, .inl n4)), (a_17, .inl (cy 1, 3, .inl n5)), (a_18, .inl (cy 1, 8, .inl u.2.2.2))]) [0, 2, 3, 6, 7, 8, 9, 10, 12] [1, 4, 5, 11] (n := 13) (fun _ => rfl) (by decide +kernel) (by decide +kernel) rfl (fun _ => rfl) (wr := [(a_6, .inl (cy 1, 5, .inl (mm_g [i_21, i_22, i_23, i_24, i_25]))), (a_9, .inl (cy 1, 15, .inl f_1)), (a_10, .inl (cy 1, 1050, .inl f_2)), (a_17, .inl (cy 1, 3, .inl n5))]) rfl (fun _ => rfl) (fun _ => @rfl _ ([a_0, a_7, a_8, a_11, a_12, a_13, a_15, a_16, a_18] : List Nat)) ?_
  clear hP hD hS
  clear H locs
  intro v15 u
  obtain ⟨n11, n12, n13, n14⟩ := u
  intro H locs hw (hP : va_P G vwCl [(a_0, .inr (12, [.int i_4, .ref a_1, .ref a_2, .ref a_3, .ref a_4, .ref a_5, .int i_5, .int i_6, .int i_7, .int i_8, .int i_9, .long j_0, .int i_10, .int i_11, .int i_12, .int i_13, .ref a_6, .ref a_7, .ref a_8, .ref a_9, .ref a_10, .ref a_11, .ref a_12, .ref a_13, .ref a_14, .ref a_15, .ref a_16, .ref a_17, .ref a_18, .int n11, .int n12, .int n13, .int i_17, .int i_18, .int i_19, .ref a_19, .int i_20, .ref a_20])), (a_6, .inl (cy 1, 5, .inl (mm_g [i_21, i_22, i_23, i_24, i_25]))), (a_7, .inl (cy 1, 30, .inl (mm_g [i_26, i_27, i_28, i_29, i_30, i_31, i_32, i_33, i_34, i_35, i_36, i_37, i_38, i_39, i_40, i_41, i_42, i_43, i_44, i_45, i_46, i_47, i_48, i_49, i_50, i_51, i_52, i_53, i_54, i_55]))), (a_8, .inl (cy 1, 90, .inl f_0)), (a_9, .inl (cy 1, 15, .inl f_1)), (a_10, .inl (cy 1, 1050, .inl f_2)), (a_11, .inl (cy 1, 30, .inl f_3)), (a_12, .inl (cy 1, 240, .inl f_4)), (a_13, .inl (cy 1, 450, .inl f_5)), (a_15, .inl (cy 1, 7200, .inl n3)), (a_16, .inl (cy 1, 3, .inl n4)), (a_17, .inl (cy 1, 3, .inl n5)), (a_18, .inl (cy 1, 8, .inl n14))] H) (hD : va_D A [(a_0, .inr (12, [.int i_4, .ref a_1, .ref a_2, .ref a_3, .ref a_4, .ref a_5, .int i_5, .int i_6, .int i_7, .int i_8, .int i_9, .long j_0, .int i_10, .int i_11, .int i_12, .int i_13, .ref a_6, .ref a_7, .ref a_8, .ref a_9, .ref a_10, .ref a_11, .ref a_12, .ref a_13, .ref a_14, .ref a_15, .ref a_16, .ref a_17, .ref a_18, .int n11, .int n12, .int n13, .int i_17, .int i_18, .int i_19, .ref a_19, .int i_20, .ref a_20])), (a_6, .inl (cy 1, 5, .inl (mm_g [i_21, i_22, i_23, i_24, i_25]))), (a_7, .inl (cy 1, 30, .inl (mm_g [i_26, i_27, i_28, i_29, i_30, i_31, i_32, i_33, i_34, i_35, i_36, i_37, i_38, i_39, i_40, i_41, i_42, i_43, i_44, i_45, i_46, i_47, i_48, i_49, i_50, i_51, i_52, i_53, i_54, i_55]))), (a_8, .inl (cy 1, 90, .inl f_0)), (a_9, .inl (cy 1, 15, .inl f_1)), (a_10, .inl (cy 1, 1050, .inl f_2)), (a_11, .inl (cy 1, 30, .inl f_3)), (a_12, .inl (cy 1, 240, .inl f_4)), (a_13, .inl (cy 1, 450, .inl f_5)), (a_15, .inl (cy 1, 7200, .inl n3)), (a_16, .inl (cy 1, 3, .inl n4)), (a_17, .inl (cy 1, 3, .inl n5)), (a_18, .inl (cy 1, 8, .inl n14))]) hS
  obtain ⟨w16, w17, hw⟩ := hw
  obtain ⟨w18, w19⟩ := hw
  replace w19 : mm_rd n3 n4 f_0 f_3 f_4 f_5 i_0 i_1 i_3 i_27 i_28 i_31 v15 := w19
  refine lv_imul hx hb dX12_mostOf_17 ?_
  refine lv_topi (fun v20 ev20 => ?_)
  have rv20 : mm_rg v20 0 9999 := mm_mul ev20 mm_k1 w18 (by decide) (by decide)
  have tv20 := mm_mulEc ev20 mm_k1 w18 (by decide) (k := 1) (by decide)
  refine lv_istore (lv' := [(7, .int v20), (6, .int i_1), (0, .ref a_0), (1, .int i_0), (2, .int i_1), (3, .int i_2), (4, .int i_3), (5, .int 1)]) hx hb dX12_mostOf_18 hl (by decide) rfl ?_
  clear hl
  clear ls
  intro ls hl
  refine lv_iconst (v := 1) hx hb dX12_mostOf_20 (by decide) ?_
  refine lv_istore (lv' := [(8, .int 1), (7, .int v20), (6, .int i_1), (0, .ref a_0), (1, .int i_0), (2, .int i_1), (3, .int i_2), (4, .int i_3), (5, .int 1)]) hx hb dX12_mostOf_21 hl (by decide) rfl ?_
  clear hl
  clear ls
  intro ls hl
  have L23_400 : ∀ (n : Nat) (x23_8_394 : Int32) (x23_7_395 : Int32) (x23_6_396 : Int32) (y23_0_29_397 : Int32) (y23_0_30_398 : Int32) (y23_0_31_399 : Int32) (z23_12_400 : Nat → Int32), mm_rg x23_8_394 1 210 → mm_rg x23_7_395 0 9999 → mm_rg x23_6_396 0 1200000000 → mm_rg y23_0_29_397 0 8 → mm_ar z23_12_400 0 9 → (210 - x23_8_394.toInt).toNat < n → ∀ (H : Heap) (locs : List Loc), va_P G vwCl [(a_0, .inr (12, [.int i_4, .ref a_1, .ref a_2, .ref a_3, .ref a_4, .ref a_5, .int i_5, .int i_6, .int i_7, .int i_8, .int i_9, .long j_0, .int i_10, .int i_11, .int i_12, .int i_13, .ref a_6, .ref a_7, .ref a_8, .ref a_9, .ref a_10, .ref a_11, .ref a_12, .ref a_13, .ref a_14, .ref a_15, .ref a_16, .ref a_17, .ref a_18, .int y23_0_29_397, .int y23_0_30_398, .int y23_0_31_399, .int i_17, .int i_18, .int i_19, .ref a_19, .int i_20, .ref a_20])), (a_6, .inl (cy 1, 5, .inl (mm_g [i_21, i_22, i_23, i_24, i_25]))), (a_7, .inl (cy 1, 30, .inl (mm_g [i_26, i_27, i_28, i_29, i_30, i_31, i_32, i_33, i_34, i_35, i_36, i_37, i_38, i_39, i_40, i_41, i_42, i_43, i_44, i_45, i_46, i_47, i_48, i_49, i_50, i_51, i_52, i_53, i_54, i_55]))), (a_8, .inl (cy 1, 90, .inl f_0)), (a_9, .inl (cy 1, 15, .inl f_1)), (a_10, .inl (cy 1, 1050, .inl f_2)), (a_11, .inl (cy 1, 30, .inl f_3)), (a_12, .inl (cy 1, 240, .inl f_4)), (a_13, .inl (cy 1, 450, .inl f_5)), (a_15, .inl (cy 1, 7200, .inl n3)), (a_16, .inl (cy 1, 3, .inl n4)), (a_17, .inl (cy 1, 3, .inl n5)), (a_18, .inl (cy 1, 8, .inl z23_12_400))] H → va_D A [(a_0, .inr (12, [.int i_4, .ref a_1, .ref a_2, .ref a_3, .ref a_4, .ref a_5, .int i_5, .int i_6, .int i_7, .int i_8, .int i_9, .long j_0, .int i_10, .int i_11, .int i_12, .int i_13, .ref a_6, .ref a_7, .ref a_8, .ref a_9, .ref a_10, .ref a_11, .ref a_12, .ref a_13, .ref a_14, .ref a_15, .ref a_16, .ref a_17, .ref a_18, .int y23_0_29_397, .int y23_0_30_398, .int y23_0_31_399, .int i_17, .int i_18, .int i_19, .ref a_19, .int i_20, .ref a_20])), (a_6, .inl (cy 1, 5, .inl (mm_g [i_21, i_22, i_23, i_24, i_25]))), (a_7, .inl (cy 1, 30, .inl (mm_g [i_26, i_27, i_28, i_29, i_30, i_31, i_32, i_33, i_34, i_35, i_36, i_37, i_38, i_39, i_40, i_41, i_42, i_43, i_44, i_45, i_46, i_47, i_48, i_49, i_50, i_51, i_52, i_53, i_54, i_55]))), (a_8, .inl (cy 1, 90, .inl f_0)), (a_9, .inl (cy 1, 15, .inl f_1)), (a_10, .inl (cy 1, 1050, .inl f_2)), (a_11, .inl (cy 1, 30, .inl f_3)), (a_12, .inl (cy 1, 240, .inl f_4)), (a_13, .inl (cy 1, 450, .inl f_5)), (a_15, .inl (cy 1, 7200, .inl n3)), (a_16, .inl (cy 1, 3, .inl n4)), (a_17, .inl (cy 1, 3, .inl n5)), (a_18, .inl (cy 1, 8, .inl z23_12_400))] → va_S A s.heap H locs → ∀ (ls : Array Slot), lv_has ls 10 [(8, .int x23_8_394), (7, .int x23_7_395), (6, .int x23_6_396), (0, .ref a_0), (1, .int i_0), (2, .int i_1), (3, .int i_2), (4, .int i_3), (5, .int 1)] → W p l e R s m args below meth c H locs 0 0 Q (F0 m 23 ls []) := by
    intro n
    induction n with
    | zero => intro x23_8_394 x23_7_395 x23_6_396 y23_0_29_397 y23_0_30_398 y23_0_31_399 z23_12_400 rx23_8_394 rx23_7_395 rx23_6_396 ry23_0_29_397 rz23_12_400 hm; exact absurd hm (Nat.not_lt_zero _)
    | succ n ih23 =>
      intro x23_8_394 x23_7_395 x23_6_396 y23_0_29_397 y23_0_30_398 y23_0_31_399 z23_12_400 rx23_8_394 rx23_7_395 rx23_6_396 ry23_0_29_397 rz23_12_400 hm23 H locs hP hD hS ls hl
      refine lv_iload hx hb dX12_mostOf_23 (lv_at hl 0 rfl) ?_
      refine lv_iload_n hx hb dX12_mostOf_25 rfl (lv_at hl 6 rfl) ?_
      refine lv_icmp_ge (tgt := 82) hx hb dX12_mostOf_26 (by decide) (fun c402 => ?_) (fun c402 => ?_)
      · have q403 := mm_leL (mm_le c402) h2 rx23_8_394
        refine lv_iload hx hb dX12_mostOf_82 (lv_at hl 2 rfl) ?_
        subst hAe
        rw [hQ]
        exact W.iret (v := x23_6_396) hx hb hr (fun t ht hW => ⟨⟨x23_6_396, (y23_0_29_397, y23_0_30_398, y23_0_31_399, n3, n4, n5, z23_12_400), rfl, ⟨ry23_0_29_397, w6, w7, w8, rz23_12_400, rx23_6_396⟩, by rw [ht]; exact hP, hK.warm hW, hD⟩, hS.F ht⟩) hS.2.2 dX12_mostOf_84
      · have q404 := mm_ltR (lo := 2) (mm_nle c402) rx23_8_394 h2 (by decide)
        refine lv_iload hx hb dX12_mostOf_29 (lv_at hl 0 rfl) ?_
        refine lv_aload_n hx hb dX12_mostOf_31 rfl (lv_at hl 3 rfl) ?_
        refine va_get (D := G) (ci := 12) (v := .ref a_16) (C := RX12) (T := TX12) (N := 38) hx hb hts (mm_i inlX12) hown hK.1 hP 0 rfl rfl 26 (by decide) (mm_h hts mm_w158) (fun _ h9 => h9) rfl dX12_mostOf_32 ?_
        refine lv_iload_n hx hb dX12_mostOf_35 rfl (lv_at hl 4 rfl) ?_
        refine va_iald hx hb hK.1 hP 10 1 rfl rfl (mm_in h0 (by decide)) dX12_mostOf_36 ?_
        refine lv_topi (fun v405 ev405 => ?_)
        have rv405 : mm_rg v405 0 210 := mm_eqv ev405 (w7 _)
        have q406 : mm_rg v405 1 210 := mm_laid_ld0 w9 h66 ev405 h0 rv405 (by decide)
        refine lv_icmp_ge (tgt := 82) hx hb dX12_mostOf_37 (by decide) (fun c407 => ?_) (fun c407 => ?_)
        · refine lv_iload hx hb dX12_mostOf_82 (lv_at hl 2 rfl) ?_
          subst hAe
          rw [hQ]
          exact W.iret (v := x23_6_396) hx hb hr (fun t ht hW => ⟨⟨x23_6_396, (y23_0_29_397, y23_0_30_398, y23_0_31_399, n3, n4, n5, z23_12_400), rfl, ⟨ry23_0_29_397, w6, w7, w8, rz23_12_400, rx23_6_396⟩, by rw [ht]; exact hP, hK.warm hW, hD⟩, hS.F ht⟩) hS.2.2 dX12_mostOf_84
        · have q408 := mm_ltL (h := 209) (mm_nle c407) rx23_8_394 q406 (by decide)
          have q409 := mm_ltR (lo := 2) (mm_nle c407) rx23_8_394 q406 (by decide)
          refine lv_iload hx hb dX12_mostOf_40 (lv_at hl 8 rfl) ?_
          refine lv_aload_n hx hb dX12_mostOf_42 rfl (lv_at hl 3 rfl) ?_
          refine lv_iload_n hx hb dX12_mostOf_43 rfl (lv_at hl 4 rfl) ?_
          refine lv_iload_n hx hb dX12_mostOf_44 rfl (lv_at hl 5 rfl) ?_
          refine lv_iload hx hb dX12_mostOf_45 (lv_at hl 0 rfl) ?_
          refine lv_iadd hx hb dX12_mostOf_47 ?_
          refine lv_topi (fun v410 ev410 => ?_)
          have rv410 : mm_rg v410 1 1000000209 := mm_add ev410 h1 q408 (by decide) (by decide)
          have tv410 := mm_addE ev410 h1 q408 (by decide)
          refine lv_iload hx hb dX12_mostOf_48 (lv_at hl 7 rfl) ?_
          refine mm_fini (va_runV (As := [.int i_0, .int v410, .int i_3]) (rest := [.int 1]) ⟨hx, hb, hml, hown, hts⟩ (M141_X12_reads l G cy H.size a_0 i_0 v410 i_3 i_4 a_1 a_2 a_3 a_4 a_5 i_5 i_6 i_7 i_8 i_9 j_0 i_10 i_11 i_12 i_13 a_6 a_7 a_8 a_9 a_10 a_11 a_12 a_13 a_14 a_15 a_16 a_17 a_18 y23_0_29_397 y23_0_30_398 y23_0_31_399 i_17 i_18 i_19 a_19 i_20 a_20 i_26 i_27 i_28 i_29 i_30 i_31 i_32 i_33 i_34 i_35 i_36 i_37 i_38 i_39 i_40 i_41 i_42 i_43 i_44 i_45 i_46 i_47 i_48 i_49 i_50 i_51 i_52 i_53 i_54 i_55 f_0 f_3 f_4 f_5 n3 n4 z23_12_400 h0 (mm_wk rv410 (by decide)) h3 ry23_0_29_397 h10 h11 h12 (mm_wk q1 (by decide)) h14 h15 h16 h17 h18 h19 h20 h21 h22 h23 h24 h25 h26 h27 h28 h29 h30 h31 h32 h33 h34 h35 h36 h37 h38 h39 h40 h43 h44 h45 w6 w7 rz23_12_400 h51 h52 h55 h56 h59 h60 h63 h64 (mm_f1_l w9 h66 h0 (by decide))) (cwV 3 hts (mm_gV mm_w852 mm_w853 mm_w854 mm_w5 mm_w855) rfl rfl rfl hd_X12_reads ⟨by rw [hRf]; exact Nat.le_of_ble_eq_true rfl, by rw [hRl]; exact Nat.le_of_ble_eq_true rfl⟩) (mm_preV hK hZ hS hA hP hD [0, 2, 3, 6, 7, 8, 9, 10, 12] rfl rfl 0 rfl rfl rfl) rfl rfl hl.1 rfl (lv_room (Nat.le_of_ble_eq_true rfl)) dX12_mostOf_50 ⟨by rw [hRc]; exact Nat.le_of_ble_eq_true rfl, by rw [hRs]; exact Nat.le_of_ble_eq_true rfl⟩) hP hD hS hA (fun u : Int32 × Int32 × Int32 × (Nat → Int32) => [(a_0, .inr (12, [.int i_4, .ref a_1, .ref a_2, .ref a_3, .ref a_4, .ref a_5, .int i_5, .int i_6, .int i_7, .int i_8, .int i_9, .long j_0, .int i_10, .int i_11, .int i_12, .int i_13, .ref a_6, .ref a_7, .ref a_8, .ref a_9, .ref a_10, .ref a_11, .ref a_12, .ref a_13, .ref a_14, .ref a_15, .ref a_16, .ref a_17, .ref a_18, .int u.1, .int u.2.1, .int u.2.2.1, .int i_17, .int i_18, .int i_19, .ref a_19, .int i_20, .ref a_20])), (a_6, .inl (cy 1, 5, .inl (mm_g [i_21, i_22, i_23, i_24, i_25]))), (a_7, .inl (cy 1, 30, .inl (mm_g [i_26, i_27, i_28, i_29, i_30, i_31, i_32, i_33, i_34, i_35, i_36, i_37, i_38, i_39, i_40, i_41, i_42, i_43, i_44, i_45, i_46, i_47, i_48, i_49, i_50, i_51, i_52, i_53, i_54, i_55]))), (a_8, .inl (cy 1, 90, .inl f_0)), (a_9, .inl (cy 1, 15, .inl f_1)), (a_10, .inl (cy 1, 1050, .inl f_2)), (a_11, .inl (cy 1, 30, .inl f_3)), (a_12, .inl (cy 1, 240, .inl f_4)), (a_13, .inl (cy 1, 450, .inl f_5)), (a_15, .inl (cy 1, 7200, .inl n3)), (a_16, .inl (cy 1, 3, .inl n4)), (a_17, .inl (cy 1, 3, .inl n5)), (a_18, .inl (cy 1, 8, .inl u.2.2.2))]) [0, 2, 3, 6, 7, 8, 9, 10, 12] [1, 4, 5, 11] (n := 13) (fun _ => rfl) (by decide +kernel) (by decide +kernel) rfl (fun _ => rfl) (wr := [(a_6, .inl (cy 1, 5, .inl (mm_g [i_21, i_22, i_23, i_24, i_25]))), (a_9, .inl (cy 1, 15, .inl f_1)), (a_10, .inl (cy 1, 1050, .inl f_2)), (a_17, .inl (cy 1, 3, .inl n5))]) rfl (fun _ => rfl) (fun _ => @rfl _ ([a_0, a_7, a_8, a_11, a_12, a_13, a_15, a_16, a_18] : List Nat)) ?_
          clear hP hD hS
          clear H locs
          intro v415 u
          obtain ⟨n411, n412, n413, n414⟩ := u
          intro H locs hw (hP : va_P G vwCl [(a_0, .inr (12, [.int i_4, .ref a_1, .ref a_2, .ref a_3, .ref a_4, .ref a_5, .int i_5, .int i_6, .int i_7, .int i_8, .int i_9, .long j_0, .int i_10, .int i_11, .int i_12, .int i_13, .ref a_6, .ref a_7, .ref a_8, .ref a_9, .ref a_10, .ref a_11, .ref a_12, .ref a_13, .ref a_14, .ref a_15, .ref a_16, .ref a_17, .ref a_18, .int n411, .int n412, .int n413, .int i_17, .int i_18, .int i_19, .ref a_19, .int i_20, .ref a_20])), (a_6, .inl (cy 1, 5, .inl (mm_g [i_21, i_22, i_23, i_24, i_25]))), (a_7, .inl (cy 1, 30, .inl (mm_g [i_26, i_27, i_28, i_29, i_30, i_31, i_32, i_33, i_34, i_35, i_36, i_37, i_38, i_39, i_40, i_41, i_42, i_43, i_44, i_45, i_46, i_47, i_48, i_49, i_50, i_51, i_52, i_53, i_54, i_55]))), (a_8, .inl (cy 1, 90, .inl f_0)), (a_9, .inl (cy 1, 15, .inl f_1)), (a_10, .inl (cy 1, 1050, .inl f_2)), (a_11, .inl (cy 1, 30, .inl f_3)), (a_12, .inl (cy 1, 240, .inl f_4)), (a_13, .inl (cy 1, 450, .inl f_5)), (a_15, .inl (cy 1, 7200, .inl n3)), (a_16, .inl (cy 1, 3, .inl n4)), (a_17, .inl (cy 1, 3, .inl n5)), (a_18, .inl (cy 1, 8, .inl n414))] H) (hD : va_D A [(a_0, .inr (12, [.int i_4, .ref a_1, .ref a_2, .ref a_3, .ref a_4, .ref a_5, .int i_5, .int i_6, .int i_7, .int i_8, .int i_9, .long j_0, .int i_10, .int i_11, .int i_12, .int i_13, .ref a_6, .ref a_7, .ref a_8, .ref a_9, .ref a_10, .ref a_11, .ref a_12, .ref a_13, .ref a_14, .ref a_15, .ref a_16, .ref a_17, .ref a_18, .int n411, .int n412, .int n413, .int i_17, .int i_18, .int i_19, .ref a_19, .int i_20, .ref a_20])), (a_6, .inl (cy 1, 5, .inl (mm_g [i_21, i_22, i_23, i_24, i_25]))), (a_7, .inl (cy 1, 30, .inl (mm_g [i_26, i_27, i_28, i_29, i_30, i_31, i_32, i_33, i_34, i_35, i_36, i_37, i_38, i_39, i_40, i_41, i_42, i_43, i_44, i_45, i_46, i_47, i_48, i_49, i_50, i_51, i_52, i_53, i_54, i_55]))), (a_8, .inl (cy 1, 90, .inl f_0)), (a_9, .inl (cy 1, 15, .inl f_1)), (a_10, .inl (cy 1, 1050, .inl f_2)), (a_11, .inl (cy 1, 30, .inl f_3)), (a_12, .inl (cy 1, 240, .inl f_4)), (a_13, .inl (cy 1, 450, .inl f_5)), (a_15, .inl (cy 1, 7200, .inl n3)), (a_16, .inl (cy 1, 3, .inl n4)), (a_17, .inl (cy 1, 3, .inl n5)), (a_18, .inl (cy 1, 8, .inl n414))]) hS
          obtain ⟨w416, w417, hw⟩ := hw
          obtain ⟨w418, w419⟩ := hw
          replace w419 : mm_rd n3 n4 f_0 f_3 f_4 f_5 i_0 v410 i_3 i_27 i_28 i_31 v415 := w419
          refine lv_imul hx hb dX12_mostOf_53 ?_
          refine lv_topi (fun v420 ev420 => ?_)
          have rv420 : mm_rg v420 0 9999 := mm_mul ev420 mm_k1 w418 (by decide) (by decide)
          have tv420 := mm_mulEc ev420 mm_k1 w418 (by decide) (k := 1) (by decide)
          refine lv_istore (lv' := [(9, .int v420), (8, .int x23_8_394), (7, .int x23_7_395), (6, .int x23_6_396), (0, .ref a_0), (1, .int i_0), (2, .int i_1), (3, .int i_2), (4, .int i_3), (5, .int 1)]) hx hb dX12_mostOf_54 hl (by decide) rfl ?_
          clear hl
          clear ls
          intro ls hl
          refine lv_iload hx hb dX12_mostOf_56 (lv_at hl 0 rfl) ?_
          refine lv_iload hx hb dX12_mostOf_58 (lv_at hl 2 rfl) ?_
          refine lv_icmp_gt (tgt := 66) hx hb dX12_mostOf_60 (by decide) (fun c421 => ?_) (fun c421 => ?_)
          · have q422 := mm_ltL (h := 9998) (mm_lt c421) rx23_7_395 rv420 (by decide)
            have q423 := mm_ltR (lo := 1) (mm_lt c421) rx23_7_395 rv420 (by decide)
            refine lv_iload_n hx hb dX12_mostOf_66 rfl (lv_at hl 6 rfl) ?_
            refine lv_iload hx hb dX12_mostOf_67 (lv_at hl 1 rfl) ?_
            refine lv_iadd hx hb dX12_mostOf_69 ?_
            refine lv_topi (fun v424 ev424 => ?_)
            have rv424 : mm_rg v424 1 1000000209 := mm_add ev424 h1 q408 (by decide) (by decide)
            have tv424 := mm_addE ev424 h1 q408 (by decide)
            refine lv_istore (lv' := [(6, .int v424), (9, .int v420), (8, .int x23_8_394), (7, .int x23_7_395), (0, .ref a_0), (1, .int i_0), (2, .int i_1), (3, .int i_2), (4, .int i_3), (5, .int 1)]) hx hb dX12_mostOf_70 hl (by decide) rfl ?_
            clear hl
            clear ls
            intro ls hl
            refine lv_iload hx hb dX12_mostOf_72 (lv_at hl 1 rfl) ?_
            refine lv_istore (lv' := [(7, .int v420), (6, .int v424), (9, .int v420), (8, .int x23_8_394), (0, .ref a_0), (1, .int i_0), (2, .int i_1), (3, .int i_2), (4, .int i_3), (5, .int 1)]) hx hb dX12_mostOf_74 hl (by decide) rfl ?_
            clear hl
            clear ls
            intro ls hl
            obtain ⟨v425, ev425⟩ : ∃ y : Int32, y = x23_8_394 + 1 := ⟨_, rfl⟩
            refine lv_iinc (v := v425) (lv' := [(8, .int v425), (7, .int v420), (6, .int v424), (9, .int v420), (0, .ref a_0), (1, .int i_0), (2, .int i_1), (3, .int i_2), (4, .int i_3), (5, .int 1)]) hx hb dX12_mostOf_76 hl (k := 3) rfl (by rw [ev425]; rfl) (by decide) rfl ?_
            clear hl
            clear ls
            intro ls hl
            have rv425 : mm_rg v425 2 210 := mm_add ev425 q408 mm_k1 (by decide) (by decide)
            have tv425 := mm_addEc ev425 q408 mm_k1 (by decide) (k := 1) (by decide)
            refine lv_goto (tgt := 23) hx hb dX12_mostOf_79 (by decide) ?_
            exact ih23 v425 v420 v424 n411 n412 n413 n414 (mm_wk rv425 (by decide)) (mm_wk q423 (by decide)) (mm_wk rv424 (by decide)) w416 w417 (mm_mu hm23 tv425 (by decide) (rv425).2 (by decide)) H locs hP hD hS ls (lv_sub hl [0, 1, 2, 4, 5, 6, 7, 8, 9] rfl)
          · refine lv_goto (tgt := 76) hx hb dX12_mostOf_63 (by decide) ?_
            obtain ⟨v426, ev426⟩ : ∃ y : Int32, y = x23_8_394 + 1 := ⟨_, rfl⟩
            refine lv_iinc (v := v426) (lv' := [(8, .int v426), (9, .int v420), (7, .int x23_7_395), (6, .int x23_6_396), (0, .ref a_0), (1, .int i_0), (2, .int i_1), (3, .int i_2), (4, .int i_3), (5, .int 1)]) hx hb dX12_mostOf_76 hl (k := 1) rfl (by rw [ev426]; rfl) (by decide) rfl ?_
            clear hl
            clear ls
            intro ls hl
            have rv426 : mm_rg v426 2 210 := mm_add ev426 q408 mm_k1 (by decide) (by decide)
            have tv426 := mm_addEc ev426 q408 mm_k1 (by decide) (k := 1) (by decide)
            refine lv_goto (tgt := 23) hx hb dX12_mostOf_79 (by decide) ?_
            exact ih23 v426 x23_7_395 x23_6_396 n411 n412 n413 n414 (mm_wk rv426 (by decide)) rx23_7_395 rx23_6_396 w416 w417 (mm_mu hm23 tv426 (by decide) (rv426).2 (by decide)) H locs hP hD hS ls (lv_sub hl [0, 2, 3, 4, 5, 6, 7, 8, 9] rfl)
  exact L23_400 _ 1 v20 i_1 n11 n12 n13 n14 (mm_wk mm_k1 (by decide)) rv20 (mm_wk h1 (by decide)) w16 w17 (Nat.lt_succ_self _) H locs hP hD hS ls (lv_sub hl [0, 1, 2, 3, 4, 5, 6, 7, 8] rfl)

