theorem dX12_agree_0 : decode cX12_agree 0 = .ok (.aload_n 0, 1) := by decide +kernel
theorem dX12_agree_1 : decode cX12_agree 1 = .ok (.iconst 0, 1) := by decide +kernel
theorem dX12_agree_2 : decode cX12_agree 2 = .ok (.putfield 77, 3) := by decide +kernel
theorem dX12_agree_5 : decode cX12_agree 5 = .ok (.aload_n 0, 1) := by decide +kernel
theorem dX12_agree_6 : decode cX12_agree 6 = .ok (.iload_n 1, 1) := by decide +kernel
theorem dX12_agree_7 : decode cX12_agree 7 = .ok (.invokevirtual 265, 3) := by decide +kernel
theorem dX12_agree_10 : decode cX12_agree 10 = .ok (.ifCond .eq 21, 3) := by decide +kernel
theorem dX12_agree_13 : decode cX12_agree 13 = .ok (.aload_n 0, 1) := by decide +kernel
theorem dX12_agree_14 : decode cX12_agree 14 = .ok (.iload_n 2, 1) := by decide +kernel
theorem dX12_agree_15 : decode cX12_agree 15 = .ok (.i2l, 1) := by decide +kernel
theorem dX12_agree_16 : decode cX12_agree 16 = .ok (.invokevirtual 317, 3) := by decide +kernel
theorem dX12_agree_19 : decode cX12_agree 19 = .ok (.ifCond .eq 12, 3) := by decide +kernel
theorem dX12_agree_22 : decode cX12_agree 22 = .ok (.aload_n 0, 1) := by decide +kernel
theorem dX12_agree_23 : decode cX12_agree 23 = .ok (.iload_n 3, 1) := by decide +kernel
theorem dX12_agree_24 : decode cX12_agree 24 = .ok (.i2l, 1) := by decide +kernel
theorem dX12_agree_25 : decode cX12_agree 25 = .ok (.invokevirtual 317, 3) := by decide +kernel
theorem dX12_agree_28 : decode cX12_agree 28 = .ok (.ifCond .ne 6, 3) := by decide +kernel
theorem dX12_agree_31 : decode cX12_agree 31 = .ok (.bipush (-2), 2) := by decide +kernel
theorem dX12_agree_33 : decode cX12_agree 33 = .ok (.ireturn, 1) := by decide +kernel
theorem dX12_agree_34 : decode cX12_agree 34 = .ok (.aload_n 0, 1) := by decide +kernel
theorem dX12_agree_35 : decode cX12_agree 35 = .ok (.invokevirtual 326, 3) := by decide +kernel
theorem dX12_agree_38 : decode cX12_agree 38 = .ok (.iconst 0, 1) := by decide +kernel
theorem dX12_agree_39 : decode cX12_agree 39 = .ok (.istore 4, 2) := by decide +kernel
theorem dX12_agree_41 : decode cX12_agree 41 = .ok (.iload 4, 2) := by decide +kernel
theorem dX12_agree_43 : decode cX12_agree 43 = .ok (.aload_n 0, 1) := by decide +kernel
theorem dX12_agree_44 : decode cX12_agree 44 = .ok (.getfield 62, 3) := by decide +kernel
theorem dX12_agree_47 : decode cX12_agree 47 = .ok (.iload_n 1, 1) := by decide +kernel
theorem dX12_agree_48 : decode cX12_agree 48 = .ok (.iaload, 1) := by decide +kernel
theorem dX12_agree_49 : decode cX12_agree 49 = .ok (.if_icmp .ge 31, 3) := by decide +kernel
theorem dX12_agree_52 : decode cX12_agree 52 = .ok (.aload_n 0, 1) := by decide +kernel
theorem dX12_agree_53 : decode cX12_agree 53 = .ok (.iload_n 1, 1) := by decide +kernel
theorem dX12_agree_54 : decode cX12_agree 54 = .ok (.iload 4, 2) := by decide +kernel
theorem dX12_agree_56 : decode cX12_agree 56 = .ok (.iload_n 2, 1) := by decide +kernel
theorem dX12_agree_57 : decode cX12_agree 57 = .ok (.invokevirtual 338, 3) := by decide +kernel
theorem dX12_agree_60 : decode cX12_agree 60 = .ok (.aload_n 0, 1) := by decide +kernel
theorem dX12_agree_61 : decode cX12_agree 61 = .ok (.iload_n 1, 1) := by decide +kernel
theorem dX12_agree_62 : decode cX12_agree 62 = .ok (.iload 4, 2) := by decide +kernel
theorem dX12_agree_64 : decode cX12_agree 64 = .ok (.iload_n 3, 1) := by decide +kernel
theorem dX12_agree_65 : decode cX12_agree 65 = .ok (.invokevirtual 338, 3) := by decide +kernel
theorem dX12_agree_68 : decode cX12_agree 68 = .ok (.if_icmp .ne 6, 3) := by decide +kernel
theorem dX12_agree_71 : decode cX12_agree 71 = .ok (.iload 4, 2) := by decide +kernel
theorem dX12_agree_73 : decode cX12_agree 73 = .ok (.ireturn, 1) := by decide +kernel
theorem dX12_agree_74 : decode cX12_agree 74 = .ok (.iinc 4 1, 3) := by decide +kernel
theorem dX12_agree_77 : decode cX12_agree 77 = .ok (.goto (-36), 3) := by decide +kernel
theorem dX12_agree_80 : decode cX12_agree 80 = .ok (.iconst (-1), 1) := by decide +kernel
theorem dX12_agree_81 : decode cX12_agree 81 = .ok (.ireturn, 1) := by decide +kernel
theorem dX12_clear_0 : decode cX12_clear 0 = .ok (.aload_n 0, 1) := by decide +kernel
theorem dX12_clear_1 : decode cX12_clear 1 = .ok (.iconst 0, 1) := by decide +kernel
theorem dX12_clear_2 : decode cX12_clear 2 = .ok (.putfield 77, 3) := by decide +kernel
theorem dX12_clear_5 : decode cX12_clear 5 = .ok (.aload_n 0, 1) := by decide +kernel
theorem dX12_clear_6 : decode cX12_clear 6 = .ok (.iload_n 1, 1) := by decide +kernel
theorem dX12_clear_7 : decode cX12_clear 7 = .ok (.invokevirtual 265, 3) := by decide +kernel
theorem dX12_clear_10 : decode cX12_clear 10 = .ok (.ifCond .eq 12, 3) := by decide +kernel
theorem dX12_clear_13 : decode cX12_clear 13 = .ok (.aload_n 0, 1) := by decide +kernel
theorem dX12_clear_14 : decode cX12_clear 14 = .ok (.iload_n 2, 1) := by decide +kernel
theorem dX12_clear_15 : decode cX12_clear 15 = .ok (.i2l, 1) := by decide +kernel
theorem dX12_clear_16 : decode cX12_clear 16 = .ok (.invokevirtual 317, 3) := by decide +kernel
theorem dX12_clear_19 : decode cX12_clear 19 = .ok (.ifCond .ne 6, 3) := by decide +kernel
theorem dX12_clear_22 : decode cX12_clear 22 = .ok (.bipush (-2), 2) := by decide +kernel
theorem dX12_clear_24 : decode cX12_clear 24 = .ok (.ireturn, 1) := by decide +kernel
theorem dX12_clear_25 : decode cX12_clear 25 = .ok (.aload_n 0, 1) := by decide +kernel
theorem dX12_clear_26 : decode cX12_clear 26 = .ok (.invokevirtual 326, 3) := by decide +kernel
theorem dX12_clear_29 : decode cX12_clear 29 = .ok (.aload_n 0, 1) := by decide +kernel
theorem dX12_clear_30 : decode cX12_clear 30 = .ok (.iload_n 2, 1) := by decide +kernel
theorem dX12_clear_31 : decode cX12_clear 31 = .ok (.invokevirtual 305, 3) := by decide +kernel
theorem dX12_clear_34 : decode cX12_clear 34 = .ok (.iconst 0, 1) := by decide +kernel
theorem dX12_clear_35 : decode cX12_clear 35 = .ok (.istore_n 3, 1) := by decide +kernel
theorem dX12_clear_36 : decode cX12_clear 36 = .ok (.iload_n 3, 1) := by decide +kernel
theorem dX12_clear_37 : decode cX12_clear 37 = .ok (.aload_n 0, 1) := by decide +kernel
theorem dX12_clear_38 : decode cX12_clear 38 = .ok (.getfield 62, 3) := by decide +kernel
theorem dX12_clear_41 : decode cX12_clear 41 = .ok (.iload_n 1, 1) := by decide +kernel
theorem dX12_clear_42 : decode cX12_clear 42 = .ok (.iaload, 1) := by decide +kernel
theorem dX12_clear_43 : decode cX12_clear 43 = .ok (.if_icmp .ge 20, 3) := by decide +kernel
theorem dX12_clear_46 : decode cX12_clear 46 = .ok (.aload_n 0, 1) := by decide +kernel
theorem dX12_clear_47 : decode cX12_clear 47 = .ok (.iload_n 1, 1) := by decide +kernel
theorem dX12_clear_48 : decode cX12_clear 48 = .ok (.iload_n 3, 1) := by decide +kernel
theorem dX12_clear_49 : decode cX12_clear 49 = .ok (.invokevirtual 353, 3) := by decide +kernel
theorem dX12_clear_52 : decode cX12_clear 52 = .ok (.ifCond .eq 5, 3) := by decide +kernel
theorem dX12_clear_55 : decode cX12_clear 55 = .ok (.iload_n 3, 1) := by decide +kernel
theorem dX12_clear_56 : decode cX12_clear 56 = .ok (.ireturn, 1) := by decide +kernel
theorem dX12_clear_57 : decode cX12_clear 57 = .ok (.iinc 3 1, 3) := by decide +kernel
theorem dX12_clear_60 : decode cX12_clear 60 = .ok (.goto (-24), 3) := by decide +kernel
theorem dX12_clear_63 : decode cX12_clear 63 = .ok (.iconst (-1), 1) := by decide +kernel
theorem dX12_clear_64 : decode cX12_clear 64 = .ok (.ireturn, 1) := by decide +kernel
theorem dX12_isClear_0 : decode cX12_isClear 0 = .ok (.iconst 0, 1) := by decide +kernel
theorem dX12_isClear_1 : decode cX12_isClear 1 = .ok (.istore_n 3, 1) := by decide +kernel
theorem dX12_isClear_2 : decode cX12_isClear 2 = .ok (.iload_n 3, 1) := by decide +kernel
theorem dX12_isClear_3 : decode cX12_isClear 3 = .ok (.aload_n 0, 1) := by decide +kernel
theorem dX12_isClear_4 : decode cX12_isClear 4 = .ok (.getfield 296, 3) := by decide +kernel
theorem dX12_isClear_7 : decode cX12_isClear 7 = .ok (.if_icmp .ge 63, 3) := by decide +kernel
theorem dX12_isClear_10 : decode cX12_isClear 10 = .ok (.aload_n 0, 1) := by decide +kernel
theorem dX12_isClear_11 : decode cX12_isClear 11 = .ok (.iload_n 1, 1) := by decide +kernel
theorem dX12_isClear_12 : decode cX12_isClear 12 = .ok (.iload_n 2, 1) := by decide +kernel
theorem dX12_isClear_13 : decode cX12_isClear 13 = .ok (.aload_n 0, 1) := by decide +kernel
theorem dX12_isClear_14 : decode cX12_isClear 14 = .ok (.getfield 68, 3) := by decide +kernel
theorem dX12_isClear_17 : decode cX12_isClear 17 = .ok (.iload_n 3, 1) := by decide +kernel
theorem dX12_isClear_18 : decode cX12_isClear 18 = .ok (.iaload, 1) := by decide +kernel
theorem dX12_isClear_19 : decode cX12_isClear 19 = .ok (.invokevirtual 289, 3) := by decide +kernel
theorem dX12_isClear_22 : decode cX12_isClear 22 = .ok (.aload_n 0, 1) := by decide +kernel
theorem dX12_isClear_23 : decode cX12_isClear 23 = .ok (.invokevirtual 254, 3) := by decide +kernel
theorem dX12_isClear_26 : decode cX12_isClear 26 = .ok (.if_icmp .ne 5, 3) := by decide +kernel
theorem dX12_isClear_29 : decode cX12_isClear 29 = .ok (.iconst 0, 1) := by decide +kernel
theorem dX12_isClear_30 : decode cX12_isClear 30 = .ok (.ireturn, 1) := by decide +kernel
theorem dX12_isClear_31 : decode cX12_isClear 31 = .ok (.iconst 0, 1) := by decide +kernel
theorem dX12_isClear_32 : decode cX12_isClear 32 = .ok (.istore 4, 2) := by decide +kernel
theorem dX12_isClear_34 : decode cX12_isClear 34 = .ok (.iload 4, 2) := by decide +kernel
theorem dX12_isClear_36 : decode cX12_isClear 36 = .ok (.iload_n 3, 1) := by decide +kernel
theorem dX12_isClear_37 : decode cX12_isClear 37 = .ok (.if_icmp .ge 27, 3) := by decide +kernel
theorem dX12_isClear_40 : decode cX12_isClear 40 = .ok (.aload_n 0, 1) := by decide +kernel
theorem dX12_isClear_41 : decode cX12_isClear 41 = .ok (.getfield 68, 3) := by decide +kernel
theorem dX12_isClear_44 : decode cX12_isClear 44 = .ok (.iload_n 3, 1) := by decide +kernel
theorem dX12_isClear_45 : decode cX12_isClear 45 = .ok (.iaload, 1) := by decide +kernel
theorem dX12_isClear_46 : decode cX12_isClear 46 = .ok (.aload_n 0, 1) := by decide +kernel
theorem dX12_isClear_47 : decode cX12_isClear 47 = .ok (.getfield 68, 3) := by decide +kernel
theorem dX12_isClear_50 : decode cX12_isClear 50 = .ok (.iload 4, 2) := by decide +kernel
theorem dX12_isClear_52 : decode cX12_isClear 52 = .ok (.iaload, 1) := by decide +kernel
theorem dX12_isClear_53 : decode cX12_isClear 53 = .ok (.if_icmp .ne 5, 3) := by decide +kernel
theorem dX12_isClear_56 : decode cX12_isClear 56 = .ok (.iconst 0, 1) := by decide +kernel
theorem dX12_isClear_57 : decode cX12_isClear 57 = .ok (.ireturn, 1) := by decide +kernel
theorem dX12_isClear_58 : decode cX12_isClear 58 = .ok (.iinc 4 1, 3) := by decide +kernel
theorem dX12_isClear_61 : decode cX12_isClear 61 = .ok (.goto (-27), 3) := by decide +kernel
theorem dX12_isClear_64 : decode cX12_isClear 64 = .ok (.iinc 3 1, 3) := by decide +kernel
theorem dX12_isClear_67 : decode cX12_isClear 67 = .ok (.goto (-65), 3) := by decide +kernel
theorem dX12_isClear_70 : decode cX12_isClear 70 = .ok (.iconst 1, 1) := by decide +kernel
theorem dX12_isClear_71 : decode cX12_isClear 71 = .ok (.ireturn, 1) := by decide +kernel
theorem dX12_sorts_0 : decode cX12_sorts 0 = .ok (.aload_n 0, 1) := by decide +kernel
theorem dX12_sorts_1 : decode cX12_sorts 1 = .ok (.iconst 0, 1) := by decide +kernel
theorem dX12_sorts_2 : decode cX12_sorts 2 = .ok (.putfield 77, 3) := by decide +kernel
theorem dX12_sorts_5 : decode cX12_sorts 5 = .ok (.aload_n 0, 1) := by decide +kernel
theorem dX12_sorts_6 : decode cX12_sorts 6 = .ok (.iload_n 1, 1) := by decide +kernel
theorem dX12_sorts_7 : decode cX12_sorts 7 = .ok (.invokevirtual 265, 3) := by decide +kernel
theorem dX12_sorts_10 : decode cX12_sorts 10 = .ok (.ifCond .eq 12, 3) := by decide +kernel
theorem dX12_sorts_13 : decode cX12_sorts 13 = .ok (.aload_n 0, 1) := by decide +kernel
theorem dX12_sorts_14 : decode cX12_sorts 14 = .ok (.iload_n 2, 1) := by decide +kernel
theorem dX12_sorts_15 : decode cX12_sorts 15 = .ok (.i2l, 1) := by decide +kernel
theorem dX12_sorts_16 : decode cX12_sorts 16 = .ok (.invokevirtual 317, 3) := by decide +kernel
theorem dX12_sorts_19 : decode cX12_sorts 19 = .ok (.ifCond .ne 6, 3) := by decide +kernel
theorem dX12_sorts_22 : decode cX12_sorts 22 = .ok (.bipush (-2), 2) := by decide +kernel
theorem dX12_sorts_24 : decode cX12_sorts 24 = .ok (.ireturn, 1) := by decide +kernel
theorem dX12_sorts_25 : decode cX12_sorts 25 = .ok (.aload_n 0, 1) := by decide +kernel
theorem dX12_sorts_26 : decode cX12_sorts 26 = .ok (.invokevirtual 326, 3) := by decide +kernel
theorem dX12_sorts_29 : decode cX12_sorts 29 = .ok (.iconst 0, 1) := by decide +kernel
theorem dX12_sorts_30 : decode cX12_sorts 30 = .ok (.istore_n 3, 1) := by decide +kernel
theorem dX12_sorts_31 : decode cX12_sorts 31 = .ok (.iconst 0, 1) := by decide +kernel
theorem dX12_sorts_32 : decode cX12_sorts 32 = .ok (.istore 4, 2) := by decide +kernel
theorem dX12_sorts_34 : decode cX12_sorts 34 = .ok (.iload 4, 2) := by decide +kernel
theorem dX12_sorts_36 : decode cX12_sorts 36 = .ok (.aload_n 0, 1) := by decide +kernel
theorem dX12_sorts_37 : decode cX12_sorts 37 = .ok (.getfield 62, 3) := by decide +kernel
theorem dX12_sorts_40 : decode cX12_sorts 40 = .ok (.iload_n 1, 1) := by decide +kernel
theorem dX12_sorts_41 : decode cX12_sorts 41 = .ok (.iaload, 1) := by decide +kernel
theorem dX12_sorts_42 : decode cX12_sorts 42 = .ok (.if_icmp .ge 28, 3) := by decide +kernel
theorem dX12_sorts_45 : decode cX12_sorts 45 = .ok (.iload_n 3, 1) := by decide +kernel
theorem dX12_sorts_46 : decode cX12_sorts 46 = .ok (.aload_n 0, 1) := by decide +kernel
theorem dX12_sorts_47 : decode cX12_sorts 47 = .ok (.iload_n 1, 1) := by decide +kernel
theorem dX12_sorts_48 : decode cX12_sorts 48 = .ok (.iload 4, 2) := by decide +kernel
theorem dX12_sorts_50 : decode cX12_sorts 50 = .ok (.iload_n 2, 1) := by decide +kernel
theorem dX12_sorts_51 : decode cX12_sorts 51 = .ok (.invokevirtual 350, 3) := by decide +kernel
theorem dX12_sorts_54 : decode cX12_sorts 54 = .ok (.ifCond .eq 7, 3) := by decide +kernel
theorem dX12_sorts_57 : decode cX12_sorts 57 = .ok (.iconst 1, 1) := by decide +kernel
theorem dX12_sorts_58 : decode cX12_sorts 58 = .ok (.goto 4, 3) := by decide +kernel
theorem dX12_sorts_61 : decode cX12_sorts 61 = .ok (.iconst 0, 1) := by decide +kernel
theorem dX12_sorts_62 : decode cX12_sorts 62 = .ok (.iadd, 1) := by decide +kernel
theorem dX12_sorts_63 : decode cX12_sorts 63 = .ok (.istore_n 3, 1) := by decide +kernel
theorem dX12_sorts_64 : decode cX12_sorts 64 = .ok (.iinc 4 1, 3) := by decide +kernel
theorem dX12_sorts_67 : decode cX12_sorts 67 = .ok (.goto (-33), 3) := by decide +kernel
theorem dX12_sorts_70 : decode cX12_sorts 70 = .ok (.iload_n 3, 1) := by decide +kernel
theorem dX12_sorts_71 : decode cX12_sorts 71 = .ok (.ireturn, 1) := by decide +kernel
theorem hd_X12_isClear : yX12_isClear.cls = RX12 ∧ yX12_isClear.cls ≠ "java/lang/invoke/MethodHandle" ∧ yX12_isClear.cls ≠ "java/lang/invoke/VarHandle" ∧ (parseMethodDescriptor yX12_isClear.desc).map (fun d => d.parameters.length) = some 2 := by decide +kernel
theorem hd_X12_isNew : yX12_isNew.cls = RX12 ∧ yX12_isNew.cls ≠ "java/lang/invoke/MethodHandle" ∧ yX12_isNew.cls ≠ "java/lang/invoke/VarHandle" ∧ (parseMethodDescriptor yX12_isNew.desc).map (fun d => d.parameters.length) = some 3 := by decide +kernel
set_option maxHeartbeats 4000000 in
set_option maxRecDepth 100000 in
theorem M153_X12_sorts (l : Launch) (G : va_G) (cy : Nat → ClassId) (sz : Nat) (a_0 : Nat) (i_0 : Int32) (i_1 : Int32) (i_2 : Int32) (a_1 : Nat) (a_2 : Nat) (a_3 : Nat) (a_4 : Nat) (a_5 : Nat) (i_3 : Int32) (i_4 : Int32) (i_5 : Int32) (i_6 : Int32) (i_7 : Int32) (j_0 : Int64) (i_8 : Int32) (i_9 : Int32) (i_10 : Int32) (i_11 : Int32) (a_6 : Nat) (a_7 : Nat) (a_8 : Nat) (a_9 : Nat) (a_10 : Nat) (a_11 : Nat) (a_12 : Nat) (a_13 : Nat) (a_14 : Nat) (a_15 : Nat) (a_16 : Nat) (a_17 : Nat) (a_18 : Nat) (i_12 : Int32) (i_13 : Int32) (i_14 : Int32) (i_15 : Int32) (i_16 : Int32) (i_17 : Int32) (a_19 : Nat) (i_18 : Int32) (a_20 : Nat) (i_19 : Int32) (i_20 : Int32) (i_21 : Int32) (i_22 : Int32) (i_23 : Int32) (i_24 : Int32) (i_25 : Int32) (i_26 : Int32) (i_27 : Int32) (i_28 : Int32) (i_29 : Int32) (i_30 : Int32) (i_31 : Int32) (i_32 : Int32) (i_33 : Int32) (i_34 : Int32) (i_35 : Int32) (i_36 : Int32) (i_37 : Int32) (i_38 : Int32) (i_39 : Int32) (i_40 : Int32) (i_41 : Int32) (i_42 : Int32) (i_43 : Int32) (i_44 : Int32) (i_45 : Int32) (i_46 : Int32) (i_47 : Int32) (i_48 : Int32) (i_49 : Int32) (i_50 : Int32) (i_51 : Int32) (i_52 : Int32) (i_53 : Int32) (f_0 : Nat → Int32) (f_1 : Nat → Int32) (f_2 : Nat → Int32) (f_3 : Nat → Int32) (f_4 : Nat → Int32) (f_5 : Nat → Int32) (f_6 : Nat → Int32) (f_7 : Nat → Int32) (f_8 : Nat → Int32) (f_9 : Nat → Int32) (h0 : mm_rg i_12 0 8) (h1 : mm_rg i_19 0 601) (h2 : mm_rg i_20 0 601) (h3 : mm_rg i_21 0 601) (h4 : mm_rg i_22 0 601) (h5 : mm_rg i_23 0 601) (h6 : mm_rg i_24 0 10) (h7 : mm_rg i_25 0 99) (h8 : mm_rg i_26 0 9) (h9 : mm_rg i_27 0 3) (h10 : mm_rg i_28 0 6) (h11 : mm_rg i_29 0 30) (h12 : mm_rg i_30 0 10) (h13 : mm_rg i_31 0 99) (h14 : mm_rg i_32 0 9) (h15 : mm_rg i_33 0 3) (h16 : mm_rg i_34 0 6) (h17 : mm_rg i_35 0 30) (h18 : mm_rg i_36 0 10) (h19 : mm_rg i_37 0 99) (h20 : mm_rg i_38 0 9) (h21 : mm_rg i_39 0 3) (h22 : mm_rg i_40 0 6) (h23 : mm_rg i_41 0 30) (h24 : mm_rg i_42 0 10) (h25 : mm_rg i_43 0 99) (h26 : mm_rg i_44 0 9) (h27 : mm_rg i_45 0 3) (h28 : mm_rg i_46 0 6) (h29 : mm_rg i_47 0 30) (h30 : mm_rg i_48 0 10) (h31 : mm_rg i_49 0 99) (h32 : mm_rg i_50 0 9) (h33 : mm_rg i_51 0 3) (h34 : mm_rg i_52 0 6) (h35 : mm_rg i_53 0 30) (h36 : mm_ar f_0 0 99) (h37 : mm_ar f_1 0 7) (h38 : mm_ar f_2 0 9) (h39 : mm_ar f_3 0 8) (h40 : mm_ar f_4 0 9) (h41 : mm_ar f_5 (-1) 99) (h42 : mm_ar f_6 0 9) (h43 : mm_ar f_7 0 210) (h44 : mm_ar f_8 0 210) (h45 : mm_ar f_9 0 9) (h46 : mm_rls f_1 f_2 0 i_26 i_27) (h47 : mm_txs f_3 f_4 0 i_26 i_28) (h48 : mm_acs f_5 0 i_26 i_27 i_29) (h49 : mm_tl i_19 i_27 i_28) (h50 : mm_rls f_1 f_2 1 i_32 i_33) (h51 : mm_txs f_3 f_4 1 i_32 i_34) (h52 : mm_acs f_5 1 i_32 i_33 i_35) (h53 : mm_tl i_20 i_33 i_34) (h54 : mm_rls f_1 f_2 2 i_38 i_39) (h55 : mm_txs f_3 f_4 2 i_38 i_40) (h56 : mm_acs f_5 2 i_38 i_39 i_41) (h57 : mm_tl i_21 i_39 i_40) (h58 : mm_rls f_1 f_2 3 i_44 i_45) (h59 : mm_txs f_3 f_4 3 i_44 i_46) (h60 : mm_acs f_5 3 i_44 i_45 i_47) (h61 : mm_tl i_22 i_45 i_46)  : mm_CI l yX12_sorts (mm_ws yX12_sorts cX12_sorts 5 (some .int)) ({ frames := 14, cells := 0, slots := 0, locals := 300 } : Room) G cy sz [(a_0, .inr (12, [.int i_2, .ref a_1, .ref a_2, .ref a_3, .ref a_4, .ref a_5, .int i_3, .int i_4, .int i_5, .int i_6, .int i_7, .long j_0, .int i_8, .int i_9, .int i_10, .int i_11, .ref a_6, .ref a_7, .ref a_8, .ref a_9, .ref a_10, .ref a_11, .ref a_12, .ref a_13, .ref a_14, .ref a_15, .ref a_16, .ref a_17, .ref a_18, .int i_12, .int i_13, .int i_14, .int i_15, .int i_16, .int i_17, .ref a_19, .int i_18, .ref a_20])), (a_6, .inl (cy 1, 5, .inl (mm_g [i_19, i_20, i_21, i_22, i_23]))), (a_7, .inl (cy 1, 30, .inl (mm_g [i_24, i_25, i_26, i_27, i_28, i_29, i_30, i_31, i_32, i_33, i_34, i_35, i_36, i_37, i_38, i_39, i_40, i_41, i_42, i_43, i_44, i_45, i_46, i_47, i_48, i_49, i_50, i_51, i_52, i_53]))), (a_8, .inl (cy 1, 90, .inl f_0)), (a_9, .inl (cy 1, 15, .inl f_1)), (a_10, .inl (cy 1, 1050, .inl f_2)), (a_11, .inl (cy 1, 30, .inl f_3)), (a_12, .inl (cy 1, 240, .inl f_4)), (a_13, .inl (cy 1, 450, .inl f_5)), (a_15, .inl (cy 1, 7200, .inl f_6)), (a_16, .inl (cy 1, 3, .inl f_7)), (a_17, .inl (cy 1, 3, .inl f_8)), (a_18, .inl (cy 1, 8, .inl f_9))] [.ref a_0, .int i_0, .int i_1] (fun u : Int32 × Int32 × Int32 × (Nat → Int32) × (Nat → Int32) × (Nat → Int32) × (Nat → Int32) => [(a_0, .inr (12, [.int 0, .ref a_1, .ref a_2, .ref a_3, .ref a_4, .ref a_5, .int i_3, .int i_4, .int i_5, .int i_6, .int i_7, .long j_0, .int i_8, .int i_9, .int i_10, .int i_11, .ref a_6, .ref a_7, .ref a_8, .ref a_9, .ref a_10, .ref a_11, .ref a_12, .ref a_13, .ref a_14, .ref a_15, .ref a_16, .ref a_17, .ref a_18, .int u.1, .int u.2.1, .int u.2.2.1, .int i_15, .int i_16, .int i_17, .ref a_19, .int i_18, .ref a_20])), (a_6, .inl (cy 1, 5, .inl (mm_g [i_19, i_20, i_21, i_22, i_23]))), (a_7, .inl (cy 1, 30, .inl (mm_g [i_24, i_25, i_26, i_27, i_28, i_29, i_30, i_31, i_32, i_33, i_34, i_35, i_36, i_37, i_38, i_39, i_40, i_41, i_42, i_43, i_44, i_45, i_46, i_47, i_48, i_49, i_50, i_51, i_52, i_53]))), (a_8, .inl (cy 1, 90, .inl f_0)), (a_9, .inl (cy 1, 15, .inl f_1)), (a_10, .inl (cy 1, 1050, .inl f_2)), (a_11, .inl (cy 1, 30, .inl f_3)), (a_12, .inl (cy 1, 240, .inl f_4)), (a_13, .inl (cy 1, 450, .inl f_5)), (a_15, .inl (cy 1, 7200, .inl u.2.2.2.1)), (a_16, .inl (cy 1, 3, .inl u.2.2.2.2.1)), (a_17, .inl (cy 1, 3, .inl u.2.2.2.2.2.1)), (a_18, .inl (cy 1, 8, .inl u.2.2.2.2.2.2))]) (fun (r : Int32) (u : Int32 × Int32 × Int32 × (Nat → Int32) × (Nat → Int32) × (Nat → Int32) × (Nat → Int32)) => mm_rg u.1 0 8 ∧ mm_ar u.2.2.2.1 0 9 ∧ mm_ar u.2.2.2.2.1 0 210 ∧ mm_ar u.2.2.2.2.2.1 0 210 ∧ mm_ar u.2.2.2.2.2.2 0 9 ∧ True) 0 0 := by
  refine mm_begin (lv := [(0, .ref a_0), (1, .int i_0), (2, .int i_1)]) (by decide) (Nat.le_of_ble_eq_true rfl) rfl ?_
  intro p e s m below meth c A ls R args Q H locs hRe hQ hAe hx hb hr hlocks hml hown hnm hts hsz hA hS hP hK hD hZ hl
  have hRf : R.frames = 14 := by rw [hRe]
  have hRl : R.locals = 300 := by rw [hRe]
  have hRc : R.cells = 0 := by rw [hRe]
  have hRs : R.slots = 0 := by rw [hRe]
  refine lv_aload_n hx hb dX12_sorts_0 rfl (lv_at hl 0 rfl) ?_
  refine lv_iconst (v := 0) hx hb dX12_sorts_1 (by decide) ?_
  refine va_put (D := G) (ci := 12) (v := .int 0) (ty := tyX12 0) (C := RX12) (T := TX12) (N := 38) hx hb hts (mm_i inlX12) tyX12 tyX12_ok nmX12 hown hK.1 hP hD hS 0 rfl rfl 0 (by decide) (mm_h hts mm_w177) (fun _ h9 => h9) rfl (tyX12_ok 0 (by decide)) rfl rfl (Nat.le_of_ble_eq_true rfl) dX12_sorts_2 ?_
  clear hP hD hS
  clear H locs
  intro H locs (hP : va_P G vwCl [(a_0, .inr (12, [.int 0, .ref a_1, .ref a_2, .ref a_3, .ref a_4, .ref a_5, .int i_3, .int i_4, .int i_5, .int i_6, .int i_7, .long j_0, .int i_8, .int i_9, .int i_10, .int i_11, .ref a_6, .ref a_7, .ref a_8, .ref a_9, .ref a_10, .ref a_11, .ref a_12, .ref a_13, .ref a_14, .ref a_15, .ref a_16, .ref a_17, .ref a_18, .int i_12, .int i_13, .int i_14, .int i_15, .int i_16, .int i_17, .ref a_19, .int i_18, .ref a_20])), (a_6, .inl (cy 1, 5, .inl (mm_g [i_19, i_20, i_21, i_22, i_23]))), (a_7, .inl (cy 1, 30, .inl (mm_g [i_24, i_25, i_26, i_27, i_28, i_29, i_30, i_31, i_32, i_33, i_34, i_35, i_36, i_37, i_38, i_39, i_40, i_41, i_42, i_43, i_44, i_45, i_46, i_47, i_48, i_49, i_50, i_51, i_52, i_53]))), (a_8, .inl (cy 1, 90, .inl f_0)), (a_9, .inl (cy 1, 15, .inl f_1)), (a_10, .inl (cy 1, 1050, .inl f_2)), (a_11, .inl (cy 1, 30, .inl f_3)), (a_12, .inl (cy 1, 240, .inl f_4)), (a_13, .inl (cy 1, 450, .inl f_5)), (a_15, .inl (cy 1, 7200, .inl f_6)), (a_16, .inl (cy 1, 3, .inl f_7)), (a_17, .inl (cy 1, 3, .inl f_8)), (a_18, .inl (cy 1, 8, .inl f_9))] H) (hD : va_D A [(a_0, .inr (12, [.int 0, .ref a_1, .ref a_2, .ref a_3, .ref a_4, .ref a_5, .int i_3, .int i_4, .int i_5, .int i_6, .int i_7, .long j_0, .int i_8, .int i_9, .int i_10, .int i_11, .ref a_6, .ref a_7, .ref a_8, .ref a_9, .ref a_10, .ref a_11, .ref a_12, .ref a_13, .ref a_14, .ref a_15, .ref a_16, .ref a_17, .ref a_18, .int i_12, .int i_13, .int i_14, .int i_15, .int i_16, .int i_17, .ref a_19, .int i_18, .ref a_20])), (a_6, .inl (cy 1, 5, .inl (mm_g [i_19, i_20, i_21, i_22, i_23]))), (a_7, .inl (cy 1, 30, .inl (mm_g [i_24, i_25, i_26, i_27, i_28, i_29, i_30, i_31, i_32, i_33, i_34, i_35, i_36, i_37, i_38, i_39, i_40, i_41, i_42, i_43, i_44, i_45, i_46, i_47, i_48, i_49, i_50, i_51, i_52, i_53]))), (a_8, .inl (cy 1, 90, .inl f_0)), (a_9, .inl (cy 1, 15, .inl f_1)), (a_10, .inl (cy 1, 1050, .inl f_2)), (a_11, .inl (cy 1, 30, .inl f_3)), (a_12, .inl (cy 1, 240, .inl f_4)), (a_13, .inl (cy 1, 450, .inl f_5)), (a_15, .inl (cy 1, 7200, .inl f_6)), (a_16, .inl (cy 1, 3, .inl f_7)), (a_17, .inl (cy 1, 3, .inl f_8)), (a_18, .inl (cy 1, 8, .inl f_9))]) hS
  refine lv_aload_n hx hb dX12_sorts_5 rfl (lv_at hl 0 rfl) ?_
  refine lv_iload_n hx hb dX12_sorts_6 rfl (lv_at hl 1 rfl) ?_
  refine mm_finir (va_runV (As := [.int i_0]) (rest := []) ⟨hx, hb, hml, hown, hts⟩ (M98_X12_isLand l G cy H.size a_0 i_0 0 a_1 a_2 a_3 a_4 a_5 i_3 i_4 i_5 i_6 i_7 j_0 i_8 i_9 i_10 i_11 a_6 a_7 a_8 a_9 a_10 a_11 a_12 a_13 a_14 a_15 a_16 a_17 a_18 i_12 i_13 i_14 i_15 i_16 i_17 a_19 i_18 a_20 i_24 i_25 i_26 i_27 i_28 i_29 i_30 i_31 i_32 i_33 i_34 i_35 i_36 i_37 i_38 i_39 i_40 i_41 i_42 i_43 i_44 i_45 i_46 i_47 i_48 i_49 i_50 i_51 i_52 i_53 h6 h7 h8 h9 h10 h11 h12 h13 h14 h15 h16 h17 h18 h19 h20 h21 h22 h23 h24 h25 h26 h27 h28 h29 h30 h31 h32 h33 h34 h35) (cwV 1 hts (mm_gV mm_w641 mm_w642 mm_w643 mm_w5 mm_w644) rfl rfl rfl hd_X12_isLand ⟨by rw [hRf]; exact Nat.le_of_ble_eq_true rfl, by rw [hRl]; exact Nat.le_of_ble_eq_true rfl⟩) (mm_preV hK hZ hS hA hP hD [0, 2] rfl rfl 0 rfl rfl rfl) rfl rfl hl.1 rfl (lv_room (Nat.le_of_ble_eq_true rfl)) dX12_sorts_7 ⟨by rw [hRc]; exact Nat.le_of_ble_eq_true rfl, by rw [hRs]; exact Nat.le_of_ble_eq_true rfl⟩) hP hD hS hA [0, 2] rfl (fun _ => rfl) ?_
  clear hP hD hS
  clear H locs
  intro v1 _u H locs hw hP hD hS
  rcases hw with rfl | ⟨rfl, w2, w3⟩
  · refine lv_if_eq (tgt := 22) hx hb dX12_sorts_10 (by decide) (fun c4 => ?_) (fun c4 => ?_)
    · refine lv_bipush (v := (-2)) hx hb dX12_sorts_22 (by decide) ?_
      subst hAe
      rw [hQ]
      exact W.iret (v := (-2)) hx hb hr (fun t ht hW => ⟨⟨(-2), (i_12, i_13, i_14, f_6, f_7, f_8, f_9), rfl, ⟨h0, h42, h43, h44, h45, trivial⟩, by rw [ht]; exact hP, hK.warm hW, hD⟩, hS.F ht⟩) hS.2.2 dX12_sorts_24
    · have q5 := mm_neL (lo := 1) (mm_ne c4) mm_k0 mm_k0 (by decide) (by decide)
      exact mm_no q5 (by decide)
  · have q6 := mm_ltR (lo := 1) w3 w2 h9 (by decide)
    have q7 : mm_rg i_19 1 601 := mm_tl_3 h49 q6 h1 (by decide)
    refine lv_if_eq (tgt := 22) hx hb dX12_sorts_10 (by decide) (fun c8 => ?_) (fun c8 => ?_)
    · exact mm_eqN c8.symm mm_k0 mm_k1 (by decide)
    · refine lv_aload_n hx hb dX12_sorts_13 rfl (lv_at hl 0 rfl) ?_
      refine lv_iload_n hx hb dX12_sorts_14 rfl (lv_at hl 2 rfl) ?_
      obtain ⟨v9, ev9⟩ : ∃ y : Int64, y = i_1.toInt64 := ⟨_, rfl⟩
      refine lv_i2l hx hb dX12_sorts_15 ev9.symm ?_
      have rv9 : mm_rl v9 (-2147483648) 2147483647 := mm_i2l ev9 (mm_top i_1)
      refine mm_finir (va_runV (As := [.long v9]) (rest := []) ⟨hx, hb, hml, hown, hts⟩ (M96_X12_isText l G cy H.size a_0 v9 0 a_1 a_2 a_3 a_4 a_5 i_3 i_4 i_5 i_6 i_7 j_0 i_8 i_9 i_10 i_11 a_6 a_7 a_8 a_9 a_10 a_11 a_12 a_13 a_14 a_15 a_16 a_17 a_18 i_12 i_13 i_14 i_15 i_16 i_17 a_19 i_18 a_20 i_24 i_25 i_26 i_27 i_28 i_29 i_30 i_31 i_32 i_33 i_34 i_35 i_36 i_37 i_38 i_39 i_40 i_41 i_42 i_43 i_44 i_45 i_46 i_47 i_48 i_49 i_50 i_51 i_52 i_53 h6 h7 h8 (mm_wk q6 (by decide)) h10 h11 h12 h13 h14 h15 h16 h17 h18 h19 h20 h21 h22 h23 h24 h25 h26 h27 h28 h29 h30 h31 h32 h33 h34 h35) (cwV 1 hts (mm_gV mm_w613 mm_w614 mm_w615 mm_w5 mm_w616) rfl rfl rfl hd_X12_isText ⟨by rw [hRf]; exact Nat.le_of_ble_eq_true rfl, by rw [hRl]; exact Nat.le_of_ble_eq_true rfl⟩) (mm_preV hK hZ hS hA hP hD [0, 2] rfl rfl 0 rfl rfl rfl) rfl rfl hl.1 rfl (lv_room (Nat.le_of_ble_eq_true rfl)) dX12_sorts_16 ⟨by rw [hRc]; exact Nat.le_of_ble_eq_true rfl, by rw [hRs]; exact Nat.le_of_ble_eq_true rfl⟩) hP hD hS hA [0, 2] rfl (fun _ => rfl) ?_
      clear hP hD hS
      clear H locs
      intro v10 _u H locs hw hP hD hS
      rcases hw with rfl | ⟨rfl, w11, w12⟩
      · refine lv_if_ne (tgt := 25) hx hb dX12_sorts_19 (by decide) (fun c13 => ?_) (fun c13 => ?_)
        · have q14 := mm_neL (lo := 1) (mm_ne c13) mm_k0 mm_k0 (by decide) (by decide)
          exact mm_no q14 (by decide)
        · refine lv_bipush (v := (-2)) hx hb dX12_sorts_22 (by decide) ?_
          subst hAe
          rw [hQ]
          exact W.iret (v := (-2)) hx hb hr (fun t ht hW => ⟨⟨(-2), (i_12, i_13, i_14, f_6, f_7, f_8, f_9), rfl, ⟨h0, h42, h43, h44, h45, trivial⟩, by rw [ht]; exact hP, hK.warm hW, hD⟩, hS.F ht⟩) hS.2.2 dX12_sorts_24
      · have q15 := mm_meet (lo := 0) (hi := 5) (mm_l2x ev9 w11) (mm_top i_1) (by decide)
        have w16 := mm_tx_lt w12 (mm_i2lE ev9)
        have q17 := mm_ltR (lo := 1) w16 q15 h10 (by decide)
        refine lv_if_ne (tgt := 25) hx hb dX12_sorts_19 (by decide) (fun c18 => ?_) (fun c18 => ?_)
        · refine lv_aload_n hx hb dX12_sorts_25 rfl (lv_at hl 0 rfl) ?_
          refine mm_finv (va_runV (As := []) (rest := []) ⟨hx, hb, hml, hown, hts⟩ (M125_X12_lays l G cy H.size a_0 0 a_1 a_2 a_3 a_4 a_5 i_3 i_4 i_5 i_6 i_7 j_0 i_8 i_9 i_10 i_11 a_6 a_7 a_8 a_9 a_10 a_11 a_12 a_13 a_14 a_15 a_16 a_17 a_18 i_12 i_13 i_14 i_15 i_16 i_17 a_19 i_18 a_20 i_19 i_20 i_21 i_22 i_23 i_24 i_25 i_26 i_27 i_28 i_29 i_30 i_31 i_32 i_33 i_34 i_35 i_36 i_37 i_38 i_39 i_40 i_41 i_42 i_43 i_44 i_45 i_46 i_47 i_48 i_49 i_50 i_51 i_52 i_53 f_1 f_2 f_5 f_6 f_7 f_8 (mm_wk q7 (by decide)) h2 h3 h4 h5 h6 h7 h8 (mm_wk q6 (by decide)) (mm_wk q17 (by decide)) h11 h12 h13 h14 h15 h16 h17 h18 h19 h20 h21 h22 h23 h24 h25 h26 h27 h28 h29 h30 h31 h32 h33 h34 h35 h37 h38 h41 h42 h43 h44 h46 h48 h49 h50 h52 h53 h54 h56 h57 h58 h60 h61) (cwV 0 hts (mm_gV mm_w686 mm_w687 mm_w688 mm_w5 mm_w689) rfl rfl rfl hd_X12_lays ⟨by rw [hRf]; exact Nat.le_of_ble_eq_true rfl, by rw [hRl]; exact Nat.le_of_ble_eq_true rfl⟩) (mm_preV hK hZ hS hA hP hD [0, 1, 2, 4, 5, 8, 9, 10, 11] rfl rfl 0 rfl rfl rfl) rfl rfl hl.1 rfl (lv_room (Nat.le_of_ble_eq_true rfl)) dX12_sorts_26 ⟨by rw [hRc]; exact Nat.le_of_ble_eq_true rfl, by rw [hRs]; exact Nat.le_of_ble_eq_true rfl⟩) hP hD hS hA (fun u : (Nat → Int32) × (Nat → Int32) × (Nat → Int32) => [(a_0, .inr (12, [.int 0, .ref a_1, .ref a_2, .ref a_3, .ref a_4, .ref a_5, .int i_3, .int i_4, .int i_5, .int i_6, .int i_7, .long j_0, .int i_8, .int i_9, .int i_10, .int i_11, .ref a_6, .ref a_7, .ref a_8, .ref a_9, .ref a_10, .ref a_11, .ref a_12, .ref a_13, .ref a_14, .ref a_15, .ref a_16, .ref a_17, .ref a_18, .int i_12, .int i_13, .int i_14, .int i_15, .int i_16, .int i_17, .ref a_19, .int i_18, .ref a_20])), (a_6, .inl (cy 1, 5, .inl (mm_g [i_19, i_20, i_21, i_22, i_23]))), (a_7, .inl (cy 1, 30, .inl (mm_g [i_24, i_25, i_26, i_27, i_28, i_29, i_30, i_31, i_32, i_33, i_34, i_35, i_36, i_37, i_38, i_39, i_40, i_41, i_42, i_43, i_44, i_45, i_46, i_47, i_48, i_49, i_50, i_51, i_52, i_53]))), (a_8, .inl (cy 1, 90, .inl f_0)), (a_9, .inl (cy 1, 15, .inl f_1)), (a_10, .inl (cy 1, 1050, .inl f_2)), (a_11, .inl (cy 1, 30, .inl f_3)), (a_12, .inl (cy 1, 240, .inl f_4)), (a_13, .inl (cy 1, 450, .inl f_5)), (a_15, .inl (cy 1, 7200, .inl u.1)), (a_16, .inl (cy 1, 3, .inl u.2.1)), (a_17, .inl (cy 1, 3, .inl u.2.2)), (a_18, .inl (cy 1, 8, .inl f_9))]) [0, 1, 2, 4, 5, 8, 9, 10, 11] [3, 6, 7, 12] (n := 13) (fun _ => rfl) (by decide +kernel) (by decide +kernel) rfl (fun _ => rfl) (wr := [(a_8, .inl (cy 1, 90, .inl f_0)), (a_11, .inl (cy 1, 30, .inl f_3)), (a_12, .inl (cy 1, 240, .inl f_4)), (a_18, .inl (cy 1, 8, .inl f_9))]) rfl (fun _ => rfl) (fun _ => @rfl _ ([a_0, a_6, a_7, a_9, a_10, a_13, a_15, a_16, a_17] : List Nat)) ?_
          clear hP hD hS
          clear H locs
          intro u
          obtain ⟨n19, n20, n21⟩ := u
          intro H locs hw (hP : va_P G vwCl [(a_0, .inr (12, [.int 0, .ref a_1, .ref a_2, .ref a_3, .ref a_4, .ref a_5, .int i_3, .int i_4, .int i_5, .int i_6, .int i_7, .long j_0, .int i_8, .int i_9, .int i_10, .int i_11, .ref a_6, .ref a_7, .ref a_8, .ref a_9, .ref a_10, .ref a_11, .ref a_12, .ref a_13, .ref a_14, .ref a_15, .ref a_16, .ref a_17, .ref a_18, .int i_12, .int i_13, .int i_14, .int i_15, .int i_16, .int i_17, .ref a_19, .int i_18, .ref a_20])), (a_6, .inl (cy 1, 5, .inl (mm_g [i_19, i_20, i_21, i_22, i_23]))), (a_7, .inl (cy 1, 30, .inl (mm_g [i_24, i_25, i_26, i_27, i_28, i_29, i_30, i_31, i_32, i_33, i_34, i_35, i_36, i_37, i_38, i_39, i_40, i_41, i_42, i_43, i_44, i_45, i_46, i_47, i_48, i_49, i_50, i_51, i_52, i_53]))), (a_8, .inl (cy 1, 90, .inl f_0)), (a_9, .inl (cy 1, 15, .inl f_1)), (a_10, .inl (cy 1, 1050, .inl f_2)), (a_11, .inl (cy 1, 30, .inl f_3)), (a_12, .inl (cy 1, 240, .inl f_4)), (a_13, .inl (cy 1, 450, .inl f_5)), (a_15, .inl (cy 1, 7200, .inl n19)), (a_16, .inl (cy 1, 3, .inl n20)), (a_17, .inl (cy 1, 3, .inl n21)), (a_18, .inl (cy 1, 8, .inl f_9))] H) (hD : va_D A [(a_0, .inr (12, [.int 0, .ref a_1, .ref a_2, .ref a_3, .ref a_4, .ref a_5, .int i_3, .int i_4, .int i_5, .int i_6, .int i_7, .long j_0, .int i_8, .int i_9, .int i_10, .int i_11, .ref a_6, .ref a_7, .ref a_8, .ref a_9, .ref a_10, .ref a_11, .ref a_12, .ref a_13, .ref a_14, .ref a_15, .ref a_16, .ref a_17, .ref a_18, .int i_12, .int i_13, .int i_14, .int i_15, .int i_16, .int i_17, .ref a_19, .int i_18, .ref a_20])), (a_6, .inl (cy 1, 5, .inl (mm_g [i_19, i_20, i_21, i_22, i_23]))), (a_7, .inl (cy 1, 30, .inl (mm_g [i_24, i_25, i_26, i_27, i_28, i_29, i_30, i_31, i_32, i_33, i_34, i_35, i_36, i_37, i_38, i_39, i_40, i_41, i_42, i_43, i_44, i_45, i_46, i_47, i_48, i_49, i_50, i_51, i_52, i_53]))), (a_8, .inl (cy 1, 90, .inl f_0)), (a_9, .inl (cy 1, 15, .inl f_1)), (a_10, .inl (cy 1, 1050, .inl f_2)), (a_11, .inl (cy 1, 30, .inl f_3)), (a_12, .inl (cy 1, 240, .inl f_4)), (a_13, .inl (cy 1, 450, .inl f_5)), (a_15, .inl (cy 1, 7200, .inl n19)), (a_16, .inl (cy 1, 3, .inl n20)), (a_17, .inl (cy 1, 3, .inl n21)), (a_18, .inl (cy 1, 8, .inl f_9))]) hS
          obtain ⟨w22, w23, w24, w25, w26⟩ := hw
          replace w25 : mm_laid n20 n21 i_27 := w25
          replace w26 : mm_tab n19 n20 i_26 i_27 := w26
          refine lv_iconst (v := 0) hx hb dX12_sorts_29 (by decide) ?_
          refine lv_istore_n (lv' := [(3, .int 0), (0, .ref a_0), (1, .int i_0), (2, .int i_1)]) hx hb dX12_sorts_30 rfl hl (by decide) rfl ?_
          clear hl
          clear ls
          intro ls hl
          refine lv_iconst (v := 0) hx hb dX12_sorts_31 (by decide) ?_
          refine lv_istore (lv' := [(4, .int 0), (3, .int 0), (0, .ref a_0), (1, .int i_0), (2, .int i_1)]) hx hb dX12_sorts_32 hl (by decide) rfl ?_
          clear hl
          clear ls
          intro ls hl
          have L34_512 : ∀ (n : Nat) (x34_4_507 : Int32) (x34_3_508 : Int32) (y34_0_29_509 : Int32) (y34_0_30_510 : Int32) (y34_0_31_511 : Int32) (z34_12_512 : Nat → Int32), mm_rg x34_4_507 0 210 → mm_rg y34_0_29_509 0 8 → mm_ar z34_12_512 0 9 → (210 - x34_4_507.toInt).toNat < n → ∀ (H : Heap) (locs : List Loc), va_P G vwCl [(a_0, .inr (12, [.int 0, .ref a_1, .ref a_2, .ref a_3, .ref a_4, .ref a_5, .int i_3, .int i_4, .int i_5, .int i_6, .int i_7, .long j_0, .int i_8, .int i_9, .int i_10, .int i_11, .ref a_6, .ref a_7, .ref a_8, .ref a_9, .ref a_10, .ref a_11, .ref a_12, .ref a_13, .ref a_14, .ref a_15, .ref a_16, .ref a_17, .ref a_18, .int y34_0_29_509, .int y34_0_30_510, .int y34_0_31_511, .int i_15, .int i_16, .int i_17, .ref a_19, .int i_18, .ref a_20])), (a_6, .inl (cy 1, 5, .inl (mm_g [i_19, i_20, i_21, i_22, i_23]))), (a_7, .inl (cy 1, 30, .inl (mm_g [i_24, i_25, i_26, i_27, i_28, i_29, i_30, i_31, i_32, i_33, i_34, i_35, i_36, i_37, i_38, i_39, i_40, i_41, i_42, i_43, i_44, i_45, i_46, i_47, i_48, i_49, i_50, i_51, i_52, i_53]))), (a_8, .inl (cy 1, 90, .inl f_0)), (a_9, .inl (cy 1, 15, .inl f_1)), (a_10, .inl (cy 1, 1050, .inl f_2)), (a_11, .inl (cy 1, 30, .inl f_3)), (a_12, .inl (cy 1, 240, .inl f_4)), (a_13, .inl (cy 1, 450, .inl f_5)), (a_15, .inl (cy 1, 7200, .inl n19)), (a_16, .inl (cy 1, 3, .inl n20)), (a_17, .inl (cy 1, 3, .inl n21)), (a_18, .inl (cy 1, 8, .inl z34_12_512))] H → va_D A [(a_0, .inr (12, [.int 0, .ref a_1, .ref a_2, .ref a_3, .ref a_4, .ref a_5, .int i_3, .int i_4, .int i_5, .int i_6, .int i_7, .long j_0, .int i_8, .int i_9, .int i_10, .int i_11, .ref a_6, .ref a_7, .ref a_8, .ref a_9, .ref a_10, .ref a_11, .ref a_12, .ref a_13, .ref a_14, .ref a_15, .ref a_16, .ref a_17, .ref a_18, .int y34_0_29_509, .int y34_0_30_510, .int y34_0_31_511, .int i_15, .int i_16, .int i_17, .ref a_19, .int i_18, .ref a_20])), (a_6, .inl (cy 1, 5, .inl (mm_g [i_19, i_20, i_21, i_22, i_23]))), (a_7, .inl (cy 1, 30, .inl (mm_g [i_24, i_25, i_26, i_27, i_28, i_29, i_30, i_31, i_32, i_33, i_34, i_35, i_36, i_37, i_38, i_39, i_40, i_41, i_42, i_43, i_44, i_45, i_46, i_47, i_48, i_49, i_50, i_51, i_52, i_53]))), (a_8, .inl (cy 1, 90, .inl f_0)), (a_9, .inl (cy 1, 15, .inl f_1)), (a_10, .inl (cy 1, 1050, .inl f_2)), (a_11, .inl (cy 1, 30, .inl f_3)), (a_12, .inl (cy 1, 240, .inl f_4)), (a_13, .inl (cy 1, 450, .inl f_5)), (a_15, .inl (cy 1, 7200, .inl n19)), (a_16, .inl (cy 1, 3, .inl n20)), (a_17, .inl (cy 1, 3, .inl n21)), (a_18, .inl (cy 1, 8, .inl z34_12_512))] → va_S A s.heap H locs → ∀ (ls : Array Slot), lv_has ls 5 [(4, .int x34_4_507), (3, .int x34_3_508), (0, .ref a_0), (1, .int i_0), (2, .int i_1)] → W p l e R s m args below meth c H locs 0 0 Q (F0 m 34 ls []) := by
            intro n
            induction n with
            | zero => intro x34_4_507 x34_3_508 y34_0_29_509 y34_0_30_510 y34_0_31_511 z34_12_512 rx34_4_507 ry34_0_29_509 rz34_12_512 hm; exact absurd hm (Nat.not_lt_zero _)
            | succ n ih34 =>
              intro x34_4_507 x34_3_508 y34_0_29_509 y34_0_30_510 y34_0_31_511 z34_12_512 rx34_4_507 ry34_0_29_509 rz34_12_512 hm34 H locs hP hD hS ls hl
              refine lv_iload hx hb dX12_sorts_34 (lv_at hl 0 rfl) ?_
              refine lv_aload_n hx hb dX12_sorts_36 rfl (lv_at hl 2 rfl) ?_
              refine va_get (D := G) (ci := 12) (v := .ref a_16) (C := RX12) (T := TX12) (N := 38) hx hb hts (mm_i inlX12) hown hK.1 hP 0 rfl rfl 26 (by decide) (mm_h hts mm_w158) (fun _ h9 => h9) rfl dX12_sorts_37 ?_
              refine lv_iload_n hx hb dX12_sorts_40 rfl (lv_at hl 3 rfl) ?_
              refine va_iald hx hb hK.1 hP 10 1 rfl rfl (mm_in w2 (by decide)) dX12_sorts_41 ?_
              refine lv_topi (fun v514 ev514 => ?_)
              have rv514 : mm_rg v514 0 210 := mm_eqv ev514 (w23 _)
              have q515 : mm_rg v514 1 210 := mm_laid_ld0 w25 w3 ev514 w2 rv514 (by decide)
              refine lv_icmp_ge (tgt := 70) hx hb dX12_sorts_42 (by decide) (fun c516 => ?_) (fun c516 => ?_)
              · have q517 := mm_leR (mm_le c516) q515 rx34_4_507
                refine lv_iload_n hx hb dX12_sorts_70 rfl (lv_at hl 1 rfl) ?_
                subst hAe
                rw [hQ]
                exact W.iret (v := x34_3_508) hx hb hr (fun t ht hW => ⟨⟨x34_3_508, (y34_0_29_509, y34_0_30_510, y34_0_31_511, n19, n20, n21, z34_12_512), rfl, ⟨ry34_0_29_509, w22, w23, w24, rz34_12_512, trivial⟩, by rw [ht]; exact hP, hK.warm hW, hD⟩, hS.F ht⟩) hS.2.2 dX12_sorts_71
              · have q518 := mm_ltL (h := 209) (mm_nle c516) rx34_4_507 q515 (by decide)
                refine lv_iload_n hx hb dX12_sorts_45 rfl (lv_at hl 1 rfl) ?_
                refine lv_aload_n hx hb dX12_sorts_46 rfl (lv_at hl 2 rfl) ?_
                refine lv_iload_n hx hb dX12_sorts_47 rfl (lv_at hl 3 rfl) ?_
                refine lv_iload hx hb dX12_sorts_48 (lv_at hl 0 rfl) ?_
                refine lv_iload_n hx hb dX12_sorts_50 rfl (lv_at hl 4 rfl) ?_
                refine mm_fini (va_runV (As := [.int i_0, .int x34_4_507, .int i_1]) (rest := [.int x34_3_508]) ⟨hx, hb, hml, hown, hts⟩ (M152_X12_isNew l G cy H.size a_0 i_0 x34_4_507 i_1 0 a_1 a_2 a_3 a_4 a_5 i_3 i_4 i_5 i_6 i_7 j_0 i_8 i_9 i_10 i_11 a_6 a_7 a_8 a_9 a_10 a_11 a_12 a_13 a_14 a_15 a_16 a_17 a_18 y34_0_29_509 y34_0_30_510 y34_0_31_511 i_15 i_16 i_17 a_19 i_18 a_20 i_24 i_25 i_26 i_27 i_28 i_29 i_30 i_31 i_32 i_33 i_34 i_35 i_36 i_37 i_38 i_39 i_40 i_41 i_42 i_43 i_44 i_45 i_46 i_47 i_48 i_49 i_50 i_51 i_52 i_53 f_0 f_3 f_4 f_5 n19 n20 z34_12_512 w2 q518 q15 ry34_0_29_509 h6 h7 h8 (mm_wk q6 (by decide)) (mm_wk q17 (by decide)) h11 h12 h13 h14 h15 h16 h17 h18 h19 h20 h21 h22 h23 h24 h25 h26 h27 h28 h29 h30 h31 h32 h33 h34 h35 h36 h39 h40 h41 w22 w23 rz34_12_512 h47 h48 h51 h52 h55 h56 h59 h60 (mm_f1_l w25 w3 w2 (by decide))) (cwV 3 hts (mm_gV mm_w980 mm_w981 mm_w982 mm_w5 mm_w983) rfl rfl rfl hd_X12_isNew ⟨by rw [hRf]; exact Nat.le_of_ble_eq_true rfl, by rw [hRl]; exact Nat.le_of_ble_eq_true rfl⟩) (mm_preV hK hZ hS hA hP hD [0, 2, 3, 6, 7, 8, 9, 10, 12] rfl rfl 0 rfl rfl rfl) rfl rfl hl.1 rfl (lv_room (Nat.le_of_ble_eq_true rfl)) dX12_sorts_51 ⟨by rw [hRc]; exact Nat.le_of_ble_eq_true rfl, by rw [hRs]; exact Nat.le_of_ble_eq_true rfl⟩) hP hD hS hA (fun u : Int32 × Int32 × Int32 × (Nat → Int32) => [(a_0, .inr (12, [.int 0, .ref a_1, .ref a_2, .ref a_3, .ref a_4, .ref a_5, .int i_3, .int i_4, .int i_5, .int i_6, .int i_7, .long j_0, .int i_8, .int i_9, .int i_10, .int i_11, .ref a_6, .ref a_7, .ref a_8, .ref a_9, .ref a_10, .ref a_11, .ref a_12, .ref a_13, .ref a_14, .ref a_15, .ref a_16, .ref a_17, .ref a_18, .int u.1, .int u.2.1, .int u.2.2.1, .int i_15, .int i_16, .int i_17, .ref a_19, .int i_18, .ref a_20])), (a_6, .inl (cy 1, 5, .inl (mm_g [i_19, i_20, i_21, i_22, i_23]))), (a_7, .inl (cy 1, 30, .inl (mm_g [i_24, i_25, i_26, i_27, i_28, i_29, i_30, i_31, i_32, i_33, i_34, i_35, i_36, i_37, i_38, i_39, i_40, i_41, i_42, i_43, i_44, i_45, i_46, i_47, i_48, i_49, i_50, i_51, i_52, i_53]))), (a_8, .inl (cy 1, 90, .inl f_0)), (a_9, .inl (cy 1, 15, .inl f_1)), (a_10, .inl (cy 1, 1050, .inl f_2)), (a_11, .inl (cy 1, 30, .inl f_3)), (a_12, .inl (cy 1, 240, .inl f_4)), (a_13, .inl (cy 1, 450, .inl f_5)), (a_15, .inl (cy 1, 7200, .inl n19)), (a_16, .inl (cy 1, 3, .inl n20)), (a_17, .inl (cy 1, 3, .inl n21)), (a_18, .inl (cy 1, 8, .inl u.2.2.2))]) [0, 2, 3, 6, 7, 8, 9, 10, 12] [1, 4, 5, 11] (n := 13) (fun _ => rfl) (by decide +kernel) (by decide +kernel) rfl (fun _ => rfl) (wr := [(a_6, .inl (cy 1, 5, .inl (mm_g [i_19, i_20, i_21, i_22, i_23]))), (a_9, .inl (cy 1, 15, .inl f_1)), (a_10, .inl (cy 1, 1050, .inl f_2)), (a_17, .inl (cy 1, 3, .inl n21))]) rfl (fun _ => rfl) (fun _ => @rfl _ ([a_0, a_7, a_8, a_11, a_12, a_13, a_15, a_16, a_18] : List Nat)) ?_
                clear hP hD hS
                clear H locs
                intro v523 u
                obtain ⟨n519, n520, n521, n522⟩ := u
                intro H locs hw (hP : va_P G vwCl [(a_0, .inr (12, [.int 0, .ref a_1, .ref a_2, .ref a_3, .ref a_4, .ref a_5, .int i_3, .int i_4, .int i_5, .int i_6, .int i_7, .long j_0, .int i_8, .int i_9, .int i_10, .int i_11, .ref a_6, .ref a_7, .ref a_8, .ref a_9, .ref a_10, .ref a_11, .ref a_12, .ref a_13, .ref a_14, .ref a_15, .ref a_16, .ref a_17, .ref a_18, .int n519, .int n520, .int n521, .int i_15, .int i_16, .int i_17, .ref a_19, .int i_18, .ref a_20])), (a_6, .inl (cy 1, 5, .inl (mm_g [i_19, i_20, i_21, i_22, i_23]))), (a_7, .inl (cy 1, 30, .inl (mm_g [i_24, i_25, i_26, i_27, i_28, i_29, i_30, i_31, i_32, i_33, i_34, i_35, i_36, i_37, i_38, i_39, i_40, i_41, i_42, i_43, i_44, i_45, i_46, i_47, i_48, i_49, i_50, i_51, i_52, i_53]))), (a_8, .inl (cy 1, 90, .inl f_0)), (a_9, .inl (cy 1, 15, .inl f_1)), (a_10, .inl (cy 1, 1050, .inl f_2)), (a_11, .inl (cy 1, 30, .inl f_3)), (a_12, .inl (cy 1, 240, .inl f_4)), (a_13, .inl (cy 1, 450, .inl f_5)), (a_15, .inl (cy 1, 7200, .inl n19)), (a_16, .inl (cy 1, 3, .inl n20)), (a_17, .inl (cy 1, 3, .inl n21)), (a_18, .inl (cy 1, 8, .inl n522))] H) (hD : va_D A [(a_0, .inr (12, [.int 0, .ref a_1, .ref a_2, .ref a_3, .ref a_4, .ref a_5, .int i_3, .int i_4, .int i_5, .int i_6, .int i_7, .long j_0, .int i_8, .int i_9, .int i_10, .int i_11, .ref a_6, .ref a_7, .ref a_8, .ref a_9, .ref a_10, .ref a_11, .ref a_12, .ref a_13, .ref a_14, .ref a_15, .ref a_16, .ref a_17, .ref a_18, .int n519, .int n520, .int n521, .int i_15, .int i_16, .int i_17, .ref a_19, .int i_18, .ref a_20])), (a_6, .inl (cy 1, 5, .inl (mm_g [i_19, i_20, i_21, i_22, i_23]))), (a_7, .inl (cy 1, 30, .inl (mm_g [i_24, i_25, i_26, i_27, i_28, i_29, i_30, i_31, i_32, i_33, i_34, i_35, i_36, i_37, i_38, i_39, i_40, i_41, i_42, i_43, i_44, i_45, i_46, i_47, i_48, i_49, i_50, i_51, i_52, i_53]))), (a_8, .inl (cy 1, 90, .inl f_0)), (a_9, .inl (cy 1, 15, .inl f_1)), (a_10, .inl (cy 1, 1050, .inl f_2)), (a_11, .inl (cy 1, 30, .inl f_3)), (a_12, .inl (cy 1, 240, .inl f_4)), (a_13, .inl (cy 1, 450, .inl f_5)), (a_15, .inl (cy 1, 7200, .inl n19)), (a_16, .inl (cy 1, 3, .inl n20)), (a_17, .inl (cy 1, 3, .inl n21)), (a_18, .inl (cy 1, 8, .inl n522))]) hS
                obtain ⟨w524, w525, hw⟩ := hw
                rcases hw with ⟨rfl, w526⟩ | rfl
                · refine lv_if_eq (tgt := 61) hx hb dX12_sorts_54 (by decide) (fun c527 => ?_) (fun c527 => ?_)
                  · refine lv_iconst (v := 0) hx hb dX12_sorts_61 (by decide) ?_
                    refine lv_iadd hx hb dX12_sorts_62 ?_
                    refine lv_topi (fun v528 ev528 => ?_)
                    have rv528 : mm_rg v528 (-2147483648) 2147483647 := mm_add ev528 (mm_top x34_3_508) mm_k0 (by decide) (by decide)
                    have tv528 := mm_addEc ev528 (mm_top x34_3_508) mm_k0 (by decide) (k := 0) (by decide)
                    refine lv_istore_n (lv' := [(3, .int v528), (4, .int x34_4_507), (0, .ref a_0), (1, .int i_0), (2, .int i_1)]) hx hb dX12_sorts_63 rfl hl (by decide) rfl ?_
                    clear hl
                    clear ls
                    intro ls hl
                    obtain ⟨v529, ev529⟩ : ∃ y : Int32, y = x34_4_507 + 1 := ⟨_, rfl⟩
                    refine lv_iinc (v := v529) (lv' := [(4, .int v529), (3, .int v528), (0, .ref a_0), (1, .int i_0), (2, .int i_1)]) hx hb dX12_sorts_64 hl (k := 1) rfl (by rw [ev529]; rfl) (by decide) rfl ?_
                    clear hl
                    clear ls
                    intro ls hl
                    have rv529 : mm_rg v529 2 210 := mm_add ev529 w526 mm_k1 (by decide) (by decide)
                    have tv529 := mm_addEc ev529 w526 mm_k1 (by decide) (k := 1) (by decide)
                    refine lv_goto (tgt := 34) hx hb dX12_sorts_67 (by decide) ?_
                    exact ih34 v529 v528 n519 n520 n521 n522 (mm_wk rv529 (by decide)) w524 w525 (mm_mu hm34 tv529 (by decide) (rv529).2 (by decide)) H locs hP hD hS ls (lv_sub hl [0, 1, 2, 3, 4] rfl)
                  · have q530 := mm_neL (lo := 1) (mm_ne c527) mm_k0 mm_k0 (by decide) (by decide)
                    exact mm_no q530 (by decide)
                · refine lv_if_eq (tgt := 61) hx hb dX12_sorts_54 (by decide) (fun c531 => ?_) (fun c531 => ?_)
                  · exact mm_eqN c531.symm mm_k0 mm_k1 (by decide)
                  · refine lv_iconst (v := 1) hx hb dX12_sorts_57 (by decide) ?_
                    refine lv_goto (tgt := 62) hx hb dX12_sorts_58 (by decide) ?_
                    refine lv_iadd hx hb dX12_sorts_62 ?_
                    refine lv_topi (fun v532 ev532 => ?_)
                    refine lv_istore_n (lv' := [(3, .int v532), (4, .int x34_4_507), (0, .ref a_0), (1, .int i_0), (2, .int i_1)]) hx hb dX12_sorts_63 rfl hl (by decide) rfl ?_
                    clear hl
                    clear ls
                    intro ls hl
                    obtain ⟨v533, ev533⟩ : ∃ y : Int32, y = x34_4_507 + 1 := ⟨_, rfl⟩
                    refine lv_iinc (v := v533) (lv' := [(4, .int v533), (3, .int v532), (0, .ref a_0), (1, .int i_0), (2, .int i_1)]) hx hb dX12_sorts_64 hl (k := 1) rfl (by rw [ev533]; rfl) (by decide) rfl ?_
                    clear hl
                    clear ls
                    intro ls hl
                    have rv533 : mm_rg v533 1 210 := mm_add ev533 q518 mm_k1 (by decide) (by decide)
                    have tv533 := mm_addEc ev533 q518 mm_k1 (by decide) (k := 1) (by decide)
                    refine lv_goto (tgt := 34) hx hb dX12_sorts_67 (by decide) ?_
                    exact ih34 v533 v532 n519 n520 n521 n522 (mm_wk rv533 (by decide)) w524 w525 (mm_mu hm34 tv533 (by decide) (rv533).2 (by decide)) H locs hP hD hS ls (lv_sub hl [0, 1, 2, 3, 4] rfl)
          exact L34_512 _ 0 0 i_12 i_13 i_14 f_9 (mm_wk mm_k0 (by decide)) h0 h45 (Nat.lt_succ_self _) H locs hP hD hS ls (lv_sub hl [0, 1, 2, 3, 4] rfl)
        · exact mm_eqN c18.symm mm_k0 mm_k1 (by decide)

set_option maxHeartbeats 4000000 in
set_option maxRecDepth 100000 in
theorem M154_X12_isClear (l : Launch) (G : va_G) (cy : Nat → ClassId) (sz : Nat) (a_0 : Nat) (i_0 : Int32) (i_1 : Int32) (i_2 : Int32) (a_1 : Nat) (a_2 : Nat) (a_3 : Nat) (a_4 : Nat) (a_5 : Nat) (i_3 : Int32) (i_4 : Int32) (i_5 : Int32) (i_6 : Int32) (i_7 : Int32) (j_0 : Int64) (i_8 : Int32) (i_9 : Int32) (i_10 : Int32) (i_11 : Int32) (a_6 : Nat) (a_7 : Nat) (a_8 : Nat) (a_9 : Nat) (a_10 : Nat) (a_11 : Nat) (a_12 : Nat) (a_13 : Nat) (a_14 : Nat) (a_15 : Nat) (a_16 : Nat) (a_17 : Nat) (a_18 : Nat) (i_12 : Int32) (i_13 : Int32) (i_14 : Int32) (i_15 : Int32) (i_16 : Int32) (i_17 : Int32) (a_19 : Nat) (i_18 : Int32) (a_20 : Nat) (i_19 : Int32) (i_20 : Int32) (i_21 : Int32) (i_22 : Int32) (i_23 : Int32) (i_24 : Int32) (i_25 : Int32) (i_26 : Int32) (i_27 : Int32) (i_28 : Int32) (i_29 : Int32) (i_30 : Int32) (i_31 : Int32) (i_32 : Int32) (i_33 : Int32) (i_34 : Int32) (i_35 : Int32) (i_36 : Int32) (i_37 : Int32) (i_38 : Int32) (i_39 : Int32) (i_40 : Int32) (i_41 : Int32) (i_42 : Int32) (i_43 : Int32) (i_44 : Int32) (i_45 : Int32) (i_46 : Int32) (i_47 : Int32) (i_48 : Int32) (f_0 : Nat → Int32) (f_1 : Nat → Int32) (f_2 : Nat → Int32) (h0 : mm_rg i_0 0 2) (h1 : mm_rg i_1 0 1100000000) (h2 : mm_rg i_12 0 8) (h3 : mm_rg i_19 0 10) (h4 : mm_rg i_20 0 99) (h5 : mm_rg i_21 0 9) (h6 : mm_rg i_22 0 3) (h7 : mm_rg i_23 0 6) (h8 : mm_rg i_24 0 30) (h9 : mm_rg i_25 0 10) (h10 : mm_rg i_26 0 99) (h11 : mm_rg i_27 0 9) (h12 : mm_rg i_28 0 3) (h13 : mm_rg i_29 0 6) (h14 : mm_rg i_30 0 30) (h15 : mm_rg i_31 0 10) (h16 : mm_rg i_32 0 99) (h17 : mm_rg i_33 0 9) (h18 : mm_rg i_34 0 3) (h19 : mm_rg i_35 0 6) (h20 : mm_rg i_36 0 30) (h21 : mm_rg i_37 0 10) (h22 : mm_rg i_38 0 99) (h23 : mm_rg i_39 0 9) (h24 : mm_rg i_40 0 3) (h25 : mm_rg i_41 0 6) (h26 : mm_rg i_42 0 30) (h27 : mm_rg i_43 0 10) (h28 : mm_rg i_44 0 99) (h29 : mm_rg i_45 0 9) (h30 : mm_rg i_46 0 3) (h31 : mm_rg i_47 0 6) (h32 : mm_rg i_48 0 30) (h33 : mm_ar f_0 0 9) (h34 : mm_ar f_1 0 210) (h35 : mm_ar f_2 0 9) (h36 : mm_f1 f_1 i_0)  : mm_CI l yX12_isClear (mm_ws yX12_isClear cX12_isClear 5 (some .boolean)) ({ frames := 1, cells := 0, slots := 0, locals := 23 } : Room) G cy sz [(a_0, .inr (12, [.int i_2, .ref a_1, .ref a_2, .ref a_3, .ref a_4, .ref a_5, .int i_3, .int i_4, .int i_5, .int i_6, .int i_7, .long j_0, .int i_8, .int i_9, .int i_10, .int i_11, .ref a_6, .ref a_7, .ref a_8, .ref a_9, .ref a_10, .ref a_11, .ref a_12, .ref a_13, .ref a_14, .ref a_15, .ref a_16, .ref a_17, .ref a_18, .int i_12, .int i_13, .int i_14, .int i_15, .int i_16, .int i_17, .ref a_19, .int i_18, .ref a_20])), (a_7, .inl (cy 1, 30, .inl (mm_g [i_19, i_20, i_21, i_22, i_23, i_24, i_25, i_26, i_27, i_28, i_29, i_30, i_31, i_32, i_33, i_34, i_35, i_36, i_37, i_38, i_39, i_40, i_41, i_42, i_43, i_44, i_45, i_46, i_47, i_48]))), (a_15, .inl (cy 1, 7200, .inl f_0)), (a_16, .inl (cy 1, 3, .inl f_1)), (a_18, .inl (cy 1, 8, .inl f_2))] [.ref a_0, .int i_0, .int i_1] (fun u : Unit => [(a_0, .inr (12, [.int i_2, .ref a_1, .ref a_2, .ref a_3, .ref a_4, .ref a_5, .int i_3, .int i_4, .int i_5, .int i_6, .int i_7, .long j_0, .int i_8, .int i_9, .int i_10, .int i_11, .ref a_6, .ref a_7, .ref a_8, .ref a_9, .ref a_10, .ref a_11, .ref a_12, .ref a_13, .ref a_14, .ref a_15, .ref a_16, .ref a_17, .ref a_18, .int i_12, .int i_13, .int i_14, .int i_15, .int i_16, .int i_17, .ref a_19, .int i_18, .ref a_20])), (a_7, .inl (cy 1, 30, .inl (mm_g [i_19, i_20, i_21, i_22, i_23, i_24, i_25, i_26, i_27, i_28, i_29, i_30, i_31, i_32, i_33, i_34, i_35, i_36, i_37, i_38, i_39, i_40, i_41, i_42, i_43, i_44, i_45, i_46, i_47, i_48]))), (a_15, .inl (cy 1, 7200, .inl f_0)), (a_16, .inl (cy 1, 3, .inl f_1)), (a_18, .inl (cy 1, 8, .inl f_2))]) (fun (r : Int32) (u : Unit) => ((0 = r) ∨ (1 = r))) 0 0 := by
  refine mm_begin (lv := [(0, .ref a_0), (1, .int i_0), (2, .int i_1)]) (by decide) (Nat.le_of_ble_eq_true rfl) rfl ?_
  intro p e s m below meth c A ls R args Q H locs hRe hQ hAe hx hb hr hlocks hml hown hnm hts hsz hA hS hP hK hD hZ hl
  have hRf : R.frames = 1 := by rw [hRe]
  have hRl : R.locals = 23 := by rw [hRe]
  have hRc : R.cells = 0 := by rw [hRe]
  have hRs : R.slots = 0 := by rw [hRe]
  refine lv_iconst (v := 0) hx hb dX12_isClear_0 (by decide) ?_
  refine lv_istore_n (lv' := [(3, .int 0), (0, .ref a_0), (1, .int i_0), (2, .int i_1)]) hx hb dX12_isClear_1 rfl hl (by decide) rfl ?_
  clear hl
  clear ls
  intro ls hl
  have L2_588 : ∀ (n : Nat) (x2_3_588 : Int32), mm_rg x2_3_588 0 8 → (8 - x2_3_588.toInt).toNat < n → ∀ (H : Heap) (locs : List Loc), va_P G vwCl [(a_0, .inr (12, [.int i_2, .ref a_1, .ref a_2, .ref a_3, .ref a_4, .ref a_5, .int i_3, .int i_4, .int i_5, .int i_6, .int i_7, .long j_0, .int i_8, .int i_9, .int i_10, .int i_11, .ref a_6, .ref a_7, .ref a_8, .ref a_9, .ref a_10, .ref a_11, .ref a_12, .ref a_13, .ref a_14, .ref a_15, .ref a_16, .ref a_17, .ref a_18, .int i_12, .int i_13, .int i_14, .int i_15, .int i_16, .int i_17, .ref a_19, .int i_18, .ref a_20])), (a_7, .inl (cy 1, 30, .inl (mm_g [i_19, i_20, i_21, i_22, i_23, i_24, i_25, i_26, i_27, i_28, i_29, i_30, i_31, i_32, i_33, i_34, i_35, i_36, i_37, i_38, i_39, i_40, i_41, i_42, i_43, i_44, i_45, i_46, i_47, i_48]))), (a_15, .inl (cy 1, 7200, .inl f_0)), (a_16, .inl (cy 1, 3, .inl f_1)), (a_18, .inl (cy 1, 8, .inl f_2))] H → va_D A [(a_0, .inr (12, [.int i_2, .ref a_1, .ref a_2, .ref a_3, .ref a_4, .ref a_5, .int i_3, .int i_4, .int i_5, .int i_6, .int i_7, .long j_0, .int i_8, .int i_9, .int i_10, .int i_11, .ref a_6, .ref a_7, .ref a_8, .ref a_9, .ref a_10, .ref a_11, .ref a_12, .ref a_13, .ref a_14, .ref a_15, .ref a_16, .ref a_17, .ref a_18, .int i_12, .int i_13, .int i_14, .int i_15, .int i_16, .int i_17, .ref a_19, .int i_18, .ref a_20])), (a_7, .inl (cy 1, 30, .inl (mm_g [i_19, i_20, i_21, i_22, i_23, i_24, i_25, i_26, i_27, i_28, i_29, i_30, i_31, i_32, i_33, i_34, i_35, i_36, i_37, i_38, i_39, i_40, i_41, i_42, i_43, i_44, i_45, i_46, i_47, i_48]))), (a_15, .inl (cy 1, 7200, .inl f_0)), (a_16, .inl (cy 1, 3, .inl f_1)), (a_18, .inl (cy 1, 8, .inl f_2))] → va_S A s.heap H locs → ∀ (ls : Array Slot), lv_has ls 5 [(3, .int x2_3_588), (0, .ref a_0), (1, .int i_0), (2, .int i_1)] → W p l e R s m args below meth c H locs 0 0 Q (F0 m 2 ls []) := by
    intro n
    induction n with
    | zero => intro x2_3_588 rx2_3_588 hm; exact absurd hm (Nat.not_lt_zero _)
    | succ n ih2 =>
      intro x2_3_588 rx2_3_588 hm2 H locs hP hD hS ls hl
      refine lv_iload_n hx hb dX12_isClear_2 rfl (lv_at hl 0 rfl) ?_
      refine lv_aload_n hx hb dX12_isClear_3 rfl (lv_at hl 1 rfl) ?_
      refine va_get (D := G) (ci := 12) (v := .int i_12) (C := RX12) (T := TX12) (N := 38) hx hb hts (mm_i inlX12) hown hK.1 hP 0 rfl rfl 29 (by decide) (mm_h hts mm_w860) (fun _ h9 => h9) rfl dX12_isClear_4 ?_
      refine lv_icmp_ge (tgt := 70) hx hb dX12_isClear_7 (by decide) (fun c590 => ?_) (fun c590 => ?_)
      · refine lv_iconst (v := 1) hx hb dX12_isClear_70 (by decide) ?_
        subst hAe
        rw [hQ]
        exact W.zret (v := 1) hx hb hr rfl (fun t ht hW => ⟨⟨1, (), rfl, (Or.inr rfl), by rw [ht]; exact hP, hK.warm hW, hD⟩, hS.F ht⟩) hS.2.2 dX12_isClear_71
      · have q591 := mm_ltL (h := 7) (mm_nle c590) rx2_3_588 h2 (by decide)
        have q592 := mm_ltR (lo := 1) (mm_nle c590) rx2_3_588 h2 (by decide)
        refine lv_aload_n hx hb dX12_isClear_10 rfl (lv_at hl 1 rfl) ?_
        refine lv_iload_n hx hb dX12_isClear_11 rfl (lv_at hl 2 rfl) ?_
        refine lv_iload_n hx hb dX12_isClear_12 rfl (lv_at hl 3 rfl) ?_
        refine lv_aload_n hx hb dX12_isClear_13 rfl (lv_at hl 1 rfl) ?_
        refine va_get (D := G) (ci := 12) (v := .ref a_18) (C := RX12) (T := TX12) (N := 38) hx hb hts (mm_i inlX12) hown hK.1 hP 0 rfl rfl 28 (by decide) (mm_h hts mm_w160) (fun _ h9 => h9) rfl dX12_isClear_14 ?_
        refine lv_iload_n hx hb dX12_isClear_17 rfl (lv_at hl 0 rfl) ?_
        refine va_iald hx hb hK.1 hP 4 1 rfl rfl (mm_in q591 (by decide)) dX12_isClear_18 ?_
        refine lv_topi (fun v593 ev593 => ?_)
        have rv593 : mm_rg v593 0 9 := mm_eqv ev593 (h35 _)
        refine mm_finir (va_runV (As := [.int i_0, .int i_1, .int v593]) (rest := []) ⟨hx, hb, hml, hown, hts⟩ (M122_X12_means0 l G cy H.size a_0 i_0 i_1 v593 i_2 a_1 a_2 a_3 a_4 a_5 i_3 i_4 i_5 i_6 i_7 j_0 i_8 i_9 i_10 i_11 a_6 a_7 a_8 a_9 a_10 a_11 a_12 a_13 a_14 a_15 a_16 a_17 a_18 i_12 i_13 i_14 i_15 i_16 i_17 a_19 i_18 a_20 f_0 f_1 h0 h1 rv593 h33 h34 h36) (cwV 3 hts (mm_gV mm_w713 mm_w714 mm_w715 mm_w5 mm_w716) rfl rfl rfl hd_X12_means0 ⟨by rw [hRf]; exact Nat.le_of_ble_eq_true rfl, by rw [hRl]; exact Nat.le_of_ble_eq_true rfl⟩) (mm_preV hK hZ hS hA hP hD [0, 2, 3] rfl rfl 0 rfl rfl rfl) rfl rfl hl.1 rfl (lv_room (Nat.le_of_ble_eq_true rfl)) dX12_isClear_19 ⟨by rw [hRc]; exact Nat.le_of_ble_eq_true rfl, by rw [hRs]; exact Nat.le_of_ble_eq_true rfl⟩) hP hD hS hA [0, 2, 3] rfl (fun _ => rfl) ?_
        clear hP hD hS
        clear H locs
        intro v594 _u H locs hw hP hD hS
        obtain ⟨w595, w596⟩ := hw
        refine lv_aload_n hx hb dX12_isClear_22 rfl (lv_at hl 1 rfl) ?_
        refine mm_finir (va_runV (As := []) (rest := [.int v594]) ⟨hx, hb, hml, hown, hts⟩ (M92_X12_senses l G cy H.size a_0 i_2 a_1 a_2 a_3 a_4 a_5 i_3 i_4 i_5 i_6 i_7 j_0 i_8 i_9 i_10 i_11 a_6 a_7 a_8 a_9 a_10 a_11 a_12 a_13 a_14 a_15 a_16 a_17 a_18 i_12 i_13 i_14 i_15 i_16 i_17 a_19 i_18 a_20 i_19 i_20 i_21 i_22 i_23 i_24 i_25 i_26 i_27 i_28 i_29 i_30 i_31 i_32 i_33 i_34 i_35 i_36 i_37 i_38 i_39 i_40 i_41 i_42 i_43 i_44 i_45 i_46 i_47 i_48 h3 h4 h5 h6 h7 h8 h9 h10 h11 h12 h13 h14 h15 h16 h17 h18 h19 h20 h21 h22 h23 h24 h25 h26 h27 h28 h29 h30 h31 h32) (cwV 0 hts (mm_gV mm_w588 mm_w589 mm_w590 mm_w5 mm_w591) rfl rfl rfl hd_X12_senses ⟨by rw [hRf]; exact Nat.le_of_ble_eq_true rfl, by rw [hRl]; exact Nat.le_of_ble_eq_true rfl⟩) (mm_preV hK hZ hS hA hP hD [0, 1] rfl rfl 0 rfl rfl rfl) rfl rfl hl.1 rfl (lv_room (Nat.le_of_ble_eq_true rfl)) dX12_isClear_23 ⟨by rw [hRc]; exact Nat.le_of_ble_eq_true rfl, by rw [hRs]; exact Nat.le_of_ble_eq_true rfl⟩) hP hD hS hA [0, 1] rfl (fun _ => rfl) ?_
        clear hP hD hS
        clear H locs
        intro v597 _u H locs hw hP hD hS
        subst hw
        refine lv_icmp_ne (tgt := 31) hx hb dX12_isClear_26 (by decide) (fun c598 => ?_) (fun c598 => ?_)
        · refine lv_iconst (v := 0) hx hb dX12_isClear_31 (by decide) ?_
          refine lv_istore (lv' := [(4, .int 0), (3, .int x2_3_588), (0, .ref a_0), (1, .int i_0), (2, .int i_1)]) hx hb dX12_isClear_32 hl (by decide) rfl ?_
          clear hl
          clear ls
          intro ls hl
          have L34_670 : ∀ (n : Nat) (x34_4_670 : Int32), mm_rg x34_4_670 0 7 → (7 - x34_4_670.toInt).toNat < n → ∀ (H : Heap) (locs : List Loc), va_P G vwCl [(a_0, .inr (12, [.int i_2, .ref a_1, .ref a_2, .ref a_3, .ref a_4, .ref a_5, .int i_3, .int i_4, .int i_5, .int i_6, .int i_7, .long j_0, .int i_8, .int i_9, .int i_10, .int i_11, .ref a_6, .ref a_7, .ref a_8, .ref a_9, .ref a_10, .ref a_11, .ref a_12, .ref a_13, .ref a_14, .ref a_15, .ref a_16, .ref a_17, .ref a_18, .int i_12, .int i_13, .int i_14, .int i_15, .int i_16, .int i_17, .ref a_19, .int i_18, .ref a_20])), (a_7, .inl (cy 1, 30, .inl (mm_g [i_19, i_20, i_21, i_22, i_23, i_24, i_25, i_26, i_27, i_28, i_29, i_30, i_31, i_32, i_33, i_34, i_35, i_36, i_37, i_38, i_39, i_40, i_41, i_42, i_43, i_44, i_45, i_46, i_47, i_48]))), (a_15, .inl (cy 1, 7200, .inl f_0)), (a_16, .inl (cy 1, 3, .inl f_1)), (a_18, .inl (cy 1, 8, .inl f_2))] H → va_D A [(a_0, .inr (12, [.int i_2, .ref a_1, .ref a_2, .ref a_3, .ref a_4, .ref a_5, .int i_3, .int i_4, .int i_5, .int i_6, .int i_7, .long j_0, .int i_8, .int i_9, .int i_10, .int i_11, .ref a_6, .ref a_7, .ref a_8, .ref a_9, .ref a_10, .ref a_11, .ref a_12, .ref a_13, .ref a_14, .ref a_15, .ref a_16, .ref a_17, .ref a_18, .int i_12, .int i_13, .int i_14, .int i_15, .int i_16, .int i_17, .ref a_19, .int i_18, .ref a_20])), (a_7, .inl (cy 1, 30, .inl (mm_g [i_19, i_20, i_21, i_22, i_23, i_24, i_25, i_26, i_27, i_28, i_29, i_30, i_31, i_32, i_33, i_34, i_35, i_36, i_37, i_38, i_39, i_40, i_41, i_42, i_43, i_44, i_45, i_46, i_47, i_48]))), (a_15, .inl (cy 1, 7200, .inl f_0)), (a_16, .inl (cy 1, 3, .inl f_1)), (a_18, .inl (cy 1, 8, .inl f_2))] → va_S A s.heap H locs → ∀ (ls : Array Slot), lv_has ls 5 [(4, .int x34_4_670), (3, .int x2_3_588), (0, .ref a_0), (1, .int i_0), (2, .int i_1)] → W p l e R s m args below meth c H locs 0 0 Q (F0 m 34 ls []) := by
            intro n
            induction n with
            | zero => intro x34_4_670 rx34_4_670 hm; exact absurd hm (Nat.not_lt_zero _)
            | succ n ih34 =>
              intro x34_4_670 rx34_4_670 hm34 H locs hP hD hS ls hl
              refine lv_iload hx hb dX12_isClear_34 (lv_at hl 0 rfl) ?_
              refine lv_iload_n hx hb dX12_isClear_36 rfl (lv_at hl 1 rfl) ?_
              refine lv_icmp_ge (tgt := 64) hx hb dX12_isClear_37 (by decide) (fun c672 => ?_) (fun c672 => ?_)
              · obtain ⟨v673, ev673⟩ : ∃ y : Int32, y = x2_3_588 + 1 := ⟨_, rfl⟩
                refine lv_iinc (v := v673) (lv' := [(3, .int v673), (4, .int x34_4_670), (0, .ref a_0), (1, .int i_0), (2, .int i_1)]) hx hb dX12_isClear_64 hl (k := 1) rfl (by rw [ev673]; rfl) (by decide) rfl ?_
                clear hl
                clear ls
                intro ls hl
                have rv673 : mm_rg v673 1 8 := mm_add ev673 q591 mm_k1 (by decide) (by decide)
                have tv673 := mm_addEc ev673 q591 mm_k1 (by decide) (k := 1) (by decide)
                refine lv_goto (tgt := 2) hx hb dX12_isClear_67 (by decide) ?_
                exact ih2 v673 (mm_wk rv673 (by decide)) (mm_mu hm2 tv673 (by decide) (rv673).2 (by decide)) H locs hP hD hS ls (lv_sub hl [0, 2, 3, 4] rfl)
              · have q674 := mm_ltL (h := 6) (mm_nle c672) rx34_4_670 q591 (by decide)
                have q675 := mm_ltR (lo := 1) (mm_nle c672) rx34_4_670 q591 (by decide)
                have q676 := mm_ltR (lo := 2) (mm_nle c590) q675 q592 (by decide)
                refine lv_aload_n hx hb dX12_isClear_40 rfl (lv_at hl 2 rfl) ?_
                refine va_get (D := G) (ci := 12) (v := .ref a_18) (C := RX12) (T := TX12) (N := 38) hx hb hts (mm_i inlX12) hown hK.1 hP 0 rfl rfl 28 (by decide) (mm_h hts mm_w160) (fun _ h9 => h9) rfl dX12_isClear_41 ?_
                refine lv_iload_n hx hb dX12_isClear_44 rfl (lv_at hl 1 rfl) ?_
                refine va_iald hx hb hK.1 hP 4 1 rfl rfl (mm_in q675 (by decide)) dX12_isClear_45 ?_
                refine lv_topi (fun v677 ev677 => ?_)
                have rv677 : mm_rg v677 0 9 := mm_eqv ev677 (h35 _)
                obtain rfl : v593 = v677 := ev593.trans ev677.symm
                refine lv_aload_n hx hb dX12_isClear_46 rfl (lv_at hl 2 rfl) ?_
                refine va_get (D := G) (ci := 12) (v := .ref a_18) (C := RX12) (T := TX12) (N := 38) hx hb hts (mm_i inlX12) hown hK.1 hP 0 rfl rfl 28 (by decide) (mm_h hts mm_w160) (fun _ h9 => h9) rfl dX12_isClear_47 ?_
                refine lv_iload hx hb dX12_isClear_50 (lv_at hl 0 rfl) ?_
                refine va_iald hx hb hK.1 hP 4 1 rfl rfl (mm_in q674 (by decide)) dX12_isClear_52 ?_
                refine lv_topi (fun v678 ev678 => ?_)
                have rv678 : mm_rg v678 0 9 := mm_eqv ev678 (h35 _)
                refine lv_icmp_ne (tgt := 58) hx hb dX12_isClear_53 (by decide) (fun c679 => ?_) (fun c679 => ?_)
                · obtain ⟨v680, ev680⟩ : ∃ y : Int32, y = x34_4_670 + 1 := ⟨_, rfl⟩
                  refine lv_iinc (v := v680) (lv' := [(4, .int v680), (3, .int x2_3_588), (0, .ref a_0), (1, .int i_0), (2, .int i_1)]) hx hb dX12_isClear_58 hl (k := 0) rfl (by rw [ev680]; rfl) (by decide) rfl ?_
                  clear hl
                  clear ls
                  intro ls hl
                  have rv680 : mm_rg v680 1 7 := mm_add ev680 q674 mm_k1 (by decide) (by decide)
                  have tv680 := mm_addEc ev680 q674 mm_k1 (by decide) (k := 1) (by decide)
                  refine lv_goto (tgt := 34) hx hb dX12_isClear_61 (by decide) ?_
                  exact ih34 v680 (mm_wk rv680 (by decide)) (mm_mu hm34 tv680 (by decide) (rv680).2 (by decide)) H locs hP hD hS ls (lv_sub hl [0, 1, 2, 3, 4] rfl)
                · refine lv_iconst (v := 0) hx hb dX12_isClear_56 (by decide) ?_
                  subst hAe
                  rw [hQ]
                  exact W.zret (v := 0) hx hb hr rfl (fun t ht hW => ⟨⟨0, (), rfl, (Or.inl rfl), by rw [ht]; exact hP, hK.warm hW, hD⟩, hS.F ht⟩) hS.2.2 dX12_isClear_57
          exact L34_670 _ 0 (mm_wk mm_k0 (by decide)) (Nat.lt_succ_self _) H locs hP hD hS ls (lv_sub hl [0, 1, 2, 3, 4] rfl)
        · refine lv_iconst (v := 0) hx hb dX12_isClear_29 (by decide) ?_
          subst hAe
          rw [hQ]
          exact W.zret (v := 0) hx hb hr rfl (fun t ht hW => ⟨⟨0, (), rfl, (Or.inl rfl), by rw [ht]; exact hP, hK.warm hW, hD⟩, hS.F ht⟩) hS.2.2 dX12_isClear_30
  exact L2_588 _ 0 (mm_wk mm_k0 (by decide)) (Nat.lt_succ_self _) H locs hP hD hS ls (lv_sub hl [0, 1, 2, 3] rfl)

set_option maxHeartbeats 4000000 in
set_option maxRecDepth 100000 in
theorem M155_X12_clear (l : Launch) (G : va_G) (cy : Nat → ClassId) (sz : Nat) (a_0 : Nat) (i_0 : Int32) (i_1 : Int32) (i_2 : Int32) (a_1 : Nat) (a_2 : Nat) (a_3 : Nat) (a_4 : Nat) (a_5 : Nat) (i_3 : Int32) (i_4 : Int32) (i_5 : Int32) (i_6 : Int32) (i_7 : Int32) (j_0 : Int64) (i_8 : Int32) (i_9 : Int32) (i_10 : Int32) (i_11 : Int32) (a_6 : Nat) (a_7 : Nat) (a_8 : Nat) (a_9 : Nat) (a_10 : Nat) (a_11 : Nat) (a_12 : Nat) (a_13 : Nat) (a_14 : Nat) (a_15 : Nat) (a_16 : Nat) (a_17 : Nat) (a_18 : Nat) (i_12 : Int32) (i_13 : Int32) (i_14 : Int32) (i_15 : Int32) (i_16 : Int32) (i_17 : Int32) (a_19 : Nat) (i_18 : Int32) (a_20 : Nat) (i_19 : Int32) (i_20 : Int32) (i_21 : Int32) (i_22 : Int32) (i_23 : Int32) (i_24 : Int32) (i_25 : Int32) (i_26 : Int32) (i_27 : Int32) (i_28 : Int32) (i_29 : Int32) (i_30 : Int32) (i_31 : Int32) (i_32 : Int32) (i_33 : Int32) (i_34 : Int32) (i_35 : Int32) (i_36 : Int32) (i_37 : Int32) (i_38 : Int32) (i_39 : Int32) (i_40 : Int32) (i_41 : Int32) (i_42 : Int32) (i_43 : Int32) (i_44 : Int32) (i_45 : Int32) (i_46 : Int32) (i_47 : Int32) (i_48 : Int32) (i_49 : Int32) (i_50 : Int32) (i_51 : Int32) (i_52 : Int32) (i_53 : Int32) (f_0 : Nat → Int32) (f_1 : Nat → Int32) (f_2 : Nat → Int32) (f_3 : Nat → Int32) (f_4 : Nat → Int32) (f_5 : Nat → Int32) (f_6 : Nat → Int32) (f_7 : Nat → Int32) (f_8 : Nat → Int32) (h0 : mm_rg i_12 0 8) (h1 : mm_rg i_19 0 601) (h2 : mm_rg i_20 0 601) (h3 : mm_rg i_21 0 601) (h4 : mm_rg i_22 0 601) (h5 : mm_rg i_23 0 601) (h6 : mm_rg i_24 0 10) (h7 : mm_rg i_25 0 99) (h8 : mm_rg i_26 0 9) (h9 : mm_rg i_27 0 3) (h10 : mm_rg i_28 0 6) (h11 : mm_rg i_29 0 30) (h12 : mm_rg i_30 0 10) (h13 : mm_rg i_31 0 99) (h14 : mm_rg i_32 0 9) (h15 : mm_rg i_33 0 3) (h16 : mm_rg i_34 0 6) (h17 : mm_rg i_35 0 30) (h18 : mm_rg i_36 0 10) (h19 : mm_rg i_37 0 99) (h20 : mm_rg i_38 0 9) (h21 : mm_rg i_39 0 3) (h22 : mm_rg i_40 0 6) (h23 : mm_rg i_41 0 30) (h24 : mm_rg i_42 0 10) (h25 : mm_rg i_43 0 99) (h26 : mm_rg i_44 0 9) (h27 : mm_rg i_45 0 3) (h28 : mm_rg i_46 0 6) (h29 : mm_rg i_47 0 30) (h30 : mm_rg i_48 0 10) (h31 : mm_rg i_49 0 99) (h32 : mm_rg i_50 0 9) (h33 : mm_rg i_51 0 3) (h34 : mm_rg i_52 0 6) (h35 : mm_rg i_53 0 30) (h36 : mm_ar f_0 0 7) (h37 : mm_ar f_1 0 9) (h38 : mm_ar f_2 0 8) (h39 : mm_ar f_3 0 9) (h40 : mm_ar f_4 (-1) 99) (h41 : mm_ar f_5 0 9) (h42 : mm_ar f_6 0 210) (h43 : mm_ar f_7 0 210) (h44 : mm_ar f_8 0 9) (h45 : mm_rls f_0 f_1 0 i_26 i_27) (h46 : mm_txs f_2 f_3 0 i_26 i_28) (h47 : mm_acs f_4 0 i_26 i_27 i_29) (h48 : mm_tl i_19 i_27 i_28) (h49 : mm_rls f_0 f_1 1 i_32 i_33) (h50 : mm_txs f_2 f_3 1 i_32 i_34) (h51 : mm_acs f_4 1 i_32 i_33 i_35) (h52 : mm_tl i_20 i_33 i_34) (h53 : mm_rls f_0 f_1 2 i_38 i_39) (h54 : mm_txs f_2 f_3 2 i_38 i_40) (h55 : mm_acs f_4 2 i_38 i_39 i_41) (h56 : mm_tl i_21 i_39 i_40) (h57 : mm_rls f_0 f_1 3 i_44 i_45) (h58 : mm_txs f_2 f_3 3 i_44 i_46) (h59 : mm_acs f_4 3 i_44 i_45 i_47) (h60 : mm_tl i_22 i_45 i_46)  : mm_CI l yX12_clear (mm_ws yX12_clear cX12_clear 4 (some .int)) ({ frames := 14, cells := 0, slots := 0, locals := 300 } : Room) G cy sz [(a_0, .inr (12, [.int i_2, .ref a_1, .ref a_2, .ref a_3, .ref a_4, .ref a_5, .int i_3, .int i_4, .int i_5, .int i_6, .int i_7, .long j_0, .int i_8, .int i_9, .int i_10, .int i_11, .ref a_6, .ref a_7, .ref a_8, .ref a_9, .ref a_10, .ref a_11, .ref a_12, .ref a_13, .ref a_14, .ref a_15, .ref a_16, .ref a_17, .ref a_18, .int i_12, .int i_13, .int i_14, .int i_15, .int i_16, .int i_17, .ref a_19, .int i_18, .ref a_20])), (a_6, .inl (cy 1, 5, .inl (mm_g [i_19, i_20, i_21, i_22, i_23]))), (a_7, .inl (cy 1, 30, .inl (mm_g [i_24, i_25, i_26, i_27, i_28, i_29, i_30, i_31, i_32, i_33, i_34, i_35, i_36, i_37, i_38, i_39, i_40, i_41, i_42, i_43, i_44, i_45, i_46, i_47, i_48, i_49, i_50, i_51, i_52, i_53]))), (a_9, .inl (cy 1, 15, .inl f_0)), (a_10, .inl (cy 1, 1050, .inl f_1)), (a_11, .inl (cy 1, 30, .inl f_2)), (a_12, .inl (cy 1, 240, .inl f_3)), (a_13, .inl (cy 1, 450, .inl f_4)), (a_15, .inl (cy 1, 7200, .inl f_5)), (a_16, .inl (cy 1, 3, .inl f_6)), (a_17, .inl (cy 1, 3, .inl f_7)), (a_18, .inl (cy 1, 8, .inl f_8))] [.ref a_0, .int i_0, .int i_1] (fun u : Int32 × (Nat → Int32) × (Nat → Int32) × (Nat → Int32) × (Nat → Int32) => [(a_0, .inr (12, [.int 0, .ref a_1, .ref a_2, .ref a_3, .ref a_4, .ref a_5, .int i_3, .int i_4, .int i_5, .int i_6, .int i_7, .long j_0, .int i_8, .int i_9, .int i_10, .int i_11, .ref a_6, .ref a_7, .ref a_8, .ref a_9, .ref a_10, .ref a_11, .ref a_12, .ref a_13, .ref a_14, .ref a_15, .ref a_16, .ref a_17, .ref a_18, .int u.1, .int i_13, .int i_14, .int i_15, .int i_16, .int i_17, .ref a_19, .int i_18, .ref a_20])), (a_6, .inl (cy 1, 5, .inl (mm_g [i_19, i_20, i_21, i_22, i_23]))), (a_7, .inl (cy 1, 30, .inl (mm_g [i_24, i_25, i_26, i_27, i_28, i_29, i_30, i_31, i_32, i_33, i_34, i_35, i_36, i_37, i_38, i_39, i_40, i_41, i_42, i_43, i_44, i_45, i_46, i_47, i_48, i_49, i_50, i_51, i_52, i_53]))), (a_9, .inl (cy 1, 15, .inl f_0)), (a_10, .inl (cy 1, 1050, .inl f_1)), (a_11, .inl (cy 1, 30, .inl f_2)), (a_12, .inl (cy 1, 240, .inl f_3)), (a_13, .inl (cy 1, 450, .inl f_4)), (a_15, .inl (cy 1, 7200, .inl u.2.1)), (a_16, .inl (cy 1, 3, .inl u.2.2.1)), (a_17, .inl (cy 1, 3, .inl u.2.2.2.1)), (a_18, .inl (cy 1, 8, .inl u.2.2.2.2))]) (fun (r : Int32) (u : Int32 × (Nat → Int32) × (Nat → Int32) × (Nat → Int32) × (Nat → Int32)) => mm_rg u.1 0 8 ∧ mm_ar u.2.1 0 9 ∧ mm_ar u.2.2.1 0 210 ∧ mm_ar u.2.2.2.1 0 210 ∧ mm_ar u.2.2.2.2 0 9 ∧ mm_rg r (-2) 209) 0 0 := by
  refine mm_begin (lv := [(0, .ref a_0), (1, .int i_0), (2, .int i_1)]) (by decide) (Nat.le_of_ble_eq_true rfl) rfl ?_
  intro p e s m below meth c A ls R args Q H locs hRe hQ hAe hx hb hr hlocks hml hown hnm hts hsz hA hS hP hK hD hZ hl
  have hRf : R.frames = 14 := by rw [hRe]
  have hRl : R.locals = 300 := by rw [hRe]
  have hRc : R.cells = 0 := by rw [hRe]
  have hRs : R.slots = 0 := by rw [hRe]
  refine lv_aload_n hx hb dX12_clear_0 rfl (lv_at hl 0 rfl) ?_
  refine lv_iconst (v := 0) hx hb dX12_clear_1 (by decide) ?_
  refine va_put (D := G) (ci := 12) (v := .int 0) (ty := tyX12 0) (C := RX12) (T := TX12) (N := 38) hx hb hts (mm_i inlX12) tyX12 tyX12_ok nmX12 hown hK.1 hP hD hS 0 rfl rfl 0 (by decide) (mm_h hts mm_w177) (fun _ h9 => h9) rfl (tyX12_ok 0 (by decide)) rfl rfl (Nat.le_of_ble_eq_true rfl) dX12_clear_2 ?_
  clear hP hD hS
  clear H locs
  intro H locs (hP : va_P G vwCl [(a_0, .inr (12, [.int 0, .ref a_1, .ref a_2, .ref a_3, .ref a_4, .ref a_5, .int i_3, .int i_4, .int i_5, .int i_6, .int i_7, .long j_0, .int i_8, .int i_9, .int i_10, .int i_11, .ref a_6, .ref a_7, .ref a_8, .ref a_9, .ref a_10, .ref a_11, .ref a_12, .ref a_13, .ref a_14, .ref a_15, .ref a_16, .ref a_17, .ref a_18, .int i_12, .int i_13, .int i_14, .int i_15, .int i_16, .int i_17, .ref a_19, .int i_18, .ref a_20])), (a_6, .inl (cy 1, 5, .inl (mm_g [i_19, i_20, i_21, i_22, i_23]))), (a_7, .inl (cy 1, 30, .inl (mm_g [i_24, i_25, i_26, i_27, i_28, i_29, i_30, i_31, i_32, i_33, i_34, i_35, i_36, i_37, i_38, i_39, i_40, i_41, i_42, i_43, i_44, i_45, i_46, i_47, i_48, i_49, i_50, i_51, i_52, i_53]))), (a_9, .inl (cy 1, 15, .inl f_0)), (a_10, .inl (cy 1, 1050, .inl f_1)), (a_11, .inl (cy 1, 30, .inl f_2)), (a_12, .inl (cy 1, 240, .inl f_3)), (a_13, .inl (cy 1, 450, .inl f_4)), (a_15, .inl (cy 1, 7200, .inl f_5)), (a_16, .inl (cy 1, 3, .inl f_6)), (a_17, .inl (cy 1, 3, .inl f_7)), (a_18, .inl (cy 1, 8, .inl f_8))] H) (hD : va_D A [(a_0, .inr (12, [.int 0, .ref a_1, .ref a_2, .ref a_3, .ref a_4, .ref a_5, .int i_3, .int i_4, .int i_5, .int i_6, .int i_7, .long j_0, .int i_8, .int i_9, .int i_10, .int i_11, .ref a_6, .ref a_7, .ref a_8, .ref a_9, .ref a_10, .ref a_11, .ref a_12, .ref a_13, .ref a_14, .ref a_15, .ref a_16, .ref a_17, .ref a_18, .int i_12, .int i_13, .int i_14, .int i_15, .int i_16, .int i_17, .ref a_19, .int i_18, .ref a_20])), (a_6, .inl (cy 1, 5, .inl (mm_g [i_19, i_20, i_21, i_22, i_23]))), (a_7, .inl (cy 1, 30, .inl (mm_g [i_24, i_25, i_26, i_27, i_28, i_29, i_30, i_31, i_32, i_33, i_34, i_35, i_36, i_37, i_38, i_39, i_40, i_41, i_42, i_43, i_44, i_45, i_46, i_47, i_48, i_49, i_50, i_51, i_52, i_53]))), (a_9, .inl (cy 1, 15, .inl f_0)), (a_10, .inl (cy 1, 1050, .inl f_1)), (a_11, .inl (cy 1, 30, .inl f_2)), (a_12, .inl (cy 1, 240, .inl f_3)), (a_13, .inl (cy 1, 450, .inl f_4)), (a_15, .inl (cy 1, 7200, .inl f_5)), (a_16, .inl (cy 1, 3, .inl f_6)), (a_17, .inl (cy 1, 3, .inl f_7)), (a_18, .inl (cy 1, 8, .inl f_8))]) hS
  refine lv_aload_n hx hb dX12_clear_5 rfl (lv_at hl 0 rfl) ?_
  refine lv_iload_n hx hb dX12_clear_6 rfl (lv_at hl 1 rfl) ?_
  refine mm_finir (va_runV (As := [.int i_0]) (rest := []) ⟨hx, hb, hml, hown, hts⟩ (M98_X12_isLand l G cy H.size a_0 i_0 0 a_1 a_2 a_3 a_4 a_5 i_3 i_4 i_5 i_6 i_7 j_0 i_8 i_9 i_10 i_11 a_6 a_7 a_8 a_9 a_10 a_11 a_12 a_13 a_14 a_15 a_16 a_17 a_18 i_12 i_13 i_14 i_15 i_16 i_17 a_19 i_18 a_20 i_24 i_25 i_26 i_27 i_28 i_29 i_30 i_31 i_32 i_33 i_34 i_35 i_36 i_37 i_38 i_39 i_40 i_41 i_42 i_43 i_44 i_45 i_46 i_47 i_48 i_49 i_50 i_51 i_52 i_53 h6 h7 h8 h9 h10 h11 h12 h13 h14 h15 h16 h17 h18 h19 h20 h21 h22 h23 h24 h25 h26 h27 h28 h29 h30 h31 h32 h33 h34 h35) (cwV 1 hts (mm_gV mm_w641 mm_w642 mm_w643 mm_w5 mm_w644) rfl rfl rfl hd_X12_isLand ⟨by rw [hRf]; exact Nat.le_of_ble_eq_true rfl, by rw [hRl]; exact Nat.le_of_ble_eq_true rfl⟩) (mm_preV hK hZ hS hA hP hD [0, 2] rfl rfl 0 rfl rfl rfl) rfl rfl hl.1 rfl (lv_room (Nat.le_of_ble_eq_true rfl)) dX12_clear_7 ⟨by rw [hRc]; exact Nat.le_of_ble_eq_true rfl, by rw [hRs]; exact Nat.le_of_ble_eq_true rfl⟩) hP hD hS hA [0, 2] rfl (fun _ => rfl) ?_
  clear hP hD hS
  clear H locs
  intro v1 _u H locs hw hP hD hS
  rcases hw with rfl | ⟨rfl, w2, w3⟩
  · refine lv_if_eq (tgt := 22) hx hb dX12_clear_10 (by decide) (fun c4 => ?_) (fun c4 => ?_)
    · refine lv_bipush (v := (-2)) hx hb dX12_clear_22 (by decide) ?_
      subst hAe
      rw [hQ]
      exact W.iret (v := (-2)) hx hb hr (fun t ht hW => ⟨⟨(-2), (i_12, f_5, f_6, f_7, f_8), rfl, ⟨h0, h41, h42, h43, h44, (mm_wk mm_km2 (by decide))⟩, by rw [ht]; exact hP, hK.warm hW, hD⟩, hS.F ht⟩) hS.2.2 dX12_clear_24
    · have q5 := mm_neL (lo := 1) (mm_ne c4) mm_k0 mm_k0 (by decide) (by decide)
      exact mm_no q5 (by decide)
  · have q6 := mm_ltR (lo := 1) w3 w2 h9 (by decide)
    have q7 : mm_rg i_19 1 601 := mm_tl_3 h48 q6 h1 (by decide)
    refine lv_if_eq (tgt := 22) hx hb dX12_clear_10 (by decide) (fun c8 => ?_) (fun c8 => ?_)
    · exact mm_eqN c8.symm mm_k0 mm_k1 (by decide)
    · refine lv_aload_n hx hb dX12_clear_13 rfl (lv_at hl 0 rfl) ?_
      refine lv_iload_n hx hb dX12_clear_14 rfl (lv_at hl 2 rfl) ?_
      obtain ⟨v9, ev9⟩ : ∃ y : Int64, y = i_1.toInt64 := ⟨_, rfl⟩
      refine lv_i2l hx hb dX12_clear_15 ev9.symm ?_
      have rv9 : mm_rl v9 (-2147483648) 2147483647 := mm_i2l ev9 (mm_top i_1)
      refine mm_finir (va_runV (As := [.long v9]) (rest := []) ⟨hx, hb, hml, hown, hts⟩ (M96_X12_isText l G cy H.size a_0 v9 0 a_1 a_2 a_3 a_4 a_5 i_3 i_4 i_5 i_6 i_7 j_0 i_8 i_9 i_10 i_11 a_6 a_7 a_8 a_9 a_10 a_11 a_12 a_13 a_14 a_15 a_16 a_17 a_18 i_12 i_13 i_14 i_15 i_16 i_17 a_19 i_18 a_20 i_24 i_25 i_26 i_27 i_28 i_29 i_30 i_31 i_32 i_33 i_34 i_35 i_36 i_37 i_38 i_39 i_40 i_41 i_42 i_43 i_44 i_45 i_46 i_47 i_48 i_49 i_50 i_51 i_52 i_53 h6 h7 h8 (mm_wk q6 (by decide)) h10 h11 h12 h13 h14 h15 h16 h17 h18 h19 h20 h21 h22 h23 h24 h25 h26 h27 h28 h29 h30 h31 h32 h33 h34 h35) (cwV 1 hts (mm_gV mm_w613 mm_w614 mm_w615 mm_w5 mm_w616) rfl rfl rfl hd_X12_isText ⟨by rw [hRf]; exact Nat.le_of_ble_eq_true rfl, by rw [hRl]; exact Nat.le_of_ble_eq_true rfl⟩) (mm_preV hK hZ hS hA hP hD [0, 2] rfl rfl 0 rfl rfl rfl) rfl rfl hl.1 rfl (lv_room (Nat.le_of_ble_eq_true rfl)) dX12_clear_16 ⟨by rw [hRc]; exact Nat.le_of_ble_eq_true rfl, by rw [hRs]; exact Nat.le_of_ble_eq_true rfl⟩) hP hD hS hA [0, 2] rfl (fun _ => rfl) ?_
      clear hP hD hS
      clear H locs
      intro v10 _u H locs hw hP hD hS
      rcases hw with rfl | ⟨rfl, w11, w12⟩
      · refine lv_if_ne (tgt := 25) hx hb dX12_clear_19 (by decide) (fun c13 => ?_) (fun c13 => ?_)
        · have q14 := mm_neL (lo := 1) (mm_ne c13) mm_k0 mm_k0 (by decide) (by decide)
          exact mm_no q14 (by decide)
        · refine lv_bipush (v := (-2)) hx hb dX12_clear_22 (by decide) ?_
          subst hAe
          rw [hQ]
          exact W.iret (v := (-2)) hx hb hr (fun t ht hW => ⟨⟨(-2), (i_12, f_5, f_6, f_7, f_8), rfl, ⟨h0, h41, h42, h43, h44, (mm_wk mm_km2 (by decide))⟩, by rw [ht]; exact hP, hK.warm hW, hD⟩, hS.F ht⟩) hS.2.2 dX12_clear_24
      · have q15 := mm_meet (lo := 0) (hi := 5) (mm_l2x ev9 w11) (mm_top i_1) (by decide)
        have w16 := mm_tx_lt w12 (mm_i2lE ev9)
        have q17 := mm_ltR (lo := 1) w16 q15 h10 (by decide)
        refine lv_if_ne (tgt := 25) hx hb dX12_clear_19 (by decide) (fun c18 => ?_) (fun c18 => ?_)
        · refine lv_aload_n hx hb dX12_clear_25 rfl (lv_at hl 0 rfl) ?_
          refine mm_finv (va_runV (As := []) (rest := []) ⟨hx, hb, hml, hown, hts⟩ (M125_X12_lays l G cy H.size a_0 0 a_1 a_2 a_3 a_4 a_5 i_3 i_4 i_5 i_6 i_7 j_0 i_8 i_9 i_10 i_11 a_6 a_7 a_8 a_9 a_10 a_11 a_12 a_13 a_14 a_15 a_16 a_17 a_18 i_12 i_13 i_14 i_15 i_16 i_17 a_19 i_18 a_20 i_19 i_20 i_21 i_22 i_23 i_24 i_25 i_26 i_27 i_28 i_29 i_30 i_31 i_32 i_33 i_34 i_35 i_36 i_37 i_38 i_39 i_40 i_41 i_42 i_43 i_44 i_45 i_46 i_47 i_48 i_49 i_50 i_51 i_52 i_53 f_0 f_1 f_4 f_5 f_6 f_7 (mm_wk q7 (by decide)) h2 h3 h4 h5 h6 h7 h8 (mm_wk q6 (by decide)) (mm_wk q17 (by decide)) h11 h12 h13 h14 h15 h16 h17 h18 h19 h20 h21 h22 h23 h24 h25 h26 h27 h28 h29 h30 h31 h32 h33 h34 h35 h36 h37 h40 h41 h42 h43 h45 h47 h48 h49 h51 h52 h53 h55 h56 h57 h59 h60) (cwV 0 hts (mm_gV mm_w686 mm_w687 mm_w688 mm_w5 mm_w689) rfl rfl rfl hd_X12_lays ⟨by rw [hRf]; exact Nat.le_of_ble_eq_true rfl, by rw [hRl]; exact Nat.le_of_ble_eq_true rfl⟩) (mm_preV hK hZ hS hA hP hD [0, 1, 2, 3, 4, 7, 8, 9, 10] rfl rfl 0 rfl rfl rfl) rfl rfl hl.1 rfl (lv_room (Nat.le_of_ble_eq_true rfl)) dX12_clear_26 ⟨by rw [hRc]; exact Nat.le_of_ble_eq_true rfl, by rw [hRs]; exact Nat.le_of_ble_eq_true rfl⟩) hP hD hS hA (fun u : (Nat → Int32) × (Nat → Int32) × (Nat → Int32) => [(a_0, .inr (12, [.int 0, .ref a_1, .ref a_2, .ref a_3, .ref a_4, .ref a_5, .int i_3, .int i_4, .int i_5, .int i_6, .int i_7, .long j_0, .int i_8, .int i_9, .int i_10, .int i_11, .ref a_6, .ref a_7, .ref a_8, .ref a_9, .ref a_10, .ref a_11, .ref a_12, .ref a_13, .ref a_14, .ref a_15, .ref a_16, .ref a_17, .ref a_18, .int i_12, .int i_13, .int i_14, .int i_15, .int i_16, .int i_17, .ref a_19, .int i_18, .ref a_20])), (a_6, .inl (cy 1, 5, .inl (mm_g [i_19, i_20, i_21, i_22, i_23]))), (a_7, .inl (cy 1, 30, .inl (mm_g [i_24, i_25, i_26, i_27, i_28, i_29, i_30, i_31, i_32, i_33, i_34, i_35, i_36, i_37, i_38, i_39, i_40, i_41, i_42, i_43, i_44, i_45, i_46, i_47, i_48, i_49, i_50, i_51, i_52, i_53]))), (a_9, .inl (cy 1, 15, .inl f_0)), (a_10, .inl (cy 1, 1050, .inl f_1)), (a_11, .inl (cy 1, 30, .inl f_2)), (a_12, .inl (cy 1, 240, .inl f_3)), (a_13, .inl (cy 1, 450, .inl f_4)), (a_15, .inl (cy 1, 7200, .inl u.1)), (a_16, .inl (cy 1, 3, .inl u.2.1)), (a_17, .inl (cy 1, 3, .inl u.2.2)), (a_18, .inl (cy 1, 8, .inl f_8))]) [0, 1, 2, 3, 4, 7, 8, 9, 10] [5, 6, 11] (n := 12) (fun _ => rfl) (by decide +kernel) (by decide +kernel) rfl (fun _ => rfl) (wr := [(a_11, .inl (cy 1, 30, .inl f_2)), (a_12, .inl (cy 1, 240, .inl f_3)), (a_18, .inl (cy 1, 8, .inl f_8))]) rfl (fun _ => rfl) (fun _ => @rfl _ ([a_0, a_6, a_7, a_9, a_10, a_13, a_15, a_16, a_17] : List Nat)) ?_
          clear hP hD hS
          clear H locs
          intro u
          obtain ⟨n19, n20, n21⟩ := u
          intro H locs hw (hP : va_P G vwCl [(a_0, .inr (12, [.int 0, .ref a_1, .ref a_2, .ref a_3, .ref a_4, .ref a_5, .int i_3, .int i_4, .int i_5, .int i_6, .int i_7, .long j_0, .int i_8, .int i_9, .int i_10, .int i_11, .ref a_6, .ref a_7, .ref a_8, .ref a_9, .ref a_10, .ref a_11, .ref a_12, .ref a_13, .ref a_14, .ref a_15, .ref a_16, .ref a_17, .ref a_18, .int i_12, .int i_13, .int i_14, .int i_15, .int i_16, .int i_17, .ref a_19, .int i_18, .ref a_20])), (a_6, .inl (cy 1, 5, .inl (mm_g [i_19, i_20, i_21, i_22, i_23]))), (a_7, .inl (cy 1, 30, .inl (mm_g [i_24, i_25, i_26, i_27, i_28, i_29, i_30, i_31, i_32, i_33, i_34, i_35, i_36, i_37, i_38, i_39, i_40, i_41, i_42, i_43, i_44, i_45, i_46, i_47, i_48, i_49, i_50, i_51, i_52, i_53]))), (a_9, .inl (cy 1, 15, .inl f_0)), (a_10, .inl (cy 1, 1050, .inl f_1)), (a_11, .inl (cy 1, 30, .inl f_2)), (a_12, .inl (cy 1, 240, .inl f_3)), (a_13, .inl (cy 1, 450, .inl f_4)), (a_15, .inl (cy 1, 7200, .inl n19)), (a_16, .inl (cy 1, 3, .inl n20)), (a_17, .inl (cy 1, 3, .inl n21)), (a_18, .inl (cy 1, 8, .inl f_8))] H) (hD : va_D A [(a_0, .inr (12, [.int 0, .ref a_1, .ref a_2, .ref a_3, .ref a_4, .ref a_5, .int i_3, .int i_4, .int i_5, .int i_6, .int i_7, .long j_0, .int i_8, .int i_9, .int i_10, .int i_11, .ref a_6, .ref a_7, .ref a_8, .ref a_9, .ref a_10, .ref a_11, .ref a_12, .ref a_13, .ref a_14, .ref a_15, .ref a_16, .ref a_17, .ref a_18, .int i_12, .int i_13, .int i_14, .int i_15, .int i_16, .int i_17, .ref a_19, .int i_18, .ref a_20])), (a_6, .inl (cy 1, 5, .inl (mm_g [i_19, i_20, i_21, i_22, i_23]))), (a_7, .inl (cy 1, 30, .inl (mm_g [i_24, i_25, i_26, i_27, i_28, i_29, i_30, i_31, i_32, i_33, i_34, i_35, i_36, i_37, i_38, i_39, i_40, i_41, i_42, i_43, i_44, i_45, i_46, i_47, i_48, i_49, i_50, i_51, i_52, i_53]))), (a_9, .inl (cy 1, 15, .inl f_0)), (a_10, .inl (cy 1, 1050, .inl f_1)), (a_11, .inl (cy 1, 30, .inl f_2)), (a_12, .inl (cy 1, 240, .inl f_3)), (a_13, .inl (cy 1, 450, .inl f_4)), (a_15, .inl (cy 1, 7200, .inl n19)), (a_16, .inl (cy 1, 3, .inl n20)), (a_17, .inl (cy 1, 3, .inl n21)), (a_18, .inl (cy 1, 8, .inl f_8))]) hS
          obtain ⟨w22, w23, w24, w25, w26⟩ := hw
          replace w25 : mm_laid n20 n21 i_27 := w25
          replace w26 : mm_tab n19 n20 i_26 i_27 := w26
          refine lv_aload_n hx hb dX12_clear_29 rfl (lv_at hl 0 rfl) ?_
          refine lv_iload_n hx hb dX12_clear_30 rfl (lv_at hl 2 rfl) ?_
          refine mm_finv (va_runV (As := [.int i_1]) (rest := []) ⟨hx, hb, hml, hown, hts⟩ (M138_X12_laysText l G cy H.size a_0 i_1 0 a_1 a_2 a_3 a_4 a_5 i_3 i_4 i_5 i_6 i_7 j_0 i_8 i_9 i_10 i_11 a_6 a_7 a_8 a_9 a_10 a_11 a_12 a_13 a_14 a_15 a_16 a_17 a_18 i_12 i_13 i_14 i_15 i_16 i_17 a_19 i_18 a_20 f_2 f_3 f_8 q15 h0 h38 h39 h44) (cwV 1 hts (mm_gV mm_w856 mm_w857 mm_w858 mm_w5 mm_w859) rfl rfl rfl hd_X12_laysText ⟨by rw [hRf]; exact Nat.le_of_ble_eq_true rfl, by rw [hRl]; exact Nat.le_of_ble_eq_true rfl⟩) (mm_preV hK hZ hS hA hP hD [0, 5, 6, 11] rfl rfl 0 rfl rfl rfl) rfl rfl hl.1 rfl (lv_room (Nat.le_of_ble_eq_true rfl)) dX12_clear_31 ⟨by rw [hRc]; exact Nat.le_of_ble_eq_true rfl, by rw [hRs]; exact Nat.le_of_ble_eq_true rfl⟩) hP hD hS hA (fun u : Int32 × (Nat → Int32) => [(a_0, .inr (12, [.int 0, .ref a_1, .ref a_2, .ref a_3, .ref a_4, .ref a_5, .int i_3, .int i_4, .int i_5, .int i_6, .int i_7, .long j_0, .int i_8, .int i_9, .int i_10, .int i_11, .ref a_6, .ref a_7, .ref a_8, .ref a_9, .ref a_10, .ref a_11, .ref a_12, .ref a_13, .ref a_14, .ref a_15, .ref a_16, .ref a_17, .ref a_18, .int u.1, .int i_13, .int i_14, .int i_15, .int i_16, .int i_17, .ref a_19, .int i_18, .ref a_20])), (a_6, .inl (cy 1, 5, .inl (mm_g [i_19, i_20, i_21, i_22, i_23]))), (a_7, .inl (cy 1, 30, .inl (mm_g [i_24, i_25, i_26, i_27, i_28, i_29, i_30, i_31, i_32, i_33, i_34, i_35, i_36, i_37, i_38, i_39, i_40, i_41, i_42, i_43, i_44, i_45, i_46, i_47, i_48, i_49, i_50, i_51, i_52, i_53]))), (a_9, .inl (cy 1, 15, .inl f_0)), (a_10, .inl (cy 1, 1050, .inl f_1)), (a_11, .inl (cy 1, 30, .inl f_2)), (a_12, .inl (cy 1, 240, .inl f_3)), (a_13, .inl (cy 1, 450, .inl f_4)), (a_15, .inl (cy 1, 7200, .inl n19)), (a_16, .inl (cy 1, 3, .inl n20)), (a_17, .inl (cy 1, 3, .inl n21)), (a_18, .inl (cy 1, 8, .inl u.2))]) [0, 5, 6, 11] [1, 2, 3, 4, 7, 8, 9, 10] (n := 12) (fun _ => rfl) (by decide +kernel) (by decide +kernel) rfl (fun _ => rfl) (wr := [(a_6, .inl (cy 1, 5, .inl (mm_g [i_19, i_20, i_21, i_22, i_23]))), (a_7, .inl (cy 1, 30, .inl (mm_g [i_24, i_25, i_26, i_27, i_28, i_29, i_30, i_31, i_32, i_33, i_34, i_35, i_36, i_37, i_38, i_39, i_40, i_41, i_42, i_43, i_44, i_45, i_46, i_47, i_48, i_49, i_50, i_51, i_52, i_53]))), (a_9, .inl (cy 1, 15, .inl f_0)), (a_10, .inl (cy 1, 1050, .inl f_1)), (a_13, .inl (cy 1, 450, .inl f_4)), (a_15, .inl (cy 1, 7200, .inl n19)), (a_16, .inl (cy 1, 3, .inl n20)), (a_17, .inl (cy 1, 3, .inl n21))]) rfl (fun _ => rfl) (fun _ => rfl) ?_
          clear hP hD hS
          clear H locs
          intro u
          obtain ⟨n27, n28⟩ := u
          intro H locs hw (hP : va_P G vwCl [(a_0, .inr (12, [.int 0, .ref a_1, .ref a_2, .ref a_3, .ref a_4, .ref a_5, .int i_3, .int i_4, .int i_5, .int i_6, .int i_7, .long j_0, .int i_8, .int i_9, .int i_10, .int i_11, .ref a_6, .ref a_7, .ref a_8, .ref a_9, .ref a_10, .ref a_11, .ref a_12, .ref a_13, .ref a_14, .ref a_15, .ref a_16, .ref a_17, .ref a_18, .int n27, .int i_13, .int i_14, .int i_15, .int i_16, .int i_17, .ref a_19, .int i_18, .ref a_20])), (a_6, .inl (cy 1, 5, .inl (mm_g [i_19, i_20, i_21, i_22, i_23]))), (a_7, .inl (cy 1, 30, .inl (mm_g [i_24, i_25, i_26, i_27, i_28, i_29, i_30, i_31, i_32, i_33, i_34, i_35, i_36, i_37, i_38, i_39, i_40, i_41, i_42, i_43, i_44, i_45, i_46, i_47, i_48, i_49, i_50, i_51, i_52, i_53]))), (a_9, .inl (cy 1, 15, .inl f_0)), (a_10, .inl (cy 1, 1050, .inl f_1)), (a_11, .inl (cy 1, 30, .inl f_2)), (a_12, .inl (cy 1, 240, .inl f_3)), (a_13, .inl (cy 1, 450, .inl f_4)), (a_15, .inl (cy 1, 7200, .inl n19)), (a_16, .inl (cy 1, 3, .inl n20)), (a_17, .inl (cy 1, 3, .inl n21)), (a_18, .inl (cy 1, 8, .inl n28))] H) (hD : va_D A [(a_0, .inr (12, [.int 0, .ref a_1, .ref a_2, .ref a_3, .ref a_4, .ref a_5, .int i_3, .int i_4, .int i_5, .int i_6, .int i_7, .long j_0, .int i_8, .int i_9, .int i_10, .int i_11, .ref a_6, .ref a_7, .ref a_8, .ref a_9, .ref a_10, .ref a_11, .ref a_12, .ref a_13, .ref a_14, .ref a_15, .ref a_16, .ref a_17, .ref a_18, .int n27, .int i_13, .int i_14, .int i_15, .int i_16, .int i_17, .ref a_19, .int i_18, .ref a_20])), (a_6, .inl (cy 1, 5, .inl (mm_g [i_19, i_20, i_21, i_22, i_23]))), (a_7, .inl (cy 1, 30, .inl (mm_g [i_24, i_25, i_26, i_27, i_28, i_29, i_30, i_31, i_32, i_33, i_34, i_35, i_36, i_37, i_38, i_39, i_40, i_41, i_42, i_43, i_44, i_45, i_46, i_47, i_48, i_49, i_50, i_51, i_52, i_53]))), (a_9, .inl (cy 1, 15, .inl f_0)), (a_10, .inl (cy 1, 1050, .inl f_1)), (a_11, .inl (cy 1, 30, .inl f_2)), (a_12, .inl (cy 1, 240, .inl f_3)), (a_13, .inl (cy 1, 450, .inl f_4)), (a_15, .inl (cy 1, 7200, .inl n19)), (a_16, .inl (cy 1, 3, .inl n20)), (a_17, .inl (cy 1, 3, .inl n21)), (a_18, .inl (cy 1, 8, .inl n28))]) hS
          obtain ⟨w29, w30, w31⟩ := hw
          replace w31 : mm_ltx f_3 f_2 i_1 n28 n27 := w31
          refine lv_iconst (v := 0) hx hb dX12_clear_34 (by decide) ?_
          refine lv_istore_n (lv' := [(3, .int 0), (0, .ref a_0), (1, .int i_0), (2, .int i_1)]) hx hb dX12_clear_35 rfl hl (by decide) rfl ?_
          clear hl
          clear ls
          intro ls hl
          have L36_189 : ∀ (n : Nat) (x36_3_189 : Int32), mm_rg x36_3_189 0 210 → (210 - x36_3_189.toInt).toNat < n → ∀ (H : Heap) (locs : List Loc), va_P G vwCl [(a_0, .inr (12, [.int 0, .ref a_1, .ref a_2, .ref a_3, .ref a_4, .ref a_5, .int i_3, .int i_4, .int i_5, .int i_6, .int i_7, .long j_0, .int i_8, .int i_9, .int i_10, .int i_11, .ref a_6, .ref a_7, .ref a_8, .ref a_9, .ref a_10, .ref a_11, .ref a_12, .ref a_13, .ref a_14, .ref a_15, .ref a_16, .ref a_17, .ref a_18, .int n27, .int i_13, .int i_14, .int i_15, .int i_16, .int i_17, .ref a_19, .int i_18, .ref a_20])), (a_6, .inl (cy 1, 5, .inl (mm_g [i_19, i_20, i_21, i_22, i_23]))), (a_7, .inl (cy 1, 30, .inl (mm_g [i_24, i_25, i_26, i_27, i_28, i_29, i_30, i_31, i_32, i_33, i_34, i_35, i_36, i_37, i_38, i_39, i_40, i_41, i_42, i_43, i_44, i_45, i_46, i_47, i_48, i_49, i_50, i_51, i_52, i_53]))), (a_9, .inl (cy 1, 15, .inl f_0)), (a_10, .inl (cy 1, 1050, .inl f_1)), (a_11, .inl (cy 1, 30, .inl f_2)), (a_12, .inl (cy 1, 240, .inl f_3)), (a_13, .inl (cy 1, 450, .inl f_4)), (a_15, .inl (cy 1, 7200, .inl n19)), (a_16, .inl (cy 1, 3, .inl n20)), (a_17, .inl (cy 1, 3, .inl n21)), (a_18, .inl (cy 1, 8, .inl n28))] H → va_D A [(a_0, .inr (12, [.int 0, .ref a_1, .ref a_2, .ref a_3, .ref a_4, .ref a_5, .int i_3, .int i_4, .int i_5, .int i_6, .int i_7, .long j_0, .int i_8, .int i_9, .int i_10, .int i_11, .ref a_6, .ref a_7, .ref a_8, .ref a_9, .ref a_10, .ref a_11, .ref a_12, .ref a_13, .ref a_14, .ref a_15, .ref a_16, .ref a_17, .ref a_18, .int n27, .int i_13, .int i_14, .int i_15, .int i_16, .int i_17, .ref a_19, .int i_18, .ref a_20])), (a_6, .inl (cy 1, 5, .inl (mm_g [i_19, i_20, i_21, i_22, i_23]))), (a_7, .inl (cy 1, 30, .inl (mm_g [i_24, i_25, i_26, i_27, i_28, i_29, i_30, i_31, i_32, i_33, i_34, i_35, i_36, i_37, i_38, i_39, i_40, i_41, i_42, i_43, i_44, i_45, i_46, i_47, i_48, i_49, i_50, i_51, i_52, i_53]))), (a_9, .inl (cy 1, 15, .inl f_0)), (a_10, .inl (cy 1, 1050, .inl f_1)), (a_11, .inl (cy 1, 30, .inl f_2)), (a_12, .inl (cy 1, 240, .inl f_3)), (a_13, .inl (cy 1, 450, .inl f_4)), (a_15, .inl (cy 1, 7200, .inl n19)), (a_16, .inl (cy 1, 3, .inl n20)), (a_17, .inl (cy 1, 3, .inl n21)), (a_18, .inl (cy 1, 8, .inl n28))] → va_S A s.heap H locs → ∀ (ls : Array Slot), lv_has ls 4 [(3, .int x36_3_189), (0, .ref a_0), (1, .int i_0), (2, .int i_1)] → W p l e R s m args below meth c H locs 0 0 Q (F0 m 36 ls []) := by
            intro n
            induction n with
            | zero => intro x36_3_189 rx36_3_189 hm; exact absurd hm (Nat.not_lt_zero _)
            | succ n ih36 =>
              intro x36_3_189 rx36_3_189 hm36 H locs hP hD hS ls hl
              refine lv_iload_n hx hb dX12_clear_36 rfl (lv_at hl 0 rfl) ?_
              refine lv_aload_n hx hb dX12_clear_37 rfl (lv_at hl 1 rfl) ?_
              refine va_get (D := G) (ci := 12) (v := .ref a_16) (C := RX12) (T := TX12) (N := 38) hx hb hts (mm_i inlX12) hown hK.1 hP 0 rfl rfl 26 (by decide) (mm_h hts mm_w158) (fun _ h9 => h9) rfl dX12_clear_38 ?_
              refine lv_iload_n hx hb dX12_clear_41 rfl (lv_at hl 2 rfl) ?_
              refine va_iald hx hb hK.1 hP 9 1 rfl rfl (mm_in w2 (by decide)) dX12_clear_42 ?_
              refine lv_topi (fun v191 ev191 => ?_)
              have rv191 : mm_rg v191 0 210 := mm_eqv ev191 (w23 _)
              have q192 : mm_rg v191 1 210 := mm_laid_ld0 w25 w3 ev191 w2 rv191 (by decide)
              refine lv_icmp_ge (tgt := 63) hx hb dX12_clear_43 (by decide) (fun c193 => ?_) (fun c193 => ?_)
              · have q194 := mm_leR (mm_le c193) q192 rx36_3_189
                refine lv_iconst (v := (-1)) hx hb dX12_clear_63 (by decide) ?_
                subst hAe
                rw [hQ]
                exact W.iret (v := (-1)) hx hb hr (fun t ht hW => ⟨⟨(-1), (n27, n19, n20, n21, n28), rfl, ⟨w29, w22, w23, w24, w30, (mm_wk mm_km1 (by decide))⟩, by rw [ht]; exact hP, hK.warm hW, hD⟩, hS.F ht⟩) hS.2.2 dX12_clear_64
              · have q195 := mm_ltL (h := 209) (mm_nle c193) rx36_3_189 q192 (by decide)
                refine lv_aload_n hx hb dX12_clear_46 rfl (lv_at hl 1 rfl) ?_
                refine lv_iload_n hx hb dX12_clear_47 rfl (lv_at hl 2 rfl) ?_
                refine lv_iload_n hx hb dX12_clear_48 rfl (lv_at hl 0 rfl) ?_
                refine mm_finir (va_runV (As := [.int i_0, .int x36_3_189]) (rest := []) ⟨hx, hb, hml, hown, hts⟩ (M154_X12_isClear l G cy H.size a_0 i_0 x36_3_189 0 a_1 a_2 a_3 a_4 a_5 i_3 i_4 i_5 i_6 i_7 j_0 i_8 i_9 i_10 i_11 a_6 a_7 a_8 a_9 a_10 a_11 a_12 a_13 a_14 a_15 a_16 a_17 a_18 n27 i_13 i_14 i_15 i_16 i_17 a_19 i_18 a_20 i_24 i_25 i_26 i_27 i_28 i_29 i_30 i_31 i_32 i_33 i_34 i_35 i_36 i_37 i_38 i_39 i_40 i_41 i_42 i_43 i_44 i_45 i_46 i_47 i_48 i_49 i_50 i_51 i_52 i_53 n19 n20 n28 w2 (mm_wk q195 (by decide)) w29 h6 h7 h8 (mm_wk q6 (by decide)) (mm_wk q17 (by decide)) h11 h12 h13 h14 h15 h16 h17 h18 h19 h20 h21 h22 h23 h24 h25 h26 h27 h28 h29 h30 h31 h32 h33 h34 h35 w22 w23 w30 (mm_f1_l w25 w3 w2 (by decide))) (cwV 2 hts (mm_gV mm_w996 mm_w997 mm_w998 mm_w5 mm_w999) rfl rfl rfl hd_X12_isClear ⟨by rw [hRf]; exact Nat.le_of_ble_eq_true rfl, by rw [hRl]; exact Nat.le_of_ble_eq_true rfl⟩) (mm_preV hK hZ hS hA hP hD [0, 2, 8, 9, 11] rfl rfl 0 rfl rfl rfl) rfl rfl hl.1 rfl (lv_room (Nat.le_of_ble_eq_true rfl)) dX12_clear_49 ⟨by rw [hRc]; exact Nat.le_of_ble_eq_true rfl, by rw [hRs]; exact Nat.le_of_ble_eq_true rfl⟩) hP hD hS hA [0, 2, 8, 9, 11] rfl (fun _ => rfl) ?_
                clear hP hD hS
                clear H locs
                intro v196 _u H locs hw hP hD hS
                rcases hw with rfl | rfl
                · refine lv_if_eq (tgt := 57) hx hb dX12_clear_52 (by decide) (fun c197 => ?_) (fun c197 => ?_)
                  · obtain ⟨v198, ev198⟩ : ∃ y : Int32, y = x36_3_189 + 1 := ⟨_, rfl⟩
                    refine lv_iinc (v := v198) (lv' := [(3, .int v198), (0, .ref a_0), (1, .int i_0), (2, .int i_1)]) hx hb dX12_clear_57 hl (k := 0) rfl (by rw [ev198]; rfl) (by decide) rfl ?_
                    clear hl
                    clear ls
                    intro ls hl
                    have rv198 : mm_rg v198 1 210 := mm_add ev198 q195 mm_k1 (by decide) (by decide)
                    have tv198 := mm_addEc ev198 q195 mm_k1 (by decide) (k := 1) (by decide)
                    refine lv_goto (tgt := 36) hx hb dX12_clear_60 (by decide) ?_
                    exact ih36 v198 (mm_wk rv198 (by decide)) (mm_mu hm36 tv198 (by decide) (rv198).2 (by decide)) H locs hP hD hS ls (lv_sub hl [0, 1, 2, 3] rfl)
                  · have q199 := mm_neL (lo := 1) (mm_ne c197) mm_k0 mm_k0 (by decide) (by decide)
                    exact mm_no q199 (by decide)
                · refine lv_if_eq (tgt := 57) hx hb dX12_clear_52 (by decide) (fun c200 => ?_) (fun c200 => ?_)
                  · exact mm_eqN c200.symm mm_k0 mm_k1 (by decide)
                  · refine lv_iload_n hx hb dX12_clear_55 rfl (lv_at hl 0 rfl) ?_
                    subst hAe
                    rw [hQ]
                    exact W.iret (v := x36_3_189) hx hb hr (fun t ht hW => ⟨⟨x36_3_189, (n27, n19, n20, n21, n28), rfl, ⟨w29, w22, w23, w24, w30, (mm_wk q195 (by decide))⟩, by rw [ht]; exact hP, hK.warm hW, hD⟩, hS.F ht⟩) hS.2.2 dX12_clear_56
          exact L36_189 _ 0 (mm_wk mm_k0 (by decide)) (Nat.lt_succ_self _) H locs hP hD hS ls (lv_sub hl [0, 1, 2, 3] rfl)
        · exact mm_eqN c18.symm mm_k0 mm_k1 (by decide)

set_option maxHeartbeats 4000000 in
set_option maxRecDepth 100000 in
theorem M156_X12_agree (l : Launch) (G : va_G) (cy : Nat → ClassId) (sz : Nat) (a_0 : Nat) (i_0 : Int32) (i_1 : Int32) (i_2 : Int32) (i_3 : Int32) (a_1 : Nat) (a_2 : Nat) (a_3 : Nat) (a_4 : Nat) (a_5 : Nat) (i_4 : Int32) (i_5 : Int32) (i_6 : Int32) (i_7 : Int32) (i_8 : Int32) (j_0 : Int64) (i_9 : Int32) (i_10 : Int32) (i_11 : Int32) (i_12 : Int32) (a_6 : Nat) (a_7 : Nat) (a_8 : Nat) (a_9 : Nat) (a_10 : Nat) (a_11 : Nat) (a_12 : Nat) (a_13 : Nat) (a_14 : Nat) (a_15 : Nat) (a_16 : Nat) (a_17 : Nat) (a_18 : Nat) (i_13 : Int32) (i_14 : Int32) (i_15 : Int32) (i_16 : Int32) (i_17 : Int32) (i_18 : Int32) (a_19 : Nat) (i_19 : Int32) (a_20 : Nat) (i_20 : Int32) (i_21 : Int32) (i_22 : Int32) (i_23 : Int32) (i_24 : Int32) (i_25 : Int32) (i_26 : Int32) (i_27 : Int32) (i_28 : Int32) (i_29 : Int32) (i_30 : Int32) (i_31 : Int32) (i_32 : Int32) (i_33 : Int32) (i_34 : Int32) (i_35 : Int32) (i_36 : Int32) (i_37 : Int32) (i_38 : Int32) (i_39 : Int32) (i_40 : Int32) (i_41 : Int32) (i_42 : Int32) (i_43 : Int32) (i_44 : Int32) (i_45 : Int32) (i_46 : Int32) (i_47 : Int32) (i_48 : Int32) (i_49 : Int32) (i_50 : Int32) (i_51 : Int32) (i_52 : Int32) (i_53 : Int32) (i_54 : Int32) (f_0 : Nat → Int32) (f_1 : Nat → Int32) (f_2 : Nat → Int32) (f_3 : Nat → Int32) (f_4 : Nat → Int32) (f_5 : Nat → Int32) (f_6 : Nat → Int32) (f_7 : Nat → Int32) (f_8 : Nat → Int32) (f_9 : Nat → Int32) (h0 : mm_rg i_13 0 8) (h1 : mm_rg i_20 0 601) (h2 : mm_rg i_21 0 601) (h3 : mm_rg i_22 0 601) (h4 : mm_rg i_23 0 601) (h5 : mm_rg i_24 0 601) (h6 : mm_rg i_25 0 10) (h7 : mm_rg i_26 0 99) (h8 : mm_rg i_27 0 9) (h9 : mm_rg i_28 0 3) (h10 : mm_rg i_29 0 6) (h11 : mm_rg i_30 0 30) (h12 : mm_rg i_31 0 10) (h13 : mm_rg i_32 0 99) (h14 : mm_rg i_33 0 9) (h15 : mm_rg i_34 0 3) (h16 : mm_rg i_35 0 6) (h17 : mm_rg i_36 0 30) (h18 : mm_rg i_37 0 10) (h19 : mm_rg i_38 0 99) (h20 : mm_rg i_39 0 9) (h21 : mm_rg i_40 0 3) (h22 : mm_rg i_41 0 6) (h23 : mm_rg i_42 0 30) (h24 : mm_rg i_43 0 10) (h25 : mm_rg i_44 0 99) (h26 : mm_rg i_45 0 9) (h27 : mm_rg i_46 0 3) (h28 : mm_rg i_47 0 6) (h29 : mm_rg i_48 0 30) (h30 : mm_rg i_49 0 10) (h31 : mm_rg i_50 0 99) (h32 : mm_rg i_51 0 9) (h33 : mm_rg i_52 0 3) (h34 : mm_rg i_53 0 6) (h35 : mm_rg i_54 0 30) (h36 : mm_ar f_0 0 99) (h37 : mm_ar f_1 0 7) (h38 : mm_ar f_2 0 9) (h39 : mm_ar f_3 0 8) (h40 : mm_ar f_4 0 9) (h41 : mm_ar f_5 (-1) 99) (h42 : mm_ar f_6 0 9) (h43 : mm_ar f_7 0 210) (h44 : mm_ar f_8 0 210) (h45 : mm_ar f_9 0 9) (h46 : mm_rls f_1 f_2 0 i_27 i_28) (h47 : mm_txs f_3 f_4 0 i_27 i_29) (h48 : mm_acs f_5 0 i_27 i_28 i_30) (h49 : mm_tl i_20 i_28 i_29) (h50 : mm_rls f_1 f_2 1 i_33 i_34) (h51 : mm_txs f_3 f_4 1 i_33 i_35) (h52 : mm_acs f_5 1 i_33 i_34 i_36) (h53 : mm_tl i_21 i_34 i_35) (h54 : mm_rls f_1 f_2 2 i_39 i_40) (h55 : mm_txs f_3 f_4 2 i_39 i_41) (h56 : mm_acs f_5 2 i_39 i_40 i_42) (h57 : mm_tl i_22 i_40 i_41) (h58 : mm_rls f_1 f_2 3 i_45 i_46) (h59 : mm_txs f_3 f_4 3 i_45 i_47) (h60 : mm_acs f_5 3 i_45 i_46 i_48) (h61 : mm_tl i_23 i_46 i_47)  : mm_CI l yX12_agree (mm_ws yX12_agree cX12_agree 5 (some .int)) ({ frames := 14, cells := 0, slots := 0, locals := 300 } : Room) G cy sz [(a_0, .inr (12, [.int i_3, .ref a_1, .ref a_2, .ref a_3, .ref a_4, .ref a_5, .int i_4, .int i_5, .int i_6, .int i_7, .int i_8, .long j_0, .int i_9, .int i_10, .int i_11, .int i_12, .ref a_6, .ref a_7, .ref a_8, .ref a_9, .ref a_10, .ref a_11, .ref a_12, .ref a_13, .ref a_14, .ref a_15, .ref a_16, .ref a_17, .ref a_18, .int i_13, .int i_14, .int i_15, .int i_16, .int i_17, .int i_18, .ref a_19, .int i_19, .ref a_20])), (a_6, .inl (cy 1, 5, .inl (mm_g [i_20, i_21, i_22, i_23, i_24]))), (a_7, .inl (cy 1, 30, .inl (mm_g [i_25, i_26, i_27, i_28, i_29, i_30, i_31, i_32, i_33, i_34, i_35, i_36, i_37, i_38, i_39, i_40, i_41, i_42, i_43, i_44, i_45, i_46, i_47, i_48, i_49, i_50, i_51, i_52, i_53, i_54]))), (a_8, .inl (cy 1, 90, .inl f_0)), (a_9, .inl (cy 1, 15, .inl f_1)), (a_10, .inl (cy 1, 1050, .inl f_2)), (a_11, .inl (cy 1, 30, .inl f_3)), (a_12, .inl (cy 1, 240, .inl f_4)), (a_13, .inl (cy 1, 450, .inl f_5)), (a_15, .inl (cy 1, 7200, .inl f_6)), (a_16, .inl (cy 1, 3, .inl f_7)), (a_17, .inl (cy 1, 3, .inl f_8)), (a_18, .inl (cy 1, 8, .inl f_9))] [.ref a_0, .int i_0, .int i_1, .int i_2] (fun u : Int32 × Int32 × Int32 × (Nat → Int32) × (Nat → Int32) × (Nat → Int32) × (Nat → Int32) => [(a_0, .inr (12, [.int 0, .ref a_1, .ref a_2, .ref a_3, .ref a_4, .ref a_5, .int i_4, .int i_5, .int i_6, .int i_7, .int i_8, .long j_0, .int i_9, .int i_10, .int i_11, .int i_12, .ref a_6, .ref a_7, .ref a_8, .ref a_9, .ref a_10, .ref a_11, .ref a_12, .ref a_13, .ref a_14, .ref a_15, .ref a_16, .ref a_17, .ref a_18, .int u.1, .int u.2.1, .int u.2.2.1, .int i_16, .int i_17, .int i_18, .ref a_19, .int i_19, .ref a_20])), (a_6, .inl (cy 1, 5, .inl (mm_g [i_20, i_21, i_22, i_23, i_24]))), (a_7, .inl (cy 1, 30, .inl (mm_g [i_25, i_26, i_27, i_28, i_29, i_30, i_31, i_32, i_33, i_34, i_35, i_36, i_37, i_38, i_39, i_40, i_41, i_42, i_43, i_44, i_45, i_46, i_47, i_48, i_49, i_50, i_51, i_52, i_53, i_54]))), (a_8, .inl (cy 1, 90, .inl f_0)), (a_9, .inl (cy 1, 15, .inl f_1)), (a_10, .inl (cy 1, 1050, .inl f_2)), (a_11, .inl (cy 1, 30, .inl f_3)), (a_12, .inl (cy 1, 240, .inl f_4)), (a_13, .inl (cy 1, 450, .inl f_5)), (a_15, .inl (cy 1, 7200, .inl u.2.2.2.1)), (a_16, .inl (cy 1, 3, .inl u.2.2.2.2.1)), (a_17, .inl (cy 1, 3, .inl u.2.2.2.2.2.1)), (a_18, .inl (cy 1, 8, .inl u.2.2.2.2.2.2))]) (fun (r : Int32) (u : Int32 × Int32 × Int32 × (Nat → Int32) × (Nat → Int32) × (Nat → Int32) × (Nat → Int32)) => mm_rg u.1 0 8 ∧ mm_ar u.2.2.2.1 0 9 ∧ mm_ar u.2.2.2.2.1 0 210 ∧ mm_ar u.2.2.2.2.2.1 0 210 ∧ mm_ar u.2.2.2.2.2.2 0 9 ∧ mm_rg r (-2) 209) 0 0 := by
  refine mm_begin (lv := [(0, .ref a_0), (1, .int i_0), (2, .int i_1), (3, .int i_2)]) (by decide) (Nat.le_of_ble_eq_true rfl) rfl ?_
  intro p e s m below meth c A ls R args Q H locs hRe hQ hAe hx hb hr hlocks hml hown hnm hts hsz hA hS hP hK hD hZ hl
  have hRf : R.frames = 14 := by rw [hRe]
  have hRl : R.locals = 300 := by rw [hRe]
  have hRc : R.cells = 0 := by rw [hRe]
  have hRs : R.slots = 0 := by rw [hRe]
  refine lv_aload_n hx hb dX12_agree_0 rfl (lv_at hl 0 rfl) ?_
  refine lv_iconst (v := 0) hx hb dX12_agree_1 (by decide) ?_
  refine va_put (D := G) (ci := 12) (v := .int 0) (ty := tyX12 0) (C := RX12) (T := TX12) (N := 38) hx hb hts (mm_i inlX12) tyX12 tyX12_ok nmX12 hown hK.1 hP hD hS 0 rfl rfl 0 (by decide) (mm_h hts mm_w177) (fun _ h9 => h9) rfl (tyX12_ok 0 (by decide)) rfl rfl (Nat.le_of_ble_eq_true rfl) dX12_agree_2 ?_
  clear hP hD hS
  clear H locs
  intro H locs (hP : va_P G vwCl [(a_0, .inr (12, [.int 0, .ref a_1, .ref a_2, .ref a_3, .ref a_4, .ref a_5, .int i_4, .int i_5, .int i_6, .int i_7, .int i_8, .long j_0, .int i_9, .int i_10, .int i_11, .int i_12, .ref a_6, .ref a_7, .ref a_8, .ref a_9, .ref a_10, .ref a_11, .ref a_12, .ref a_13, .ref a_14, .ref a_15, .ref a_16, .ref a_17, .ref a_18, .int i_13, .int i_14, .int i_15, .int i_16, .int i_17, .int i_18, .ref a_19, .int i_19, .ref a_20])), (a_6, .inl (cy 1, 5, .inl (mm_g [i_20, i_21, i_22, i_23, i_24]))), (a_7, .inl (cy 1, 30, .inl (mm_g [i_25, i_26, i_27, i_28, i_29, i_30, i_31, i_32, i_33, i_34, i_35, i_36, i_37, i_38, i_39, i_40, i_41, i_42, i_43, i_44, i_45, i_46, i_47, i_48, i_49, i_50, i_51, i_52, i_53, i_54]))), (a_8, .inl (cy 1, 90, .inl f_0)), (a_9, .inl (cy 1, 15, .inl f_1)), (a_10, .inl (cy 1, 1050, .inl f_2)), (a_11, .inl (cy 1, 30, .inl f_3)), (a_12, .inl (cy 1, 240, .inl f_4)), (a_13, .inl (cy 1, 450, .inl f_5)), (a_15, .inl (cy 1, 7200, .inl f_6)), (a_16, .inl (cy 1, 3, .inl f_7)), (a_17, .inl (cy 1, 3, .inl f_8)), (a_18, .inl (cy 1, 8, .inl f_9))] H) (hD : va_D A [(a_0, .inr (12, [.int 0, .ref a_1, .ref a_2, .ref a_3, .ref a_4, .ref a_5, .int i_4, .int i_5, .int i_6, .int i_7, .int i_8, .long j_0, .int i_9, .int i_10, .int i_11, .int i_12, .ref a_6, .ref a_7, .ref a_8, .ref a_9, .ref a_10, .ref a_11, .ref a_12, .ref a_13, .ref a_14, .ref a_15, .ref a_16, .ref a_17, .ref a_18, .int i_13, .int i_14, .int i_15, .int i_16, .int i_17, .int i_18, .ref a_19, .int i_19, .ref a_20])), (a_6, .inl (cy 1, 5, .inl (mm_g [i_20, i_21, i_22, i_23, i_24]))), (a_7, .inl (cy 1, 30, .inl (mm_g [i_25, i_26, i_27, i_28, i_29, i_30, i_31, i_32, i_33, i_34, i_35, i_36, i_37, i_38, i_39, i_40, i_41, i_42, i_43, i_44, i_45, i_46, i_47, i_48, i_49, i_50, i_51, i_52, i_53, i_54]))), (a_8, .inl (cy 1, 90, .inl f_0)), (a_9, .inl (cy 1, 15, .inl f_1)), (a_10, .inl (cy 1, 1050, .inl f_2)), (a_11, .inl (cy 1, 30, .inl f_3)), (a_12, .inl (cy 1, 240, .inl f_4)), (a_13, .inl (cy 1, 450, .inl f_5)), (a_15, .inl (cy 1, 7200, .inl f_6)), (a_16, .inl (cy 1, 3, .inl f_7)), (a_17, .inl (cy 1, 3, .inl f_8)), (a_18, .inl (cy 1, 8, .inl f_9))]) hS
  refine lv_aload_n hx hb dX12_agree_5 rfl (lv_at hl 0 rfl) ?_
  refine lv_iload_n hx hb dX12_agree_6 rfl (lv_at hl 1 rfl) ?_
  refine mm_finir (va_runV (As := [.int i_0]) (rest := []) ⟨hx, hb, hml, hown, hts⟩ (M98_X12_isLand l G cy H.size a_0 i_0 0 a_1 a_2 a_3 a_4 a_5 i_4 i_5 i_6 i_7 i_8 j_0 i_9 i_10 i_11 i_12 a_6 a_7 a_8 a_9 a_10 a_11 a_12 a_13 a_14 a_15 a_16 a_17 a_18 i_13 i_14 i_15 i_16 i_17 i_18 a_19 i_19 a_20 i_25 i_26 i_27 i_28 i_29 i_30 i_31 i_32 i_33 i_34 i_35 i_36 i_37 i_38 i_39 i_40 i_41 i_42 i_43 i_44 i_45 i_46 i_47 i_48 i_49 i_50 i_51 i_52 i_53 i_54 h6 h7 h8 h9 h10 h11 h12 h13 h14 h15 h16 h17 h18 h19 h20 h21 h22 h23 h24 h25 h26 h27 h28 h29 h30 h31 h32 h33 h34 h35) (cwV 1 hts (mm_gV mm_w641 mm_w642 mm_w643 mm_w5 mm_w644) rfl rfl rfl hd_X12_isLand ⟨by rw [hRf]; exact Nat.le_of_ble_eq_true rfl, by rw [hRl]; exact Nat.le_of_ble_eq_true rfl⟩) (mm_preV hK hZ hS hA hP hD [0, 2] rfl rfl 0 rfl rfl rfl) rfl rfl hl.1 rfl (lv_room (Nat.le_of_ble_eq_true rfl)) dX12_agree_7 ⟨by rw [hRc]; exact Nat.le_of_ble_eq_true rfl, by rw [hRs]; exact Nat.le_of_ble_eq_true rfl⟩) hP hD hS hA [0, 2] rfl (fun _ => rfl) ?_
  clear hP hD hS
  clear H locs
  intro v1 _u H locs hw hP hD hS
  rcases hw with rfl | ⟨rfl, w2, w3⟩
  · refine lv_if_eq (tgt := 31) hx hb dX12_agree_10 (by decide) (fun c4 => ?_) (fun c4 => ?_)
    · refine lv_bipush (v := (-2)) hx hb dX12_agree_31 (by decide) ?_
      subst hAe
      rw [hQ]
      exact W.iret (v := (-2)) hx hb hr (fun t ht hW => ⟨⟨(-2), (i_13, i_14, i_15, f_6, f_7, f_8, f_9), rfl, ⟨h0, h42, h43, h44, h45, (mm_wk mm_km2 (by decide))⟩, by rw [ht]; exact hP, hK.warm hW, hD⟩, hS.F ht⟩) hS.2.2 dX12_agree_33
    · have q5 := mm_neL (lo := 1) (mm_ne c4) mm_k0 mm_k0 (by decide) (by decide)
      exact mm_no q5 (by decide)
  · have q6 := mm_ltR (lo := 1) w3 w2 h9 (by decide)
    have q7 : mm_rg i_20 1 601 := mm_tl_3 h49 q6 h1 (by decide)
    refine lv_if_eq (tgt := 31) hx hb dX12_agree_10 (by decide) (fun c8 => ?_) (fun c8 => ?_)
    · exact mm_eqN c8.symm mm_k0 mm_k1 (by decide)
    · refine lv_aload_n hx hb dX12_agree_13 rfl (lv_at hl 0 rfl) ?_
      refine lv_iload_n hx hb dX12_agree_14 rfl (lv_at hl 2 rfl) ?_
      obtain ⟨v9, ev9⟩ : ∃ y : Int64, y = i_1.toInt64 := ⟨_, rfl⟩
      refine lv_i2l hx hb dX12_agree_15 ev9.symm ?_
      have rv9 : mm_rl v9 (-2147483648) 2147483647 := mm_i2l ev9 (mm_top i_1)
      refine mm_finir (va_runV (As := [.long v9]) (rest := []) ⟨hx, hb, hml, hown, hts⟩ (M96_X12_isText l G cy H.size a_0 v9 0 a_1 a_2 a_3 a_4 a_5 i_4 i_5 i_6 i_7 i_8 j_0 i_9 i_10 i_11 i_12 a_6 a_7 a_8 a_9 a_10 a_11 a_12 a_13 a_14 a_15 a_16 a_17 a_18 i_13 i_14 i_15 i_16 i_17 i_18 a_19 i_19 a_20 i_25 i_26 i_27 i_28 i_29 i_30 i_31 i_32 i_33 i_34 i_35 i_36 i_37 i_38 i_39 i_40 i_41 i_42 i_43 i_44 i_45 i_46 i_47 i_48 i_49 i_50 i_51 i_52 i_53 i_54 h6 h7 h8 (mm_wk q6 (by decide)) h10 h11 h12 h13 h14 h15 h16 h17 h18 h19 h20 h21 h22 h23 h24 h25 h26 h27 h28 h29 h30 h31 h32 h33 h34 h35) (cwV 1 hts (mm_gV mm_w613 mm_w614 mm_w615 mm_w5 mm_w616) rfl rfl rfl hd_X12_isText ⟨by rw [hRf]; exact Nat.le_of_ble_eq_true rfl, by rw [hRl]; exact Nat.le_of_ble_eq_true rfl⟩) (mm_preV hK hZ hS hA hP hD [0, 2] rfl rfl 0 rfl rfl rfl) rfl rfl hl.1 rfl (lv_room (Nat.le_of_ble_eq_true rfl)) dX12_agree_16 ⟨by rw [hRc]; exact Nat.le_of_ble_eq_true rfl, by rw [hRs]; exact Nat.le_of_ble_eq_true rfl⟩) hP hD hS hA [0, 2] rfl (fun _ => rfl) ?_
      clear hP hD hS
      clear H locs
      intro v10 _u H locs hw hP hD hS
      rcases hw with rfl | ⟨rfl, w11, w12⟩
      · refine lv_if_eq (tgt := 31) hx hb dX12_agree_19 (by decide) (fun c13 => ?_) (fun c13 => ?_)
        · refine lv_bipush (v := (-2)) hx hb dX12_agree_31 (by decide) ?_
          subst hAe
          rw [hQ]
          exact W.iret (v := (-2)) hx hb hr (fun t ht hW => ⟨⟨(-2), (i_13, i_14, i_15, f_6, f_7, f_8, f_9), rfl, ⟨h0, h42, h43, h44, h45, (mm_wk mm_km2 (by decide))⟩, by rw [ht]; exact hP, hK.warm hW, hD⟩, hS.F ht⟩) hS.2.2 dX12_agree_33
        · have q14 := mm_neL (lo := 1) (mm_ne c13) mm_k0 mm_k0 (by decide) (by decide)
          exact mm_no q14 (by decide)
      · have q15 := mm_meet (lo := 0) (hi := 5) (mm_l2x ev9 w11) (mm_top i_1) (by decide)
        have w16 := mm_tx_lt w12 (mm_i2lE ev9)
        have q17 := mm_ltR (lo := 1) w16 q15 h10 (by decide)
        refine lv_if_eq (tgt := 31) hx hb dX12_agree_19 (by decide) (fun c18 => ?_) (fun c18 => ?_)
        · exact mm_eqN c18.symm mm_k0 mm_k1 (by decide)
        · refine lv_aload_n hx hb dX12_agree_22 rfl (lv_at hl 0 rfl) ?_
          refine lv_iload_n hx hb dX12_agree_23 rfl (lv_at hl 3 rfl) ?_
          obtain ⟨v19, ev19⟩ : ∃ y : Int64, y = i_2.toInt64 := ⟨_, rfl⟩
          refine lv_i2l hx hb dX12_agree_24 ev19.symm ?_
          have rv19 : mm_rl v19 (-2147483648) 2147483647 := mm_i2l ev19 (mm_top i_2)
          refine mm_finir (va_runV (As := [.long v19]) (rest := []) ⟨hx, hb, hml, hown, hts⟩ (M96_X12_isText l G cy H.size a_0 v19 0 a_1 a_2 a_3 a_4 a_5 i_4 i_5 i_6 i_7 i_8 j_0 i_9 i_10 i_11 i_12 a_6 a_7 a_8 a_9 a_10 a_11 a_12 a_13 a_14 a_15 a_16 a_17 a_18 i_13 i_14 i_15 i_16 i_17 i_18 a_19 i_19 a_20 i_25 i_26 i_27 i_28 i_29 i_30 i_31 i_32 i_33 i_34 i_35 i_36 i_37 i_38 i_39 i_40 i_41 i_42 i_43 i_44 i_45 i_46 i_47 i_48 i_49 i_50 i_51 i_52 i_53 i_54 h6 h7 h8 (mm_wk q6 (by decide)) (mm_wk q17 (by decide)) h11 h12 h13 h14 h15 h16 h17 h18 h19 h20 h21 h22 h23 h24 h25 h26 h27 h28 h29 h30 h31 h32 h33 h34 h35) (cwV 1 hts (mm_gV mm_w613 mm_w614 mm_w615 mm_w5 mm_w616) rfl rfl rfl hd_X12_isText ⟨by rw [hRf]; exact Nat.le_of_ble_eq_true rfl, by rw [hRl]; exact Nat.le_of_ble_eq_true rfl⟩) (mm_preV hK hZ hS hA hP hD [0, 2] rfl rfl 0 rfl rfl rfl) rfl rfl hl.1 rfl (lv_room (Nat.le_of_ble_eq_true rfl)) dX12_agree_25 ⟨by rw [hRc]; exact Nat.le_of_ble_eq_true rfl, by rw [hRs]; exact Nat.le_of_ble_eq_true rfl⟩) hP hD hS hA [0, 2] rfl (fun _ => rfl) ?_
          clear hP hD hS
          clear H locs
          intro v20 _u H locs hw hP hD hS
          rcases hw with rfl | ⟨rfl, w21, w22⟩
          · refine lv_if_ne (tgt := 34) hx hb dX12_agree_28 (by decide) (fun c23 => ?_) (fun c23 => ?_)
            · have q24 := mm_neL (lo := 1) (mm_ne c23) mm_k0 mm_k0 (by decide) (by decide)
              exact mm_no q24 (by decide)
            · refine lv_bipush (v := (-2)) hx hb dX12_agree_31 (by decide) ?_
              subst hAe
              rw [hQ]
              exact W.iret (v := (-2)) hx hb hr (fun t ht hW => ⟨⟨(-2), (i_13, i_14, i_15, f_6, f_7, f_8, f_9), rfl, ⟨h0, h42, h43, h44, h45, (mm_wk mm_km2 (by decide))⟩, by rw [ht]; exact hP, hK.warm hW, hD⟩, hS.F ht⟩) hS.2.2 dX12_agree_33
          · have q25 := mm_meet (lo := 0) (hi := 5) (mm_l2x ev19 w21) (mm_top i_2) (by decide)
            have w26 := mm_tx_lt w22 (mm_i2lE ev19)
            refine lv_if_ne (tgt := 34) hx hb dX12_agree_28 (by decide) (fun c27 => ?_) (fun c27 => ?_)
            · refine lv_aload_n hx hb dX12_agree_34 rfl (lv_at hl 0 rfl) ?_
              refine mm_finv (va_runV (As := []) (rest := []) ⟨hx, hb, hml, hown, hts⟩ (M125_X12_lays l G cy H.size a_0 0 a_1 a_2 a_3 a_4 a_5 i_4 i_5 i_6 i_7 i_8 j_0 i_9 i_10 i_11 i_12 a_6 a_7 a_8 a_9 a_10 a_11 a_12 a_13 a_14 a_15 a_16 a_17 a_18 i_13 i_14 i_15 i_16 i_17 i_18 a_19 i_19 a_20 i_20 i_21 i_22 i_23 i_24 i_25 i_26 i_27 i_28 i_29 i_30 i_31 i_32 i_33 i_34 i_35 i_36 i_37 i_38 i_39 i_40 i_41 i_42 i_43 i_44 i_45 i_46 i_47 i_48 i_49 i_50 i_51 i_52 i_53 i_54 f_1 f_2 f_5 f_6 f_7 f_8 (mm_wk q7 (by decide)) h2 h3 h4 h5 h6 h7 h8 (mm_wk q6 (by decide)) (mm_wk q17 (by decide)) h11 h12 h13 h14 h15 h16 h17 h18 h19 h20 h21 h22 h23 h24 h25 h26 h27 h28 h29 h30 h31 h32 h33 h34 h35 h37 h38 h41 h42 h43 h44 h46 h48 h49 h50 h52 h53 h54 h56 h57 h58 h60 h61) (cwV 0 hts (mm_gV mm_w686 mm_w687 mm_w688 mm_w5 mm_w689) rfl rfl rfl hd_X12_lays ⟨by rw [hRf]; exact Nat.le_of_ble_eq_true rfl, by rw [hRl]; exact Nat.le_of_ble_eq_true rfl⟩) (mm_preV hK hZ hS hA hP hD [0, 1, 2, 4, 5, 8, 9, 10, 11] rfl rfl 0 rfl rfl rfl) rfl rfl hl.1 rfl (lv_room (Nat.le_of_ble_eq_true rfl)) dX12_agree_35 ⟨by rw [hRc]; exact Nat.le_of_ble_eq_true rfl, by rw [hRs]; exact Nat.le_of_ble_eq_true rfl⟩) hP hD hS hA (fun u : (Nat → Int32) × (Nat → Int32) × (Nat → Int32) => [(a_0, .inr (12, [.int 0, .ref a_1, .ref a_2, .ref a_3, .ref a_4, .ref a_5, .int i_4, .int i_5, .int i_6, .int i_7, .int i_8, .long j_0, .int i_9, .int i_10, .int i_11, .int i_12, .ref a_6, .ref a_7, .ref a_8, .ref a_9, .ref a_10, .ref a_11, .ref a_12, .ref a_13, .ref a_14, .ref a_15, .ref a_16, .ref a_17, .ref a_18, .int i_13, .int i_14, .int i_15, .int i_16, .int i_17, .int i_18, .ref a_19, .int i_19, .ref a_20])), (a_6, .inl (cy 1, 5, .inl (mm_g [i_20, i_21, i_22, i_23, i_24]))), (a_7, .inl (cy 1, 30, .inl (mm_g [i_25, i_26, i_27, i_28, i_29, i_30, i_31, i_32, i_33, i_34, i_35, i_36, i_37, i_38, i_39, i_40, i_41, i_42, i_43, i_44, i_45, i_46, i_47, i_48, i_49, i_50, i_51, i_52, i_53, i_54]))), (a_8, .inl (cy 1, 90, .inl f_0)), (a_9, .inl (cy 1, 15, .inl f_1)), (a_10, .inl (cy 1, 1050, .inl f_2)), (a_11, .inl (cy 1, 30, .inl f_3)), (a_12, .inl (cy 1, 240, .inl f_4)), (a_13, .inl (cy 1, 450, .inl f_5)), (a_15, .inl (cy 1, 7200, .inl u.1)), (a_16, .inl (cy 1, 3, .inl u.2.1)), (a_17, .inl (cy 1, 3, .inl u.2.2)), (a_18, .inl (cy 1, 8, .inl f_9))]) [0, 1, 2, 4, 5, 8, 9, 10, 11] [3, 6, 7, 12] (n := 13) (fun _ => rfl) (by decide +kernel) (by decide +kernel) rfl (fun _ => rfl) (wr := [(a_8, .inl (cy 1, 90, .inl f_0)), (a_11, .inl (cy 1, 30, .inl f_3)), (a_12, .inl (cy 1, 240, .inl f_4)), (a_18, .inl (cy 1, 8, .inl f_9))]) rfl (fun _ => rfl) (fun _ => @rfl _ ([a_0, a_6, a_7, a_9, a_10, a_13, a_15, a_16, a_17] : List Nat)) ?_
              clear hP hD hS
              clear H locs
              intro u
              obtain ⟨n28, n29, n30⟩ := u
              intro H locs hw (hP : va_P G vwCl [(a_0, .inr (12, [.int 0, .ref a_1, .ref a_2, .ref a_3, .ref a_4, .ref a_5, .int i_4, .int i_5, .int i_6, .int i_7, .int i_8, .long j_0, .int i_9, .int i_10, .int i_11, .int i_12, .ref a_6, .ref a_7, .ref a_8, .ref a_9, .ref a_10, .ref a_11, .ref a_12, .ref a_13, .ref a_14, .ref a_15, .ref a_16, .ref a_17, .ref a_18, .int i_13, .int i_14, .int i_15, .int i_16, .int i_17, .int i_18, .ref a_19, .int i_19, .ref a_20])), (a_6, .inl (cy 1, 5, .inl (mm_g [i_20, i_21, i_22, i_23, i_24]))), (a_7, .inl (cy 1, 30, .inl (mm_g [i_25, i_26, i_27, i_28, i_29, i_30, i_31, i_32, i_33, i_34, i_35, i_36, i_37, i_38, i_39, i_40, i_41, i_42, i_43, i_44, i_45, i_46, i_47, i_48, i_49, i_50, i_51, i_52, i_53, i_54]))), (a_8, .inl (cy 1, 90, .inl f_0)), (a_9, .inl (cy 1, 15, .inl f_1)), (a_10, .inl (cy 1, 1050, .inl f_2)), (a_11, .inl (cy 1, 30, .inl f_3)), (a_12, .inl (cy 1, 240, .inl f_4)), (a_13, .inl (cy 1, 450, .inl f_5)), (a_15, .inl (cy 1, 7200, .inl n28)), (a_16, .inl (cy 1, 3, .inl n29)), (a_17, .inl (cy 1, 3, .inl n30)), (a_18, .inl (cy 1, 8, .inl f_9))] H) (hD : va_D A [(a_0, .inr (12, [.int 0, .ref a_1, .ref a_2, .ref a_3, .ref a_4, .ref a_5, .int i_4, .int i_5, .int i_6, .int i_7, .int i_8, .long j_0, .int i_9, .int i_10, .int i_11, .int i_12, .ref a_6, .ref a_7, .ref a_8, .ref a_9, .ref a_10, .ref a_11, .ref a_12, .ref a_13, .ref a_14, .ref a_15, .ref a_16, .ref a_17, .ref a_18, .int i_13, .int i_14, .int i_15, .int i_16, .int i_17, .int i_18, .ref a_19, .int i_19, .ref a_20])), (a_6, .inl (cy 1, 5, .inl (mm_g [i_20, i_21, i_22, i_23, i_24]))), (a_7, .inl (cy 1, 30, .inl (mm_g [i_25, i_26, i_27, i_28, i_29, i_30, i_31, i_32, i_33, i_34, i_35, i_36, i_37, i_38, i_39, i_40, i_41, i_42, i_43, i_44, i_45, i_46, i_47, i_48, i_49, i_50, i_51, i_52, i_53, i_54]))), (a_8, .inl (cy 1, 90, .inl f_0)), (a_9, .inl (cy 1, 15, .inl f_1)), (a_10, .inl (cy 1, 1050, .inl f_2)), (a_11, .inl (cy 1, 30, .inl f_3)), (a_12, .inl (cy 1, 240, .inl f_4)), (a_13, .inl (cy 1, 450, .inl f_5)), (a_15, .inl (cy 1, 7200, .inl n28)), (a_16, .inl (cy 1, 3, .inl n29)), (a_17, .inl (cy 1, 3, .inl n30)), (a_18, .inl (cy 1, 8, .inl f_9))]) hS
              obtain ⟨w31, w32, w33, w34, w35⟩ := hw
              replace w34 : mm_laid n29 n30 i_28 := w34
              replace w35 : mm_tab n28 n29 i_27 i_28 := w35
              refine lv_iconst (v := 0) hx hb dX12_agree_38 (by decide) ?_
              refine lv_istore (lv' := [(4, .int 0), (0, .ref a_0), (1, .int i_0), (2, .int i_1), (3, .int i_2)]) hx hb dX12_agree_39 hl (by decide) rfl ?_
              clear hl
              clear ls
              intro ls hl
              have L41_437 : ∀ (n : Nat) (x41_4_433 : Int32) (y41_0_29_434 : Int32) (y41_0_30_435 : Int32) (y41_0_31_436 : Int32) (z41_12_437 : Nat → Int32), mm_rg x41_4_433 0 210 → mm_rg y41_0_29_434 0 8 → mm_ar z41_12_437 0 9 → (210 - x41_4_433.toInt).toNat < n → ∀ (H : Heap) (locs : List Loc), va_P G vwCl [(a_0, .inr (12, [.int 0, .ref a_1, .ref a_2, .ref a_3, .ref a_4, .ref a_5, .int i_4, .int i_5, .int i_6, .int i_7, .int i_8, .long j_0, .int i_9, .int i_10, .int i_11, .int i_12, .ref a_6, .ref a_7, .ref a_8, .ref a_9, .ref a_10, .ref a_11, .ref a_12, .ref a_13, .ref a_14, .ref a_15, .ref a_16, .ref a_17, .ref a_18, .int y41_0_29_434, .int y41_0_30_435, .int y41_0_31_436, .int i_16, .int i_17, .int i_18, .ref a_19, .int i_19, .ref a_20])), (a_6, .inl (cy 1, 5, .inl (mm_g [i_20, i_21, i_22, i_23, i_24]))), (a_7, .inl (cy 1, 30, .inl (mm_g [i_25, i_26, i_27, i_28, i_29, i_30, i_31, i_32, i_33, i_34, i_35, i_36, i_37, i_38, i_39, i_40, i_41, i_42, i_43, i_44, i_45, i_46, i_47, i_48, i_49, i_50, i_51, i_52, i_53, i_54]))), (a_8, .inl (cy 1, 90, .inl f_0)), (a_9, .inl (cy 1, 15, .inl f_1)), (a_10, .inl (cy 1, 1050, .inl f_2)), (a_11, .inl (cy 1, 30, .inl f_3)), (a_12, .inl (cy 1, 240, .inl f_4)), (a_13, .inl (cy 1, 450, .inl f_5)), (a_15, .inl (cy 1, 7200, .inl n28)), (a_16, .inl (cy 1, 3, .inl n29)), (a_17, .inl (cy 1, 3, .inl n30)), (a_18, .inl (cy 1, 8, .inl z41_12_437))] H → va_D A [(a_0, .inr (12, [.int 0, .ref a_1, .ref a_2, .ref a_3, .ref a_4, .ref a_5, .int i_4, .int i_5, .int i_6, .int i_7, .int i_8, .long j_0, .int i_9, .int i_10, .int i_11, .int i_12, .ref a_6, .ref a_7, .ref a_8, .ref a_9, .ref a_10, .ref a_11, .ref a_12, .ref a_13, .ref a_14, .ref a_15, .ref a_16, .ref a_17, .ref a_18, .int y41_0_29_434, .int y41_0_30_435, .int y41_0_31_436, .int i_16, .int i_17, .int i_18, .ref a_19, .int i_19, .ref a_20])), (a_6, .inl (cy 1, 5, .inl (mm_g [i_20, i_21, i_22, i_23, i_24]))), (a_7, .inl (cy 1, 30, .inl (mm_g [i_25, i_26, i_27, i_28, i_29, i_30, i_31, i_32, i_33, i_34, i_35, i_36, i_37, i_38, i_39, i_40, i_41, i_42, i_43, i_44, i_45, i_46, i_47, i_48, i_49, i_50, i_51, i_52, i_53, i_54]))), (a_8, .inl (cy 1, 90, .inl f_0)), (a_9, .inl (cy 1, 15, .inl f_1)), (a_10, .inl (cy 1, 1050, .inl f_2)), (a_11, .inl (cy 1, 30, .inl f_3)), (a_12, .inl (cy 1, 240, .inl f_4)), (a_13, .inl (cy 1, 450, .inl f_5)), (a_15, .inl (cy 1, 7200, .inl n28)), (a_16, .inl (cy 1, 3, .inl n29)), (a_17, .inl (cy 1, 3, .inl n30)), (a_18, .inl (cy 1, 8, .inl z41_12_437))] → va_S A s.heap H locs → ∀ (ls : Array Slot), lv_has ls 5 [(4, .int x41_4_433), (0, .ref a_0), (1, .int i_0), (2, .int i_1), (3, .int i_2)] → W p l e R s m args below meth c H locs 0 0 Q (F0 m 41 ls []) := by
                intro n
                induction n with
                | zero => intro x41_4_433 y41_0_29_434 y41_0_30_435 y41_0_31_436 z41_12_437 rx41_4_433 ry41_0_29_434 rz41_12_437 hm; exact absurd hm (Nat.not_lt_zero _)
                | succ n ih41 =>
                  intro x41_4_433 y41_0_29_434 y41_0_30_435 y41_0_31_436 z41_12_437 rx41_4_433 ry41_0_29_434 rz41_12_437 hm41 H locs hP hD hS ls hl
                  refine lv_iload hx hb dX12_agree_41 (lv_at hl 0 rfl) ?_
                  refine lv_aload_n hx hb dX12_agree_43 rfl (lv_at hl 1 rfl) ?_
                  refine va_get (D := G) (ci := 12) (v := .ref a_16) (C := RX12) (T := TX12) (N := 38) hx hb hts (mm_i inlX12) hown hK.1 hP 0 rfl rfl 26 (by decide) (mm_h hts mm_w158) (fun _ h9 => h9) rfl dX12_agree_44 ?_
                  refine lv_iload_n hx hb dX12_agree_47 rfl (lv_at hl 2 rfl) ?_
                  refine va_iald hx hb hK.1 hP 10 1 rfl rfl (mm_in w2 (by decide)) dX12_agree_48 ?_
                  refine lv_topi (fun v439 ev439 => ?_)
                  have rv439 : mm_rg v439 0 210 := mm_eqv ev439 (w32 _)
                  have q440 : mm_rg v439 1 210 := mm_laid_ld0 w34 w3 ev439 w2 rv439 (by decide)
                  refine lv_icmp_ge (tgt := 80) hx hb dX12_agree_49 (by decide) (fun c441 => ?_) (fun c441 => ?_)
                  · have q442 := mm_leR (mm_le c441) q440 rx41_4_433
                    refine lv_iconst (v := (-1)) hx hb dX12_agree_80 (by decide) ?_
                    subst hAe
                    rw [hQ]
                    exact W.iret (v := (-1)) hx hb hr (fun t ht hW => ⟨⟨(-1), (y41_0_29_434, y41_0_30_435, y41_0_31_436, n28, n29, n30, z41_12_437), rfl, ⟨ry41_0_29_434, w31, w32, w33, rz41_12_437, (mm_wk mm_km1 (by decide))⟩, by rw [ht]; exact hP, hK.warm hW, hD⟩, hS.F ht⟩) hS.2.2 dX12_agree_81
                  · have q443 := mm_ltL (h := 209) (mm_nle c441) rx41_4_433 q440 (by decide)
                    refine lv_aload_n hx hb dX12_agree_52 rfl (lv_at hl 1 rfl) ?_
                    refine lv_iload_n hx hb dX12_agree_53 rfl (lv_at hl 2 rfl) ?_
                    refine lv_iload hx hb dX12_agree_54 (lv_at hl 0 rfl) ?_
                    refine lv_iload_n hx hb dX12_agree_56 rfl (lv_at hl 3 rfl) ?_
                    refine mm_fini (va_runV (As := [.int i_0, .int x41_4_433, .int i_1]) (rest := []) ⟨hx, hb, hml, hown, hts⟩ (M141_X12_reads l G cy H.size a_0 i_0 x41_4_433 i_1 0 a_1 a_2 a_3 a_4 a_5 i_4 i_5 i_6 i_7 i_8 j_0 i_9 i_10 i_11 i_12 a_6 a_7 a_8 a_9 a_10 a_11 a_12 a_13 a_14 a_15 a_16 a_17 a_18 y41_0_29_434 y41_0_30_435 y41_0_31_436 i_16 i_17 i_18 a_19 i_19 a_20 i_25 i_26 i_27 i_28 i_29 i_30 i_31 i_32 i_33 i_34 i_35 i_36 i_37 i_38 i_39 i_40 i_41 i_42 i_43 i_44 i_45 i_46 i_47 i_48 i_49 i_50 i_51 i_52 i_53 i_54 f_0 f_3 f_4 f_5 n28 n29 z41_12_437 w2 (mm_wk q443 (by decide)) q15 ry41_0_29_434 h6 h7 h8 (mm_wk q6 (by decide)) (mm_wk q17 (by decide)) h11 h12 h13 h14 h15 h16 h17 h18 h19 h20 h21 h22 h23 h24 h25 h26 h27 h28 h29 h30 h31 h32 h33 h34 h35 h36 h39 h40 h41 w31 w32 rz41_12_437 h47 h48 h51 h52 h55 h56 h59 h60 (mm_f1_l w34 w3 w2 (by decide))) (cwV 3 hts (mm_gV mm_w852 mm_w853 mm_w854 mm_w5 mm_w855) rfl rfl rfl hd_X12_reads ⟨by rw [hRf]; exact Nat.le_of_ble_eq_true rfl, by rw [hRl]; exact Nat.le_of_ble_eq_true rfl⟩) (mm_preV hK hZ hS hA hP hD [0, 2, 3, 6, 7, 8, 9, 10, 12] rfl rfl 0 rfl rfl rfl) rfl rfl hl.1 rfl (lv_room (Nat.le_of_ble_eq_true rfl)) dX12_agree_57 ⟨by rw [hRc]; exact Nat.le_of_ble_eq_true rfl, by rw [hRs]; exact Nat.le_of_ble_eq_true rfl⟩) hP hD hS hA (fun u : Int32 × Int32 × Int32 × (Nat → Int32) => [(a_0, .inr (12, [.int 0, .ref a_1, .ref a_2, .ref a_3, .ref a_4, .ref a_5, .int i_4, .int i_5, .int i_6, .int i_7, .int i_8, .long j_0, .int i_9, .int i_10, .int i_11, .int i_12, .ref a_6, .ref a_7, .ref a_8, .ref a_9, .ref a_10, .ref a_11, .ref a_12, .ref a_13, .ref a_14, .ref a_15, .ref a_16, .ref a_17, .ref a_18, .int u.1, .int u.2.1, .int u.2.2.1, .int i_16, .int i_17, .int i_18, .ref a_19, .int i_19, .ref a_20])), (a_6, .inl (cy 1, 5, .inl (mm_g [i_20, i_21, i_22, i_23, i_24]))), (a_7, .inl (cy 1, 30, .inl (mm_g [i_25, i_26, i_27, i_28, i_29, i_30, i_31, i_32, i_33, i_34, i_35, i_36, i_37, i_38, i_39, i_40, i_41, i_42, i_43, i_44, i_45, i_46, i_47, i_48, i_49, i_50, i_51, i_52, i_53, i_54]))), (a_8, .inl (cy 1, 90, .inl f_0)), (a_9, .inl (cy 1, 15, .inl f_1)), (a_10, .inl (cy 1, 1050, .inl f_2)), (a_11, .inl (cy 1, 30, .inl f_3)), (a_12, .inl (cy 1, 240, .inl f_4)), (a_13, .inl (cy 1, 450, .inl f_5)), (a_15, .inl (cy 1, 7200, .inl n28)), (a_16, .inl (cy 1, 3, .inl n29)), (a_17, .inl (cy 1, 3, .inl n30)), (a_18, .inl (cy 1, 8, .inl u.2.2.2))]) [0, 2, 3, 6, 7, 8, 9, 10, 12] [1, 4, 5, 11] (n := 13) (fun _ => rfl) (by decide +kernel) (by decide +kernel) rfl (fun _ => rfl) (wr := [(a_6, .inl (cy 1, 5, .inl (mm_g [i_20, i_21, i_22, i_23, i_24]))), (a_9, .inl (cy 1, 15, .inl f_1)), (a_10, .inl (cy 1, 1050, .inl f_2)), (a_17, .inl (cy 1, 3, .inl n30))]) rfl (fun _ => rfl) (fun _ => @rfl _ ([a_0, a_7, a_8, a_11, a_12, a_13, a_15, a_16, a_18] : List Nat)) ?_
                    clear hP hD hS
                    clear H locs
                    intro v448 u
                    obtain ⟨n444, n445, n446, n447⟩ := u
                    intro H locs hw (hP : va_P G vwCl [(a_0, .inr (12, [.int 0, .ref a_1, .ref a_2, .ref a_3, .ref a_4, .ref a_5, .int i_4, .int i_5, .int i_6, .int i_7, .int i_8, .long j_0, .int i_9, .int i_10, .int i_11, .int i_12, .ref a_6, .ref a_7, .ref a_8, .ref a_9, .ref a_10, .ref a_11, .ref a_12, .ref a_13, .ref a_14, .ref a_15, .ref a_16, .ref a_17, .ref a_18, .int n444, .int n445, .int n446, .int i_16, .int i_17, .int i_18, .ref a_19, .int i_19, .ref a_20])), (a_6, .inl (cy 1, 5, .inl (mm_g [i_20, i_21, i_22, i_23, i_24]))), (a_7, .inl (cy 1, 30, .inl (mm_g [i_25, i_26, i_27, i_28, i_29, i_30, i_31, i_32, i_33, i_34, i_35, i_36, i_37, i_38, i_39, i_40, i_41, i_42, i_43, i_44, i_45, i_46, i_47, i_48, i_49, i_50, i_51, i_52, i_53, i_54]))), (a_8, .inl (cy 1, 90, .inl f_0)), (a_9, .inl (cy 1, 15, .inl f_1)), (a_10, .inl (cy 1, 1050, .inl f_2)), (a_11, .inl (cy 1, 30, .inl f_3)), (a_12, .inl (cy 1, 240, .inl f_4)), (a_13, .inl (cy 1, 450, .inl f_5)), (a_15, .inl (cy 1, 7200, .inl n28)), (a_16, .inl (cy 1, 3, .inl n29)), (a_17, .inl (cy 1, 3, .inl n30)), (a_18, .inl (cy 1, 8, .inl n447))] H) (hD : va_D A [(a_0, .inr (12, [.int 0, .ref a_1, .ref a_2, .ref a_3, .ref a_4, .ref a_5, .int i_4, .int i_5, .int i_6, .int i_7, .int i_8, .long j_0, .int i_9, .int i_10, .int i_11, .int i_12, .ref a_6, .ref a_7, .ref a_8, .ref a_9, .ref a_10, .ref a_11, .ref a_12, .ref a_13, .ref a_14, .ref a_15, .ref a_16, .ref a_17, .ref a_18, .int n444, .int n445, .int n446, .int i_16, .int i_17, .int i_18, .ref a_19, .int i_19, .ref a_20])), (a_6, .inl (cy 1, 5, .inl (mm_g [i_20, i_21, i_22, i_23, i_24]))), (a_7, .inl (cy 1, 30, .inl (mm_g [i_25, i_26, i_27, i_28, i_29, i_30, i_31, i_32, i_33, i_34, i_35, i_36, i_37, i_38, i_39, i_40, i_41, i_42, i_43, i_44, i_45, i_46, i_47, i_48, i_49, i_50, i_51, i_52, i_53, i_54]))), (a_8, .inl (cy 1, 90, .inl f_0)), (a_9, .inl (cy 1, 15, .inl f_1)), (a_10, .inl (cy 1, 1050, .inl f_2)), (a_11, .inl (cy 1, 30, .inl f_3)), (a_12, .inl (cy 1, 240, .inl f_4)), (a_13, .inl (cy 1, 450, .inl f_5)), (a_15, .inl (cy 1, 7200, .inl n28)), (a_16, .inl (cy 1, 3, .inl n29)), (a_17, .inl (cy 1, 3, .inl n30)), (a_18, .inl (cy 1, 8, .inl n447))]) hS
                    obtain ⟨w449, w450, hw⟩ := hw
                    obtain ⟨w451, w452⟩ := hw
                    replace w452 : mm_rd n28 n29 f_0 f_3 f_4 f_5 i_0 x41_4_433 i_1 i_26 i_27 i_30 v448 := w452
                    refine lv_aload_n hx hb dX12_agree_60 rfl (lv_at hl 1 rfl) ?_
                    refine lv_iload_n hx hb dX12_agree_61 rfl (lv_at hl 2 rfl) ?_
                    refine lv_iload hx hb dX12_agree_62 (lv_at hl 0 rfl) ?_
                    refine lv_iload_n hx hb dX12_agree_64 rfl (lv_at hl 4 rfl) ?_
                    refine mm_fini (va_runV (As := [.int i_0, .int x41_4_433, .int i_2]) (rest := [.int v448]) ⟨hx, hb, hml, hown, hts⟩ (M141_X12_reads l G cy H.size a_0 i_0 x41_4_433 i_2 0 a_1 a_2 a_3 a_4 a_5 i_4 i_5 i_6 i_7 i_8 j_0 i_9 i_10 i_11 i_12 a_6 a_7 a_8 a_9 a_10 a_11 a_12 a_13 a_14 a_15 a_16 a_17 a_18 n444 n445 n446 i_16 i_17 i_18 a_19 i_19 a_20 i_25 i_26 i_27 i_28 i_29 i_30 i_31 i_32 i_33 i_34 i_35 i_36 i_37 i_38 i_39 i_40 i_41 i_42 i_43 i_44 i_45 i_46 i_47 i_48 i_49 i_50 i_51 i_52 i_53 i_54 f_0 f_3 f_4 f_5 n28 n29 n447 w2 (mm_wk q443 (by decide)) q25 w449 h6 h7 h8 (mm_wk q6 (by decide)) (mm_wk q17 (by decide)) h11 h12 h13 h14 h15 h16 h17 h18 h19 h20 h21 h22 h23 h24 h25 h26 h27 h28 h29 h30 h31 h32 h33 h34 h35 h36 h39 h40 h41 w31 w32 w450 h47 h48 h51 h52 h55 h56 h59 h60 (mm_f1_l w34 w3 w2 (by decide))) (cwV 3 hts (mm_gV mm_w852 mm_w853 mm_w854 mm_w5 mm_w855) rfl rfl rfl hd_X12_reads ⟨by rw [hRf]; exact Nat.le_of_ble_eq_true rfl, by rw [hRl]; exact Nat.le_of_ble_eq_true rfl⟩) (mm_preV hK hZ hS hA hP hD [0, 2, 3, 6, 7, 8, 9, 10, 12] rfl rfl 0 rfl rfl rfl) rfl rfl hl.1 rfl (lv_room (Nat.le_of_ble_eq_true rfl)) dX12_agree_65 ⟨by rw [hRc]; exact Nat.le_of_ble_eq_true rfl, by rw [hRs]; exact Nat.le_of_ble_eq_true rfl⟩) hP hD hS hA (fun u : Int32 × Int32 × Int32 × (Nat → Int32) => [(a_0, .inr (12, [.int 0, .ref a_1, .ref a_2, .ref a_3, .ref a_4, .ref a_5, .int i_4, .int i_5, .int i_6, .int i_7, .int i_8, .long j_0, .int i_9, .int i_10, .int i_11, .int i_12, .ref a_6, .ref a_7, .ref a_8, .ref a_9, .ref a_10, .ref a_11, .ref a_12, .ref a_13, .ref a_14, .ref a_15, .ref a_16, .ref a_17, .ref a_18, .int u.1, .int u.2.1, .int u.2.2.1, .int i_16, .int i_17, .int i_18, .ref a_19, .int i_19, .ref a_20])), (a_6, .inl (cy 1, 5, .inl (mm_g [i_20, i_21, i_22, i_23, i_24]))), (a_7, .inl (cy 1, 30, .inl (mm_g [i_25, i_26, i_27, i_28, i_29, i_30, i_31, i_32, i_33, i_34, i_35, i_36, i_37, i_38, i_39, i_40, i_41, i_42, i_43, i_44, i_45, i_46, i_47, i_48, i_49, i_50, i_51, i_52, i_53, i_54]))), (a_8, .inl (cy 1, 90, .inl f_0)), (a_9, .inl (cy 1, 15, .inl f_1)), (a_10, .inl (cy 1, 1050, .inl f_2)), (a_11, .inl (cy 1, 30, .inl f_3)), (a_12, .inl (cy 1, 240, .inl f_4)), (a_13, .inl (cy 1, 450, .inl f_5)), (a_15, .inl (cy 1, 7200, .inl n28)), (a_16, .inl (cy 1, 3, .inl n29)), (a_17, .inl (cy 1, 3, .inl n30)), (a_18, .inl (cy 1, 8, .inl u.2.2.2))]) [0, 2, 3, 6, 7, 8, 9, 10, 12] [1, 4, 5, 11] (n := 13) (fun _ => rfl) (by decide +kernel) (by decide +kernel) rfl (fun _ => rfl) (wr := [(a_6, .inl (cy 1, 5, .inl (mm_g [i_20, i_21, i_22, i_23, i_24]))), (a_9, .inl (cy 1, 15, .inl f_1)), (a_10, .inl (cy 1, 1050, .inl f_2)), (a_17, .inl (cy 1, 3, .inl n30))]) rfl (fun _ => rfl) (fun _ => @rfl _ ([a_0, a_7, a_8, a_11, a_12, a_13, a_15, a_16, a_18] : List Nat)) ?_
                    clear hP hD hS
                    clear H locs
                    intro v457 u
                    obtain ⟨n453, n454, n455, n456⟩ := u
                    intro H locs hw (hP : va_P G vwCl [(a_0, .inr (12, [.int 0, .ref a_1, .ref a_2, .ref a_3, .ref a_4, .ref a_5, .int i_4, .int i_5, .int i_6, .int i_7, .int i_8, .long j_0, .int i_9, .int i_10, .int i_11, .int i_12, .ref a_6, .ref a_7, .ref a_8, .ref a_9, .ref a_10, .ref a_11, .ref a_12, .ref a_13, .ref a_14, .ref a_15, .ref a_16, .ref a_17, .ref a_18, .int n453, .int n454, .int n455, .int i_16, .int i_17, .int i_18, .ref a_19, .int i_19, .ref a_20])), (a_6, .inl (cy 1, 5, .inl (mm_g [i_20, i_21, i_22, i_23, i_24]))), (a_7, .inl (cy 1, 30, .inl (mm_g [i_25, i_26, i_27, i_28, i_29, i_30, i_31, i_32, i_33, i_34, i_35, i_36, i_37, i_38, i_39, i_40, i_41, i_42, i_43, i_44, i_45, i_46, i_47, i_48, i_49, i_50, i_51, i_52, i_53, i_54]))), (a_8, .inl (cy 1, 90, .inl f_0)), (a_9, .inl (cy 1, 15, .inl f_1)), (a_10, .inl (cy 1, 1050, .inl f_2)), (a_11, .inl (cy 1, 30, .inl f_3)), (a_12, .inl (cy 1, 240, .inl f_4)), (a_13, .inl (cy 1, 450, .inl f_5)), (a_15, .inl (cy 1, 7200, .inl n28)), (a_16, .inl (cy 1, 3, .inl n29)), (a_17, .inl (cy 1, 3, .inl n30)), (a_18, .inl (cy 1, 8, .inl n456))] H) (hD : va_D A [(a_0, .inr (12, [.int 0, .ref a_1, .ref a_2, .ref a_3, .ref a_4, .ref a_5, .int i_4, .int i_5, .int i_6, .int i_7, .int i_8, .long j_0, .int i_9, .int i_10, .int i_11, .int i_12, .ref a_6, .ref a_7, .ref a_8, .ref a_9, .ref a_10, .ref a_11, .ref a_12, .ref a_13, .ref a_14, .ref a_15, .ref a_16, .ref a_17, .ref a_18, .int n453, .int n454, .int n455, .int i_16, .int i_17, .int i_18, .ref a_19, .int i_19, .ref a_20])), (a_6, .inl (cy 1, 5, .inl (mm_g [i_20, i_21, i_22, i_23, i_24]))), (a_7, .inl (cy 1, 30, .inl (mm_g [i_25, i_26, i_27, i_28, i_29, i_30, i_31, i_32, i_33, i_34, i_35, i_36, i_37, i_38, i_39, i_40, i_41, i_42, i_43, i_44, i_45, i_46, i_47, i_48, i_49, i_50, i_51, i_52, i_53, i_54]))), (a_8, .inl (cy 1, 90, .inl f_0)), (a_9, .inl (cy 1, 15, .inl f_1)), (a_10, .inl (cy 1, 1050, .inl f_2)), (a_11, .inl (cy 1, 30, .inl f_3)), (a_12, .inl (cy 1, 240, .inl f_4)), (a_13, .inl (cy 1, 450, .inl f_5)), (a_15, .inl (cy 1, 7200, .inl n28)), (a_16, .inl (cy 1, 3, .inl n29)), (a_17, .inl (cy 1, 3, .inl n30)), (a_18, .inl (cy 1, 8, .inl n456))]) hS
                    obtain ⟨w458, w459, hw⟩ := hw
                    obtain ⟨w460, w461⟩ := hw
                    replace w461 : mm_rd n28 n29 f_0 f_3 f_4 f_5 i_0 x41_4_433 i_2 i_26 i_27 i_30 v457 := w461
                    refine lv_icmp_ne (tgt := 74) hx hb dX12_agree_68 (by decide) (fun c462 => ?_) (fun c462 => ?_)
                    · obtain ⟨v463, ev463⟩ : ∃ y : Int32, y = x41_4_433 + 1 := ⟨_, rfl⟩
                      refine lv_iinc (v := v463) (lv' := [(4, .int v463), (0, .ref a_0), (1, .int i_0), (2, .int i_1), (3, .int i_2)]) hx hb dX12_agree_74 hl (k := 0) rfl (by rw [ev463]; rfl) (by decide) rfl ?_
                      clear hl
                      clear ls
                      intro ls hl
                      have rv463 : mm_rg v463 1 210 := mm_add ev463 q443 mm_k1 (by decide) (by decide)
                      have tv463 := mm_addEc ev463 q443 mm_k1 (by decide) (k := 1) (by decide)
                      refine lv_goto (tgt := 41) hx hb dX12_agree_77 (by decide) ?_
                      exact ih41 v463 n453 n454 n455 n456 (mm_wk rv463 (by decide)) w458 w459 (mm_mu hm41 tv463 (by decide) (rv463).2 (by decide)) H locs hP hD hS ls (lv_sub hl [0, 1, 2, 3, 4] rfl)
                    · refine lv_iload hx hb dX12_agree_71 (lv_at hl 0 rfl) ?_
                      subst hAe
                      rw [hQ]
                      exact W.iret (v := x41_4_433) hx hb hr (fun t ht hW => ⟨⟨x41_4_433, (n453, n454, n455, n28, n29, n30, n456), rfl, ⟨w458, w31, w32, w33, w459, (mm_wk q443 (by decide))⟩, by rw [ht]; exact hP, hK.warm hW, hD⟩, hS.F ht⟩) hS.2.2 dX12_agree_73
              exact L41_437 _ 0 i_13 i_14 i_15 f_9 (mm_wk mm_k0 (by decide)) h0 h45 (Nat.lt_succ_self _) H locs hP hD hS ls (lv_sub hl [0, 1, 2, 3, 4] rfl)
            · exact mm_eqN c27.symm mm_k0 mm_k1 (by decide)

