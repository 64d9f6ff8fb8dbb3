theorem dX12_common__0 : decode cX12_common_ 0 = .ok (.lload_n 2, 1) := by decide +kernel
theorem dX12_common__1 : decode cX12_common_ 1 = .ok (.lconst 0, 1) := by decide +kernel
theorem dX12_common__2 : decode cX12_common_ 2 = .ok (.lcmp, 1) := by decide +kernel
theorem dX12_common__3 : decode cX12_common_ 3 = .ok (.ifCond .ne 7, 3) := by decide +kernel
theorem dX12_common__6 : decode cX12_common_ 6 = .ok (.lload_n 0, 1) := by decide +kernel
theorem dX12_common__7 : decode cX12_common_ 7 = .ok (.goto 10, 3) := by decide +kernel
theorem dX12_common__10 : decode cX12_common_ 10 = .ok (.lload_n 2, 1) := by decide +kernel
theorem dX12_common__11 : decode cX12_common_ 11 = .ok (.lload_n 0, 1) := by decide +kernel
theorem dX12_common__12 : decode cX12_common_ 12 = .ok (.lload_n 2, 1) := by decide +kernel
theorem dX12_common__13 : decode cX12_common_ 13 = .ok (.lrem, 1) := by decide +kernel
theorem dX12_common__14 : decode cX12_common_ 14 = .ok (.invokestatic 356, 3) := by decide +kernel
theorem dX12_common__17 : decode cX12_common_ 17 = .ok (.lreturn, 1) := by decide +kernel
theorem dX12_days_0 : decode cX12_days 0 = .ok (.aload_n 0, 1) := by decide +kernel
theorem dX12_days_1 : decode cX12_days 1 = .ok (.iconst 0, 1) := by decide +kernel
theorem dX12_days_2 : decode cX12_days 2 = .ok (.putfield 77, 3) := by decide +kernel
theorem dX12_days_5 : decode cX12_days 5 = .ok (.aload_n 0, 1) := by decide +kernel
theorem dX12_days_6 : decode cX12_days 6 = .ok (.iload_n 1, 1) := by decide +kernel
theorem dX12_days_7 : decode cX12_days 7 = .ok (.invokevirtual 265, 3) := by decide +kernel
theorem dX12_days_10 : decode cX12_days 10 = .ok (.ifCond .eq 20, 3) := by decide +kernel
theorem dX12_days_13 : decode cX12_days 13 = .ok (.aload_n 0, 1) := by decide +kernel
theorem dX12_days_14 : decode cX12_days 14 = .ok (.iload_n 2, 1) := by decide +kernel
theorem dX12_days_15 : decode cX12_days 15 = .ok (.i2l, 1) := by decide +kernel
theorem dX12_days_16 : decode cX12_days 16 = .ok (.invokevirtual 317, 3) := by decide +kernel
theorem dX12_days_19 : decode cX12_days 19 = .ok (.ifCond .eq 11, 3) := by decide +kernel
theorem dX12_days_22 : decode cX12_days 22 = .ok (.iload_n 3, 1) := by decide +kernel
theorem dX12_days_23 : decode cX12_days 23 = .ok (.i2l, 1) := by decide +kernel
theorem dX12_days_24 : decode cX12_days 24 = .ok (.invokestatic 341, 3) := by decide +kernel
theorem dX12_days_27 : decode cX12_days 27 = .ok (.ifCond .ne 6, 3) := by decide +kernel
theorem dX12_days_30 : decode cX12_days 30 = .ok (.bipush (-2), 2) := by decide +kernel
theorem dX12_days_32 : decode cX12_days 32 = .ok (.ireturn, 1) := by decide +kernel
theorem dX12_days_33 : decode cX12_days 33 = .ok (.aload_n 0, 1) := by decide +kernel
theorem dX12_days_34 : decode cX12_days 34 = .ok (.invokevirtual 326, 3) := by decide +kernel
theorem dX12_days_37 : decode cX12_days 37 = .ok (.iconst 0, 1) := by decide +kernel
theorem dX12_days_38 : decode cX12_days 38 = .ok (.istore 4, 2) := by decide +kernel
theorem dX12_days_40 : decode cX12_days 40 = .ok (.iconst 0, 1) := by decide +kernel
theorem dX12_days_41 : decode cX12_days 41 = .ok (.istore 5, 2) := by decide +kernel
theorem dX12_days_43 : decode cX12_days 43 = .ok (.iload 5, 2) := by decide +kernel
theorem dX12_days_45 : decode cX12_days 45 = .ok (.aload_n 0, 1) := by decide +kernel
theorem dX12_days_46 : decode cX12_days 46 = .ok (.getfield 65, 3) := by decide +kernel
theorem dX12_days_49 : decode cX12_days 49 = .ok (.iload_n 1, 1) := by decide +kernel
theorem dX12_days_50 : decode cX12_days 50 = .ok (.iaload, 1) := by decide +kernel
theorem dX12_days_51 : decode cX12_days 51 = .ok (.if_icmp .ge 31, 3) := by decide +kernel
theorem dX12_days_54 : decode cX12_days 54 = .ok (.iload 4, 2) := by decide +kernel
theorem dX12_days_56 : decode cX12_days 56 = .ok (.aload_n 0, 1) := by decide +kernel
theorem dX12_days_57 : decode cX12_days 57 = .ok (.iload_n 1, 1) := by decide +kernel
theorem dX12_days_58 : decode cX12_days 58 = .ok (.iload 5, 2) := by decide +kernel
theorem dX12_days_60 : decode cX12_days 60 = .ok (.iload_n 2, 1) := by decide +kernel
theorem dX12_days_61 : decode cX12_days 61 = .ok (.invokevirtual 338, 3) := by decide +kernel
theorem dX12_days_64 : decode cX12_days 64 = .ok (.iload_n 3, 1) := by decide +kernel
theorem dX12_days_65 : decode cX12_days 65 = .ok (.if_icmp .lt 7, 3) := by decide +kernel
theorem dX12_days_68 : decode cX12_days 68 = .ok (.iconst 1, 1) := by decide +kernel
theorem dX12_days_69 : decode cX12_days 69 = .ok (.goto 4, 3) := by decide +kernel
theorem dX12_days_72 : decode cX12_days 72 = .ok (.iconst 0, 1) := by decide +kernel
theorem dX12_days_73 : decode cX12_days 73 = .ok (.iadd, 1) := by decide +kernel
theorem dX12_days_74 : decode cX12_days 74 = .ok (.istore 4, 2) := by decide +kernel
theorem dX12_days_76 : decode cX12_days 76 = .ok (.iinc 5 1, 3) := by decide +kernel
theorem dX12_days_79 : decode cX12_days 79 = .ok (.goto (-36), 3) := by decide +kernel
theorem dX12_days_82 : decode cX12_days 82 = .ok (.iload 4, 2) := by decide +kernel
theorem dX12_days_84 : decode cX12_days 84 = .ok (.ireturn, 1) := by decide +kernel
theorem dX12_run_0 : decode cX12_run 0 = .ok (.aload_n 0, 1) := by decide +kernel
theorem dX12_run_1 : decode cX12_run 1 = .ok (.iconst 0, 1) := by decide +kernel
theorem dX12_run_2 : decode cX12_run 2 = .ok (.putfield 77, 3) := by decide +kernel
theorem dX12_run_5 : decode cX12_run 5 = .ok (.aload_n 0, 1) := by decide +kernel
theorem dX12_run_6 : decode cX12_run 6 = .ok (.iload_n 1, 1) := by decide +kernel
theorem dX12_run_7 : decode cX12_run 7 = .ok (.invokevirtual 265, 3) := by decide +kernel
theorem dX12_run_10 : decode cX12_run 10 = .ok (.ifCond .eq 12, 3) := by decide +kernel
theorem dX12_run_13 : decode cX12_run 13 = .ok (.aload_n 0, 1) := by decide +kernel
theorem dX12_run_14 : decode cX12_run 14 = .ok (.iload_n 2, 1) := by decide +kernel
theorem dX12_run_15 : decode cX12_run 15 = .ok (.i2l, 1) := by decide +kernel
theorem dX12_run_16 : decode cX12_run 16 = .ok (.invokevirtual 317, 3) := by decide +kernel
theorem dX12_run_19 : decode cX12_run 19 = .ok (.ifCond .ne 6, 3) := by decide +kernel
theorem dX12_run_22 : decode cX12_run 22 = .ok (.bipush (-2), 2) := by decide +kernel
theorem dX12_run_24 : decode cX12_run 24 = .ok (.ireturn, 1) := by decide +kernel
theorem dX12_run_25 : decode cX12_run 25 = .ok (.aload_n 0, 1) := by decide +kernel
theorem dX12_run_26 : decode cX12_run 26 = .ok (.invokevirtual 326, 3) := by decide +kernel
theorem dX12_run_29 : decode cX12_run 29 = .ok (.iconst 0, 1) := by decide +kernel
theorem dX12_run_30 : decode cX12_run 30 = .ok (.istore_n 3, 1) := by decide +kernel
theorem dX12_run_31 : decode cX12_run 31 = .ok (.iconst 0, 1) := by decide +kernel
theorem dX12_run_32 : decode cX12_run 32 = .ok (.istore 4, 2) := by decide +kernel
theorem dX12_run_34 : decode cX12_run 34 = .ok (.iconst 0, 1) := by decide +kernel
theorem dX12_run_35 : decode cX12_run 35 = .ok (.istore 5, 2) := by decide +kernel
theorem dX12_run_37 : decode cX12_run 37 = .ok (.iload 5, 2) := by decide +kernel
theorem dX12_run_39 : decode cX12_run 39 = .ok (.aload_n 0, 1) := by decide +kernel
theorem dX12_run_40 : decode cX12_run 40 = .ok (.getfield 65, 3) := by decide +kernel
theorem dX12_run_43 : decode cX12_run 43 = .ok (.iload_n 1, 1) := by decide +kernel
theorem dX12_run_44 : decode cX12_run 44 = .ok (.iaload, 1) := by decide +kernel
theorem dX12_run_45 : decode cX12_run 45 = .ok (.if_icmp .ge 47, 3) := by decide +kernel
theorem dX12_run_48 : decode cX12_run 48 = .ok (.aload_n 0, 1) := by decide +kernel
theorem dX12_run_49 : decode cX12_run 49 = .ok (.iload_n 1, 1) := by decide +kernel
theorem dX12_run_50 : decode cX12_run 50 = .ok (.iload 5, 2) := by decide +kernel
theorem dX12_run_52 : decode cX12_run 52 = .ok (.iload_n 2, 1) := by decide +kernel
theorem dX12_run_53 : decode cX12_run 53 = .ok (.invokevirtual 338, 3) := by decide +kernel
theorem dX12_run_56 : decode cX12_run 56 = .ok (.aload_n 0, 1) := by decide +kernel
theorem dX12_run_57 : decode cX12_run 57 = .ok (.invokevirtual 308, 3) := by decide +kernel
theorem dX12_run_60 : decode cX12_run 60 = .ok (.if_icmp .le 10, 3) := by decide +kernel
theorem dX12_run_63 : decode cX12_run 63 = .ok (.iload 4, 2) := by decide +kernel
theorem dX12_run_65 : decode cX12_run 65 = .ok (.iconst 1, 1) := by decide +kernel
theorem dX12_run_66 : decode cX12_run 66 = .ok (.iadd, 1) := by decide +kernel
theorem dX12_run_67 : decode cX12_run 67 = .ok (.goto 4, 3) := by decide +kernel
theorem dX12_run_70 : decode cX12_run 70 = .ok (.iconst 0, 1) := by decide +kernel
theorem dX12_run_71 : decode cX12_run 71 = .ok (.istore 4, 2) := by decide +kernel
theorem dX12_run_73 : decode cX12_run 73 = .ok (.iload 4, 2) := by decide +kernel
theorem dX12_run_75 : decode cX12_run 75 = .ok (.iload_n 3, 1) := by decide +kernel
theorem dX12_run_76 : decode cX12_run 76 = .ok (.if_icmp .le 8, 3) := by decide +kernel
theorem dX12_run_79 : decode cX12_run 79 = .ok (.iload 4, 2) := by decide +kernel
theorem dX12_run_81 : decode cX12_run 81 = .ok (.goto 4, 3) := by decide +kernel
theorem dX12_run_84 : decode cX12_run 84 = .ok (.iload_n 3, 1) := by decide +kernel
theorem dX12_run_85 : decode cX12_run 85 = .ok (.istore_n 3, 1) := by decide +kernel
theorem dX12_run_86 : decode cX12_run 86 = .ok (.iinc 5 1, 3) := by decide +kernel
theorem dX12_run_89 : decode cX12_run 89 = .ok (.goto (-52), 3) := by decide +kernel
theorem dX12_run_92 : decode cX12_run 92 = .ok (.iload_n 3, 1) := by decide +kernel
theorem dX12_run_93 : decode cX12_run 93 = .ok (.ireturn, 1) := by decide +kernel
theorem hs_X12_common_ : yX12_common_.cls ≠ "java/lang/invoke/MethodHandle" ∧ yX12_common_.cls ≠ "java/lang/invoke/VarHandle" ∧ (parseMethodDescriptor yX12_common_.desc).map (fun d => d.parameters.length) = some 2 := by decide +kernel
set_option maxHeartbeats 4000000 in
set_option maxRecDepth 100000 in
theorem M157_X12_days (l : Launch) (G : va_G) (cy : Nat → ClassId) (sz : Nat) (a_0 : Nat) (i_0 : Int32) (i_1 : Int32) (i_2 : Int32) (i_3 : Int32) (a_1 : Nat) (a_2 : Nat) (a_3 : Nat) (a_4 : Nat) (a_5 : Nat) (i_4 : Int32) (i_5 : Int32) (i_6 : Int32) (i_7 : Int32) (i_8 : Int32) (j_0 : Int64) (i_9 : Int32) (i_10 : Int32) (i_11 : Int32) (i_12 : Int32) (a_6 : Nat) (a_7 : Nat) (a_8 : Nat) (a_9 : Nat) (a_10 : Nat) (a_11 : Nat) (a_12 : Nat) (a_13 : Nat) (a_14 : Nat) (a_15 : Nat) (a_16 : Nat) (a_17 : Nat) (a_18 : Nat) (i_13 : Int32) (i_14 : Int32) (i_15 : Int32) (i_16 : Int32) (i_17 : Int32) (i_18 : Int32) (a_19 : Nat) (i_19 : Int32) (a_20 : Nat) (i_20 : Int32) (i_21 : Int32) (i_22 : Int32) (i_23 : Int32) (i_24 : Int32) (i_25 : Int32) (i_26 : Int32) (i_27 : Int32) (i_28 : Int32) (i_29 : Int32) (i_30 : Int32) (i_31 : Int32) (i_32 : Int32) (i_33 : Int32) (i_34 : Int32) (i_35 : Int32) (i_36 : Int32) (i_37 : Int32) (i_38 : Int32) (i_39 : Int32) (i_40 : Int32) (i_41 : Int32) (i_42 : Int32) (i_43 : Int32) (i_44 : Int32) (i_45 : Int32) (i_46 : Int32) (i_47 : Int32) (i_48 : Int32) (i_49 : Int32) (i_50 : Int32) (i_51 : Int32) (i_52 : Int32) (i_53 : Int32) (i_54 : Int32) (f_0 : Nat → Int32) (f_1 : Nat → Int32) (f_2 : Nat → Int32) (f_3 : Nat → Int32) (f_4 : Nat → Int32) (f_5 : Nat → Int32) (f_6 : Nat → Int32) (f_7 : Nat → Int32) (f_8 : Nat → Int32) (f_9 : Nat → Int32) (h0 : mm_rg i_13 0 8) (h1 : mm_rg i_20 0 601) (h2 : mm_rg i_21 0 601) (h3 : mm_rg i_22 0 601) (h4 : mm_rg i_23 0 601) (h5 : mm_rg i_24 0 601) (h6 : mm_rg i_25 0 10) (h7 : mm_rg i_26 0 99) (h8 : mm_rg i_27 0 9) (h9 : mm_rg i_28 0 3) (h10 : mm_rg i_29 0 6) (h11 : mm_rg i_30 0 30) (h12 : mm_rg i_31 0 10) (h13 : mm_rg i_32 0 99) (h14 : mm_rg i_33 0 9) (h15 : mm_rg i_34 0 3) (h16 : mm_rg i_35 0 6) (h17 : mm_rg i_36 0 30) (h18 : mm_rg i_37 0 10) (h19 : mm_rg i_38 0 99) (h20 : mm_rg i_39 0 9) (h21 : mm_rg i_40 0 3) (h22 : mm_rg i_41 0 6) (h23 : mm_rg i_42 0 30) (h24 : mm_rg i_43 0 10) (h25 : mm_rg i_44 0 99) (h26 : mm_rg i_45 0 9) (h27 : mm_rg i_46 0 3) (h28 : mm_rg i_47 0 6) (h29 : mm_rg i_48 0 30) (h30 : mm_rg i_49 0 10) (h31 : mm_rg i_50 0 99) (h32 : mm_rg i_51 0 9) (h33 : mm_rg i_52 0 3) (h34 : mm_rg i_53 0 6) (h35 : mm_rg i_54 0 30) (h36 : mm_ar f_0 0 99) (h37 : mm_ar f_1 0 7) (h38 : mm_ar f_2 0 9) (h39 : mm_ar f_3 0 8) (h40 : mm_ar f_4 0 9) (h41 : mm_ar f_5 (-1) 99) (h42 : mm_ar f_6 0 9) (h43 : mm_ar f_7 0 210) (h44 : mm_ar f_8 0 210) (h45 : mm_ar f_9 0 9) (h46 : mm_rls f_1 f_2 0 i_27 i_28) (h47 : mm_txs f_3 f_4 0 i_27 i_29) (h48 : mm_acs f_5 0 i_27 i_28 i_30) (h49 : mm_tl i_20 i_28 i_29) (h50 : mm_rls f_1 f_2 1 i_33 i_34) (h51 : mm_txs f_3 f_4 1 i_33 i_35) (h52 : mm_acs f_5 1 i_33 i_34 i_36) (h53 : mm_tl i_21 i_34 i_35) (h54 : mm_rls f_1 f_2 2 i_39 i_40) (h55 : mm_txs f_3 f_4 2 i_39 i_41) (h56 : mm_acs f_5 2 i_39 i_40 i_42) (h57 : mm_tl i_22 i_40 i_41) (h58 : mm_rls f_1 f_2 3 i_45 i_46) (h59 : mm_txs f_3 f_4 3 i_45 i_47) (h60 : mm_acs f_5 3 i_45 i_46 i_48) (h61 : mm_tl i_23 i_46 i_47)  : mm_CI l yX12_days (mm_ws yX12_days cX12_days 6 (some .int)) ({ frames := 14, cells := 0, slots := 0, locals := 300 } : Room) G cy sz [(a_0, .inr (12, [.int i_3, .ref a_1, .ref a_2, .ref a_3, .ref a_4, .ref a_5, .int i_4, .int i_5, .int i_6, .int i_7, .int i_8, .long j_0, .int i_9, .int i_10, .int i_11, .int i_12, .ref a_6, .ref a_7, .ref a_8, .ref a_9, .ref a_10, .ref a_11, .ref a_12, .ref a_13, .ref a_14, .ref a_15, .ref a_16, .ref a_17, .ref a_18, .int i_13, .int i_14, .int i_15, .int i_16, .int i_17, .int i_18, .ref a_19, .int i_19, .ref a_20])), (a_6, .inl (cy 1, 5, .inl (mm_g [i_20, i_21, i_22, i_23, i_24]))), (a_7, .inl (cy 1, 30, .inl (mm_g [i_25, i_26, i_27, i_28, i_29, i_30, i_31, i_32, i_33, i_34, i_35, i_36, i_37, i_38, i_39, i_40, i_41, i_42, i_43, i_44, i_45, i_46, i_47, i_48, i_49, i_50, i_51, i_52, i_53, i_54]))), (a_8, .inl (cy 1, 90, .inl f_0)), (a_9, .inl (cy 1, 15, .inl f_1)), (a_10, .inl (cy 1, 1050, .inl f_2)), (a_11, .inl (cy 1, 30, .inl f_3)), (a_12, .inl (cy 1, 240, .inl f_4)), (a_13, .inl (cy 1, 450, .inl f_5)), (a_15, .inl (cy 1, 7200, .inl f_6)), (a_16, .inl (cy 1, 3, .inl f_7)), (a_17, .inl (cy 1, 3, .inl f_8)), (a_18, .inl (cy 1, 8, .inl f_9))] [.ref a_0, .int i_0, .int i_1, .int i_2] (fun u : Int32 × Int32 × Int32 × (Nat → Int32) × (Nat → Int32) × (Nat → Int32) × (Nat → Int32) => [(a_0, .inr (12, [.int 0, .ref a_1, .ref a_2, .ref a_3, .ref a_4, .ref a_5, .int i_4, .int i_5, .int i_6, .int i_7, .int i_8, .long j_0, .int i_9, .int i_10, .int i_11, .int i_12, .ref a_6, .ref a_7, .ref a_8, .ref a_9, .ref a_10, .ref a_11, .ref a_12, .ref a_13, .ref a_14, .ref a_15, .ref a_16, .ref a_17, .ref a_18, .int u.1, .int u.2.1, .int u.2.2.1, .int i_16, .int i_17, .int i_18, .ref a_19, .int i_19, .ref a_20])), (a_6, .inl (cy 1, 5, .inl (mm_g [i_20, i_21, i_22, i_23, i_24]))), (a_7, .inl (cy 1, 30, .inl (mm_g [i_25, i_26, i_27, i_28, i_29, i_30, i_31, i_32, i_33, i_34, i_35, i_36, i_37, i_38, i_39, i_40, i_41, i_42, i_43, i_44, i_45, i_46, i_47, i_48, i_49, i_50, i_51, i_52, i_53, i_54]))), (a_8, .inl (cy 1, 90, .inl f_0)), (a_9, .inl (cy 1, 15, .inl f_1)), (a_10, .inl (cy 1, 1050, .inl f_2)), (a_11, .inl (cy 1, 30, .inl f_3)), (a_12, .inl (cy 1, 240, .inl f_4)), (a_13, .inl (cy 1, 450, .inl f_5)), (a_15, .inl (cy 1, 7200, .inl u.2.2.2.1)), (a_16, .inl (cy 1, 3, .inl u.2.2.2.2.1)), (a_17, .inl (cy 1, 3, .inl u.2.2.2.2.2.1)), (a_18, .inl (cy 1, 8, .inl u.2.2.2.2.2.2))]) (fun (r : Int32) (u : Int32 × Int32 × Int32 × (Nat → Int32) × (Nat → Int32) × (Nat → Int32) × (Nat → Int32)) => mm_rg u.1 0 8 ∧ mm_ar u.2.2.2.1 0 9 ∧ mm_ar u.2.2.2.2.1 0 210 ∧ mm_ar u.2.2.2.2.2.1 0 210 ∧ mm_ar u.2.2.2.2.2.2 0 9 ∧ True) 0 0 := by
  refine mm_begin (lv := [(0, .ref a_0), (1, .int i_0), (2, .int i_1), (3, .int i_2)]) (by decide) (Nat.le_of_ble_eq_true rfl) rfl ?_
  intro p e s m below meth c A ls R args Q H locs hRe hQ hAe hx hb hr hlocks hml hown hnm hts hsz hA hS hP hK hD hZ hl
  have hRf : R.frames = 14 := by rw [hRe]
  have hRl : R.locals = 300 := by rw [hRe]
  have hRc : R.cells = 0 := by rw [hRe]
  have hRs : R.slots = 0 := by rw [hRe]
  refine lv_aload_n hx hb dX12_days_0 rfl (lv_at hl 0 rfl) ?_
  refine lv_iconst (v := 0) hx hb dX12_days_1 (by decide) ?_
  refine va_put (D := G) (ci := 12) (v := .int 0) (ty := tyX12 0) (C := RX12) (T := TX12) (N := 38) hx hb hts (mm_i inlX12) tyX12 tyX12_ok nmX12 hown hK.1 hP hD hS 0 rfl rfl 0 (by decide) (mm_h hts mm_w177) (fun _ h9 => h9) rfl (tyX12_ok 0 (by decide)) rfl rfl (Nat.le_of_ble_eq_true rfl) dX12_days_2 ?_
  clear hP hD hS
  clear H locs
  intro H locs (hP : va_P G vwCl [(a_0, .inr (12, [.int 0, .ref a_1, .ref a_2, .ref a_3, .ref a_4, .ref a_5, .int i_4, .int i_5, .int i_6, .int i_7, .int i_8, .long j_0, .int i_9, .int i_10, .int i_11, .int i_12, .ref a_6, .ref a_7, .ref a_8, .ref a_9, .ref a_10, .ref a_11, .ref a_12, .ref a_13, .ref a_14, .ref a_15, .ref a_16, .ref a_17, .ref a_18, .int i_13, .int i_14, .int i_15, .int i_16, .int i_17, .int i_18, .ref a_19, .int i_19, .ref a_20])), (a_6, .inl (cy 1, 5, .inl (mm_g [i_20, i_21, i_22, i_23, i_24]))), (a_7, .inl (cy 1, 30, .inl (mm_g [i_25, i_26, i_27, i_28, i_29, i_30, i_31, i_32, i_33, i_34, i_35, i_36, i_37, i_38, i_39, i_40, i_41, i_42, i_43, i_44, i_45, i_46, i_47, i_48, i_49, i_50, i_51, i_52, i_53, i_54]))), (a_8, .inl (cy 1, 90, .inl f_0)), (a_9, .inl (cy 1, 15, .inl f_1)), (a_10, .inl (cy 1, 1050, .inl f_2)), (a_11, .inl (cy 1, 30, .inl f_3)), (a_12, .inl (cy 1, 240, .inl f_4)), (a_13, .inl (cy 1, 450, .inl f_5)), (a_15, .inl (cy 1, 7200, .inl f_6)), (a_16, .inl (cy 1, 3, .inl f_7)), (a_17, .inl (cy 1, 3, .inl f_8)), (a_18, .inl (cy 1, 8, .inl f_9))] H) (hD : va_D A [(a_0, .inr (12, [.int 0, .ref a_1, .ref a_2, .ref a_3, .ref a_4, .ref a_5, .int i_4, .int i_5, .int i_6, .int i_7, .int i_8, .long j_0, .int i_9, .int i_10, .int i_11, .int i_12, .ref a_6, .ref a_7, .ref a_8, .ref a_9, .ref a_10, .ref a_11, .ref a_12, .ref a_13, .ref a_14, .ref a_15, .ref a_16, .ref a_17, .ref a_18, .int i_13, .int i_14, .int i_15, .int i_16, .int i_17, .int i_18, .ref a_19, .int i_19, .ref a_20])), (a_6, .inl (cy 1, 5, .inl (mm_g [i_20, i_21, i_22, i_23, i_24]))), (a_7, .inl (cy 1, 30, .inl (mm_g [i_25, i_26, i_27, i_28, i_29, i_30, i_31, i_32, i_33, i_34, i_35, i_36, i_37, i_38, i_39, i_40, i_41, i_42, i_43, i_44, i_45, i_46, i_47, i_48, i_49, i_50, i_51, i_52, i_53, i_54]))), (a_8, .inl (cy 1, 90, .inl f_0)), (a_9, .inl (cy 1, 15, .inl f_1)), (a_10, .inl (cy 1, 1050, .inl f_2)), (a_11, .inl (cy 1, 30, .inl f_3)), (a_12, .inl (cy 1, 240, .inl f_4)), (a_13, .inl (cy 1, 450, .inl f_5)), (a_15, .inl (cy 1, 7200, .inl f_6)), (a_16, .inl (cy 1, 3, .inl f_7)), (a_17, .inl (cy 1, 3, .inl f_8)), (a_18, .inl (cy 1, 8, .inl f_9))]) hS
  refine lv_aload_n hx hb dX12_days_5 rfl (lv_at hl 0 rfl) ?_
  refine lv_iload_n hx hb dX12_days_6 rfl (lv_at hl 1 rfl) ?_
  refine mm_finir (va_runV (As := [.int i_0]) (rest := []) ⟨hx, hb, hml, hown, hts⟩ (M98_X12_isLand l G cy H.size a_0 i_0 0 a_1 a_2 a_3 a_4 a_5 i_4 i_5 i_6 i_7 i_8 j_0 i_9 i_10 i_11 i_12 a_6 a_7 a_8 a_9 a_10 a_11 a_12 a_13 a_14 a_15 a_16 a_17 a_18 i_13 i_14 i_15 i_16 i_17 i_18 a_19 i_19 a_20 i_25 i_26 i_27 i_28 i_29 i_30 i_31 i_32 i_33 i_34 i_35 i_36 i_37 i_38 i_39 i_40 i_41 i_42 i_43 i_44 i_45 i_46 i_47 i_48 i_49 i_50 i_51 i_52 i_53 i_54 h6 h7 h8 h9 h10 h11 h12 h13 h14 h15 h16 h17 h18 h19 h20 h21 h22 h23 h24 h25 h26 h27 h28 h29 h30 h31 h32 h33 h34 h35) (cwV 1 hts (mm_gV mm_w641 mm_w642 mm_w643 mm_w5 mm_w644) rfl rfl rfl hd_X12_isLand ⟨by rw [hRf]; exact Nat.le_of_ble_eq_true rfl, by rw [hRl]; exact Nat.le_of_ble_eq_true rfl⟩) (mm_preV hK hZ hS hA hP hD [0, 2] rfl rfl 0 rfl rfl rfl) rfl rfl hl.1 rfl (lv_room (Nat.le_of_ble_eq_true rfl)) dX12_days_7 ⟨by rw [hRc]; exact Nat.le_of_ble_eq_true rfl, by rw [hRs]; exact Nat.le_of_ble_eq_true rfl⟩) hP hD hS hA [0, 2] rfl (fun _ => rfl) ?_
  clear hP hD hS
  clear H locs
  intro v1 _u H locs hw hP hD hS
  rcases hw with rfl | ⟨rfl, w2, w3⟩
  · refine lv_if_eq (tgt := 30) hx hb dX12_days_10 (by decide) (fun c4 => ?_) (fun c4 => ?_)
    · refine lv_bipush (v := (-2)) hx hb dX12_days_30 (by decide) ?_
      subst hAe
      rw [hQ]
      exact W.iret (v := (-2)) hx hb hr (fun t ht hW => ⟨⟨(-2), (i_13, i_14, i_15, f_6, f_7, f_8, f_9), rfl, ⟨h0, h42, h43, h44, h45, trivial⟩, by rw [ht]; exact hP, hK.warm hW, hD⟩, hS.F ht⟩) hS.2.2 dX12_days_32
    · have q5 := mm_neL (lo := 1) (mm_ne c4) mm_k0 mm_k0 (by decide) (by decide)
      exact mm_no q5 (by decide)
  · have q6 := mm_ltR (lo := 1) w3 w2 h9 (by decide)
    have q7 : mm_rg i_20 1 601 := mm_tl_3 h49 q6 h1 (by decide)
    refine lv_if_eq (tgt := 30) hx hb dX12_days_10 (by decide) (fun c8 => ?_) (fun c8 => ?_)
    · exact mm_eqN c8.symm mm_k0 mm_k1 (by decide)
    · refine lv_aload_n hx hb dX12_days_13 rfl (lv_at hl 0 rfl) ?_
      refine lv_iload_n hx hb dX12_days_14 rfl (lv_at hl 2 rfl) ?_
      obtain ⟨v9, ev9⟩ : ∃ y : Int64, y = i_1.toInt64 := ⟨_, rfl⟩
      refine lv_i2l hx hb dX12_days_15 ev9.symm ?_
      have rv9 : mm_rl v9 (-2147483648) 2147483647 := mm_i2l ev9 (mm_top i_1)
      refine mm_finir (va_runV (As := [.long v9]) (rest := []) ⟨hx, hb, hml, hown, hts⟩ (M96_X12_isText l G cy H.size a_0 v9 0 a_1 a_2 a_3 a_4 a_5 i_4 i_5 i_6 i_7 i_8 j_0 i_9 i_10 i_11 i_12 a_6 a_7 a_8 a_9 a_10 a_11 a_12 a_13 a_14 a_15 a_16 a_17 a_18 i_13 i_14 i_15 i_16 i_17 i_18 a_19 i_19 a_20 i_25 i_26 i_27 i_28 i_29 i_30 i_31 i_32 i_33 i_34 i_35 i_36 i_37 i_38 i_39 i_40 i_41 i_42 i_43 i_44 i_45 i_46 i_47 i_48 i_49 i_50 i_51 i_52 i_53 i_54 h6 h7 h8 (mm_wk q6 (by decide)) h10 h11 h12 h13 h14 h15 h16 h17 h18 h19 h20 h21 h22 h23 h24 h25 h26 h27 h28 h29 h30 h31 h32 h33 h34 h35) (cwV 1 hts (mm_gV mm_w613 mm_w614 mm_w615 mm_w5 mm_w616) rfl rfl rfl hd_X12_isText ⟨by rw [hRf]; exact Nat.le_of_ble_eq_true rfl, by rw [hRl]; exact Nat.le_of_ble_eq_true rfl⟩) (mm_preV hK hZ hS hA hP hD [0, 2] rfl rfl 0 rfl rfl rfl) rfl rfl hl.1 rfl (lv_room (Nat.le_of_ble_eq_true rfl)) dX12_days_16 ⟨by rw [hRc]; exact Nat.le_of_ble_eq_true rfl, by rw [hRs]; exact Nat.le_of_ble_eq_true rfl⟩) hP hD hS hA [0, 2] rfl (fun _ => rfl) ?_
      clear hP hD hS
      clear H locs
      intro v10 _u H locs hw hP hD hS
      rcases hw with rfl | ⟨rfl, w11, w12⟩
      · refine lv_if_eq (tgt := 30) hx hb dX12_days_19 (by decide) (fun c13 => ?_) (fun c13 => ?_)
        · refine lv_bipush (v := (-2)) hx hb dX12_days_30 (by decide) ?_
          subst hAe
          rw [hQ]
          exact W.iret (v := (-2)) hx hb hr (fun t ht hW => ⟨⟨(-2), (i_13, i_14, i_15, f_6, f_7, f_8, f_9), rfl, ⟨h0, h42, h43, h44, h45, trivial⟩, by rw [ht]; exact hP, hK.warm hW, hD⟩, hS.F ht⟩) hS.2.2 dX12_days_32
        · have q14 := mm_neL (lo := 1) (mm_ne c13) mm_k0 mm_k0 (by decide) (by decide)
          exact mm_no q14 (by decide)
      · have q15 := mm_meet (lo := 0) (hi := 5) (mm_l2x ev9 w11) (mm_top i_1) (by decide)
        have w16 := mm_tx_lt w12 (mm_i2lE ev9)
        have q17 := mm_ltR (lo := 1) w16 q15 h10 (by decide)
        refine lv_if_eq (tgt := 30) hx hb dX12_days_19 (by decide) (fun c18 => ?_) (fun c18 => ?_)
        · exact mm_eqN c18.symm mm_k0 mm_k1 (by decide)
        · refine lv_iload_n hx hb dX12_days_22 rfl (lv_at hl 3 rfl) ?_
          obtain ⟨v19, ev19⟩ : ∃ y : Int64, y = i_2.toInt64 := ⟨_, rfl⟩
          refine lv_i2l hx hb dX12_days_23 ev19.symm ?_
          have rv19 : mm_rl v19 (-2147483648) 2147483647 := mm_i2l ev19 (mm_top i_2)
          refine mm_finir (va_runS (As := [.long v19]) (rest := []) ⟨hx, hb, hml, hown, hts⟩ (M146_X12_isStock l G cy H.size v19 rv19) (va_cwS 1 hts (mm_gS mm_w922 mm_w923 mm_w5 mm_w924) rfl rfl rfl hs_X12_isStock ⟨by rw [hRf]; exact Nat.le_of_ble_eq_true rfl, by rw [hRl]; exact Nat.le_of_ble_eq_true rfl⟩) (mm_preS hK hZ hS hA hP hD [] rfl rfl) rfl rfl hl.1 rfl (lv_room (Nat.le_of_ble_eq_true rfl)) dX12_days_24 ⟨by rw [hRc]; exact Nat.le_of_ble_eq_true rfl, by rw [hRs]; exact Nat.le_of_ble_eq_true rfl⟩) hP hD hS hA [] rfl (fun _ => rfl) ?_
          clear hP hD hS
          clear H locs
          intro v20 _u H locs hw hP hD hS
          rcases hw with rfl | ⟨rfl, w21⟩
          · refine lv_if_ne (tgt := 33) hx hb dX12_days_27 (by decide) (fun c22 => ?_) (fun c22 => ?_)
            · have q23 := mm_neL (lo := 1) (mm_ne c22) mm_k0 mm_k0 (by decide) (by decide)
              exact mm_no q23 (by decide)
            · refine lv_bipush (v := (-2)) hx hb dX12_days_30 (by decide) ?_
              subst hAe
              rw [hQ]
              exact W.iret (v := (-2)) hx hb hr (fun t ht hW => ⟨⟨(-2), (i_13, i_14, i_15, f_6, f_7, f_8, f_9), rfl, ⟨h0, h42, h43, h44, h45, trivial⟩, by rw [ht]; exact hP, hK.warm hW, hD⟩, hS.F ht⟩) hS.2.2 dX12_days_32
          · have q24 := mm_meet (lo := 0) (hi := 9999) (mm_l2x ev19 w21) (mm_top i_2) (by decide)
            refine lv_if_ne (tgt := 33) hx hb dX12_days_27 (by decide) (fun c25 => ?_) (fun c25 => ?_)
            · refine lv_aload_n hx hb dX12_days_33 rfl (lv_at hl 0 rfl) ?_
              refine mm_finv (va_runV (As := []) (rest := []) ⟨hx, hb, hml, hown, hts⟩ (M125_X12_lays l G cy H.size a_0 0 a_1 a_2 a_3 a_4 a_5 i_4 i_5 i_6 i_7 i_8 j_0 i_9 i_10 i_11 i_12 a_6 a_7 a_8 a_9 a_10 a_11 a_12 a_13 a_14 a_15 a_16 a_17 a_18 i_13 i_14 i_15 i_16 i_17 i_18 a_19 i_19 a_20 i_20 i_21 i_22 i_23 i_24 i_25 i_26 i_27 i_28 i_29 i_30 i_31 i_32 i_33 i_34 i_35 i_36 i_37 i_38 i_39 i_40 i_41 i_42 i_43 i_44 i_45 i_46 i_47 i_48 i_49 i_50 i_51 i_52 i_53 i_54 f_1 f_2 f_5 f_6 f_7 f_8 (mm_wk q7 (by decide)) h2 h3 h4 h5 h6 h7 h8 (mm_wk q6 (by decide)) (mm_wk q17 (by decide)) h11 h12 h13 h14 h15 h16 h17 h18 h19 h20 h21 h22 h23 h24 h25 h26 h27 h28 h29 h30 h31 h32 h33 h34 h35 h37 h38 h41 h42 h43 h44 h46 h48 h49 h50 h52 h53 h54 h56 h57 h58 h60 h61) (cwV 0 hts (mm_gV mm_w686 mm_w687 mm_w688 mm_w5 mm_w689) rfl rfl rfl hd_X12_lays ⟨by rw [hRf]; exact Nat.le_of_ble_eq_true rfl, by rw [hRl]; exact Nat.le_of_ble_eq_true rfl⟩) (mm_preV hK hZ hS hA hP hD [0, 1, 2, 4, 5, 8, 9, 10, 11] rfl rfl 0 rfl rfl rfl) rfl rfl hl.1 rfl (lv_room (Nat.le_of_ble_eq_true rfl)) dX12_days_34 ⟨by rw [hRc]; exact Nat.le_of_ble_eq_true rfl, by rw [hRs]; exact Nat.le_of_ble_eq_true rfl⟩) hP hD hS hA (fun u : (Nat → Int32) × (Nat → Int32) × (Nat → Int32) => [(a_0, .inr (12, [.int 0, .ref a_1, .ref a_2, .ref a_3, .ref a_4, .ref a_5, .int i_4, .int i_5, .int i_6, .int i_7, .int i_8, .long j_0, .int i_9, .int i_10, .int i_11, .int i_12, .ref a_6, .ref a_7, .ref a_8, .ref a_9, .ref a_10, .ref a_11, .ref a_12, .ref a_13, .ref a_14, .ref a_15, .ref a_16, .ref a_17, .ref a_18, .int i_13, .int i_14, .int i_15, .int i_16, .int i_17, .int i_18, .ref a_19, .int i_19, .ref a_20])), (a_6, .inl (cy 1, 5, .inl (mm_g [i_20, i_21, i_22, i_23, i_24]))), (a_7, .inl (cy 1, 30, .inl (mm_g [i_25, i_26, i_27, i_28, i_29, i_30, i_31, i_32, i_33, i_34, i_35, i_36, i_37, i_38, i_39, i_40, i_41, i_42, i_43, i_44, i_45, i_46, i_47, i_48, i_49, i_50, i_51, i_52, i_53, i_54]))), (a_8, .inl (cy 1, 90, .inl f_0)), (a_9, .inl (cy 1, 15, .inl f_1)), (a_10, .inl (cy 1, 1050, .inl f_2)), (a_11, .inl (cy 1, 30, .inl f_3)), (a_12, .inl (cy 1, 240, .inl f_4)), (a_13, .inl (cy 1, 450, .inl f_5)), (a_15, .inl (cy 1, 7200, .inl u.1)), (a_16, .inl (cy 1, 3, .inl u.2.1)), (a_17, .inl (cy 1, 3, .inl u.2.2)), (a_18, .inl (cy 1, 8, .inl f_9))]) [0, 1, 2, 4, 5, 8, 9, 10, 11] [3, 6, 7, 12] (n := 13) (fun _ => rfl) (by decide +kernel) (by decide +kernel) rfl (fun _ => rfl) (wr := [(a_8, .inl (cy 1, 90, .inl f_0)), (a_11, .inl (cy 1, 30, .inl f_3)), (a_12, .inl (cy 1, 240, .inl f_4)), (a_18, .inl (cy 1, 8, .inl f_9))]) rfl (fun _ => rfl) (fun _ => @rfl _ ([a_0, a_6, a_7, a_9, a_10, a_13, a_15, a_16, a_17] : List Nat)) ?_
              clear hP hD hS
              clear H locs
              intro u
              obtain ⟨n26, n27, n28⟩ := u
              intro H locs hw (hP : va_P G vwCl [(a_0, .inr (12, [.int 0, .ref a_1, .ref a_2, .ref a_3, .ref a_4, .ref a_5, .int i_4, .int i_5, .int i_6, .int i_7, .int i_8, .long j_0, .int i_9, .int i_10, .int i_11, .int i_12, .ref a_6, .ref a_7, .ref a_8, .ref a_9, .ref a_10, .ref a_11, .ref a_12, .ref a_13, .ref a_14, .ref a_15, .ref a_16, .ref a_17, .ref a_18, .int i_13, .int i_14, .int i_15, .int i_16, .int i_17, .int i_18, .ref a_19, .int i_19, .ref a_20])), (a_6, .inl (cy 1, 5, .inl (mm_g [i_20, i_21, i_22, i_23, i_24]))), (a_7, .inl (cy 1, 30, .inl (mm_g [i_25, i_26, i_27, i_28, i_29, i_30, i_31, i_32, i_33, i_34, i_35, i_36, i_37, i_38, i_39, i_40, i_41, i_42, i_43, i_44, i_45, i_46, i_47, i_48, i_49, i_50, i_51, i_52, i_53, i_54]))), (a_8, .inl (cy 1, 90, .inl f_0)), (a_9, .inl (cy 1, 15, .inl f_1)), (a_10, .inl (cy 1, 1050, .inl f_2)), (a_11, .inl (cy 1, 30, .inl f_3)), (a_12, .inl (cy 1, 240, .inl f_4)), (a_13, .inl (cy 1, 450, .inl f_5)), (a_15, .inl (cy 1, 7200, .inl n26)), (a_16, .inl (cy 1, 3, .inl n27)), (a_17, .inl (cy 1, 3, .inl n28)), (a_18, .inl (cy 1, 8, .inl f_9))] H) (hD : va_D A [(a_0, .inr (12, [.int 0, .ref a_1, .ref a_2, .ref a_3, .ref a_4, .ref a_5, .int i_4, .int i_5, .int i_6, .int i_7, .int i_8, .long j_0, .int i_9, .int i_10, .int i_11, .int i_12, .ref a_6, .ref a_7, .ref a_8, .ref a_9, .ref a_10, .ref a_11, .ref a_12, .ref a_13, .ref a_14, .ref a_15, .ref a_16, .ref a_17, .ref a_18, .int i_13, .int i_14, .int i_15, .int i_16, .int i_17, .int i_18, .ref a_19, .int i_19, .ref a_20])), (a_6, .inl (cy 1, 5, .inl (mm_g [i_20, i_21, i_22, i_23, i_24]))), (a_7, .inl (cy 1, 30, .inl (mm_g [i_25, i_26, i_27, i_28, i_29, i_30, i_31, i_32, i_33, i_34, i_35, i_36, i_37, i_38, i_39, i_40, i_41, i_42, i_43, i_44, i_45, i_46, i_47, i_48, i_49, i_50, i_51, i_52, i_53, i_54]))), (a_8, .inl (cy 1, 90, .inl f_0)), (a_9, .inl (cy 1, 15, .inl f_1)), (a_10, .inl (cy 1, 1050, .inl f_2)), (a_11, .inl (cy 1, 30, .inl f_3)), (a_12, .inl (cy 1, 240, .inl f_4)), (a_13, .inl (cy 1, 450, .inl f_5)), (a_15, .inl (cy 1, 7200, .inl n26)), (a_16, .inl (cy 1, 3, .inl n27)), (a_17, .inl (cy 1, 3, .inl n28)), (a_18, .inl (cy 1, 8, .inl f_9))]) hS
              obtain ⟨w29, w30, w31, w32, w33⟩ := hw
              replace w32 : mm_laid n27 n28 i_28 := w32
              replace w33 : mm_tab n26 n27 i_27 i_28 := w33
              refine lv_iconst (v := 0) hx hb dX12_days_37 (by decide) ?_
              refine lv_istore (lv' := [(4, .int 0), (0, .ref a_0), (1, .int i_0), (2, .int i_1), (3, .int i_2)]) hx hb dX12_days_38 hl (by decide) rfl ?_
              clear hl
              clear ls
              intro ls hl
              refine lv_iconst (v := 0) hx hb dX12_days_40 (by decide) ?_
              refine lv_istore (lv' := [(5, .int 0), (4, .int 0), (0, .ref a_0), (1, .int i_0), (2, .int i_1), (3, .int i_2)]) hx hb dX12_days_41 hl (by decide) rfl ?_
              clear hl
              clear ls
              intro ls hl
              have L43_539 : ∀ (n : Nat) (x43_5_534 : Int32) (x43_4_535 : Int32) (y43_0_29_536 : Int32) (y43_0_30_537 : Int32) (y43_0_31_538 : Int32) (z43_12_539 : Nat → Int32), mm_rg x43_5_534 0 210 → mm_rg y43_0_29_536 0 8 → mm_ar z43_12_539 0 9 → (210 - x43_5_534.toInt).toNat < n → ∀ (H : Heap) (locs : List Loc), va_P G vwCl [(a_0, .inr (12, [.int 0, .ref a_1, .ref a_2, .ref a_3, .ref a_4, .ref a_5, .int i_4, .int i_5, .int i_6, .int i_7, .int i_8, .long j_0, .int i_9, .int i_10, .int i_11, .int i_12, .ref a_6, .ref a_7, .ref a_8, .ref a_9, .ref a_10, .ref a_11, .ref a_12, .ref a_13, .ref a_14, .ref a_15, .ref a_16, .ref a_17, .ref a_18, .int y43_0_29_536, .int y43_0_30_537, .int y43_0_31_538, .int i_16, .int i_17, .int i_18, .ref a_19, .int i_19, .ref a_20])), (a_6, .inl (cy 1, 5, .inl (mm_g [i_20, i_21, i_22, i_23, i_24]))), (a_7, .inl (cy 1, 30, .inl (mm_g [i_25, i_26, i_27, i_28, i_29, i_30, i_31, i_32, i_33, i_34, i_35, i_36, i_37, i_38, i_39, i_40, i_41, i_42, i_43, i_44, i_45, i_46, i_47, i_48, i_49, i_50, i_51, i_52, i_53, i_54]))), (a_8, .inl (cy 1, 90, .inl f_0)), (a_9, .inl (cy 1, 15, .inl f_1)), (a_10, .inl (cy 1, 1050, .inl f_2)), (a_11, .inl (cy 1, 30, .inl f_3)), (a_12, .inl (cy 1, 240, .inl f_4)), (a_13, .inl (cy 1, 450, .inl f_5)), (a_15, .inl (cy 1, 7200, .inl n26)), (a_16, .inl (cy 1, 3, .inl n27)), (a_17, .inl (cy 1, 3, .inl n28)), (a_18, .inl (cy 1, 8, .inl z43_12_539))] H → va_D A [(a_0, .inr (12, [.int 0, .ref a_1, .ref a_2, .ref a_3, .ref a_4, .ref a_5, .int i_4, .int i_5, .int i_6, .int i_7, .int i_8, .long j_0, .int i_9, .int i_10, .int i_11, .int i_12, .ref a_6, .ref a_7, .ref a_8, .ref a_9, .ref a_10, .ref a_11, .ref a_12, .ref a_13, .ref a_14, .ref a_15, .ref a_16, .ref a_17, .ref a_18, .int y43_0_29_536, .int y43_0_30_537, .int y43_0_31_538, .int i_16, .int i_17, .int i_18, .ref a_19, .int i_19, .ref a_20])), (a_6, .inl (cy 1, 5, .inl (mm_g [i_20, i_21, i_22, i_23, i_24]))), (a_7, .inl (cy 1, 30, .inl (mm_g [i_25, i_26, i_27, i_28, i_29, i_30, i_31, i_32, i_33, i_34, i_35, i_36, i_37, i_38, i_39, i_40, i_41, i_42, i_43, i_44, i_45, i_46, i_47, i_48, i_49, i_50, i_51, i_52, i_53, i_54]))), (a_8, .inl (cy 1, 90, .inl f_0)), (a_9, .inl (cy 1, 15, .inl f_1)), (a_10, .inl (cy 1, 1050, .inl f_2)), (a_11, .inl (cy 1, 30, .inl f_3)), (a_12, .inl (cy 1, 240, .inl f_4)), (a_13, .inl (cy 1, 450, .inl f_5)), (a_15, .inl (cy 1, 7200, .inl n26)), (a_16, .inl (cy 1, 3, .inl n27)), (a_17, .inl (cy 1, 3, .inl n28)), (a_18, .inl (cy 1, 8, .inl z43_12_539))] → va_S A s.heap H locs → ∀ (ls : Array Slot), lv_has ls 6 [(5, .int x43_5_534), (4, .int x43_4_535), (0, .ref a_0), (1, .int i_0), (2, .int i_1), (3, .int i_2)] → W p l e R s m args below meth c H locs 0 0 Q (F0 m 43 ls []) := by
                intro n
                induction n with
                | zero => intro x43_5_534 x43_4_535 y43_0_29_536 y43_0_30_537 y43_0_31_538 z43_12_539 rx43_5_534 ry43_0_29_536 rz43_12_539 hm; exact absurd hm (Nat.not_lt_zero _)
                | succ n ih43 =>
                  intro x43_5_534 x43_4_535 y43_0_29_536 y43_0_30_537 y43_0_31_538 z43_12_539 rx43_5_534 ry43_0_29_536 rz43_12_539 hm43 H locs hP hD hS ls hl
                  refine lv_iload hx hb dX12_days_43 (lv_at hl 0 rfl) ?_
                  refine lv_aload_n hx hb dX12_days_45 rfl (lv_at hl 2 rfl) ?_
                  refine va_get (D := G) (ci := 12) (v := .ref a_17) (C := RX12) (T := TX12) (N := 38) hx hb hts (mm_i inlX12) hown hK.1 hP 0 rfl rfl 27 (by decide) (mm_h hts mm_w159) (fun _ h9 => h9) rfl dX12_days_46 ?_
                  refine lv_iload_n hx hb dX12_days_49 rfl (lv_at hl 3 rfl) ?_
                  refine va_iald hx hb hK.1 hP 11 1 rfl rfl (mm_in w2 (by decide)) dX12_days_50 ?_
                  refine lv_topi (fun v541 ev541 => ?_)
                  have rv541 : mm_rg v541 0 210 := mm_eqv ev541 (w31 _)
                  have q542 : mm_rg v541 1 210 := mm_laid_ld1 w32 w3 ev541 w2 rv541 (by decide)
                  refine lv_icmp_ge (tgt := 82) hx hb dX12_days_51 (by decide) (fun c543 => ?_) (fun c543 => ?_)
                  · have q544 := mm_leR (mm_le c543) q542 rx43_5_534
                    refine lv_iload hx hb dX12_days_82 (lv_at hl 1 rfl) ?_
                    subst hAe
                    rw [hQ]
                    exact W.iret (v := x43_4_535) hx hb hr (fun t ht hW => ⟨⟨x43_4_535, (y43_0_29_536, y43_0_30_537, y43_0_31_538, n26, n27, n28, z43_12_539), rfl, ⟨ry43_0_29_536, w29, w30, w31, rz43_12_539, trivial⟩, by rw [ht]; exact hP, hK.warm hW, hD⟩, hS.F ht⟩) hS.2.2 dX12_days_84
                  · have q545 := mm_ltL (h := 209) (mm_nle c543) rx43_5_534 q542 (by decide)
                    refine lv_iload hx hb dX12_days_54 (lv_at hl 1 rfl) ?_
                    refine lv_aload_n hx hb dX12_days_56 rfl (lv_at hl 2 rfl) ?_
                    refine lv_iload_n hx hb dX12_days_57 rfl (lv_at hl 3 rfl) ?_
                    refine lv_iload hx hb dX12_days_58 (lv_at hl 0 rfl) ?_
                    refine lv_iload_n hx hb dX12_days_60 rfl (lv_at hl 4 rfl) ?_
                    refine mm_fini (va_runV (As := [.int i_0, .int x43_5_534, .int i_1]) (rest := [.int x43_4_535]) ⟨hx, hb, hml, hown, hts⟩ (M141_X12_reads l G cy H.size a_0 i_0 x43_5_534 i_1 0 a_1 a_2 a_3 a_4 a_5 i_4 i_5 i_6 i_7 i_8 j_0 i_9 i_10 i_11 i_12 a_6 a_7 a_8 a_9 a_10 a_11 a_12 a_13 a_14 a_15 a_16 a_17 a_18 y43_0_29_536 y43_0_30_537 y43_0_31_538 i_16 i_17 i_18 a_19 i_19 a_20 i_25 i_26 i_27 i_28 i_29 i_30 i_31 i_32 i_33 i_34 i_35 i_36 i_37 i_38 i_39 i_40 i_41 i_42 i_43 i_44 i_45 i_46 i_47 i_48 i_49 i_50 i_51 i_52 i_53 i_54 f_0 f_3 f_4 f_5 n26 n27 z43_12_539 w2 (mm_wk q545 (by decide)) q15 ry43_0_29_536 h6 h7 h8 (mm_wk q6 (by decide)) (mm_wk q17 (by decide)) h11 h12 h13 h14 h15 h16 h17 h18 h19 h20 h21 h22 h23 h24 h25 h26 h27 h28 h29 h30 h31 h32 h33 h34 h35 h36 h39 h40 h41 w29 w30 rz43_12_539 h47 h48 h51 h52 h55 h56 h59 h60 (mm_f1_l w32 w3 w2 (by decide))) (cwV 3 hts (mm_gV mm_w852 mm_w853 mm_w854 mm_w5 mm_w855) rfl rfl rfl hd_X12_reads ⟨by rw [hRf]; exact Nat.le_of_ble_eq_true rfl, by rw [hRl]; exact Nat.le_of_ble_eq_true rfl⟩) (mm_preV hK hZ hS hA hP hD [0, 2, 3, 6, 7, 8, 9, 10, 12] rfl rfl 0 rfl rfl rfl) rfl rfl hl.1 rfl (lv_room (Nat.le_of_ble_eq_true rfl)) dX12_days_61 ⟨by rw [hRc]; exact Nat.le_of_ble_eq_true rfl, by rw [hRs]; exact Nat.le_of_ble_eq_true rfl⟩) hP hD hS hA (fun u : Int32 × Int32 × Int32 × (Nat → Int32) => [(a_0, .inr (12, [.int 0, .ref a_1, .ref a_2, .ref a_3, .ref a_4, .ref a_5, .int i_4, .int i_5, .int i_6, .int i_7, .int i_8, .long j_0, .int i_9, .int i_10, .int i_11, .int i_12, .ref a_6, .ref a_7, .ref a_8, .ref a_9, .ref a_10, .ref a_11, .ref a_12, .ref a_13, .ref a_14, .ref a_15, .ref a_16, .ref a_17, .ref a_18, .int u.1, .int u.2.1, .int u.2.2.1, .int i_16, .int i_17, .int i_18, .ref a_19, .int i_19, .ref a_20])), (a_6, .inl (cy 1, 5, .inl (mm_g [i_20, i_21, i_22, i_23, i_24]))), (a_7, .inl (cy 1, 30, .inl (mm_g [i_25, i_26, i_27, i_28, i_29, i_30, i_31, i_32, i_33, i_34, i_35, i_36, i_37, i_38, i_39, i_40, i_41, i_42, i_43, i_44, i_45, i_46, i_47, i_48, i_49, i_50, i_51, i_52, i_53, i_54]))), (a_8, .inl (cy 1, 90, .inl f_0)), (a_9, .inl (cy 1, 15, .inl f_1)), (a_10, .inl (cy 1, 1050, .inl f_2)), (a_11, .inl (cy 1, 30, .inl f_3)), (a_12, .inl (cy 1, 240, .inl f_4)), (a_13, .inl (cy 1, 450, .inl f_5)), (a_15, .inl (cy 1, 7200, .inl n26)), (a_16, .inl (cy 1, 3, .inl n27)), (a_17, .inl (cy 1, 3, .inl n28)), (a_18, .inl (cy 1, 8, .inl u.2.2.2))]) [0, 2, 3, 6, 7, 8, 9, 10, 12] [1, 4, 5, 11] (n := 13) (fun _ => rfl) (by decide +kernel) (by decide +kernel) rfl (fun _ => rfl) (wr := [(a_6, .inl (cy 1, 5, .inl (mm_g [i_20, i_21, i_22, i_23, i_24]))), (a_9, .inl (cy 1, 15, .inl f_1)), (a_10, .inl (cy 1, 1050, .inl f_2)), (a_17, .inl (cy 1, 3, .inl n28))]) rfl (fun _ => rfl) (fun _ => @rfl _ ([a_0, a_7, a_8, a_11, a_12, a_13, a_15, a_16, a_18] : List Nat)) ?_
                    clear hP hD hS
                    clear H locs
                    intro v550 u
                    obtain ⟨n546, n547, n548, n549⟩ := u
                    intro H locs hw (hP : va_P G vwCl [(a_0, .inr (12, [.int 0, .ref a_1, .ref a_2, .ref a_3, .ref a_4, .ref a_5, .int i_4, .int i_5, .int i_6, .int i_7, .int i_8, .long j_0, .int i_9, .int i_10, .int i_11, .int i_12, .ref a_6, .ref a_7, .ref a_8, .ref a_9, .ref a_10, .ref a_11, .ref a_12, .ref a_13, .ref a_14, .ref a_15, .ref a_16, .ref a_17, .ref a_18, .int n546, .int n547, .int n548, .int i_16, .int i_17, .int i_18, .ref a_19, .int i_19, .ref a_20])), (a_6, .inl (cy 1, 5, .inl (mm_g [i_20, i_21, i_22, i_23, i_24]))), (a_7, .inl (cy 1, 30, .inl (mm_g [i_25, i_26, i_27, i_28, i_29, i_30, i_31, i_32, i_33, i_34, i_35, i_36, i_37, i_38, i_39, i_40, i_41, i_42, i_43, i_44, i_45, i_46, i_47, i_48, i_49, i_50, i_51, i_52, i_53, i_54]))), (a_8, .inl (cy 1, 90, .inl f_0)), (a_9, .inl (cy 1, 15, .inl f_1)), (a_10, .inl (cy 1, 1050, .inl f_2)), (a_11, .inl (cy 1, 30, .inl f_3)), (a_12, .inl (cy 1, 240, .inl f_4)), (a_13, .inl (cy 1, 450, .inl f_5)), (a_15, .inl (cy 1, 7200, .inl n26)), (a_16, .inl (cy 1, 3, .inl n27)), (a_17, .inl (cy 1, 3, .inl n28)), (a_18, .inl (cy 1, 8, .inl n549))] H) (hD : va_D A [(a_0, .inr (12, [.int 0, .ref a_1, .ref a_2, .ref a_3, .ref a_4, .ref a_5, .int i_4, .int i_5, .int i_6, .int i_7, .int i_8, .long j_0, .int i_9, .int i_10, .int i_11, .int i_12, .ref a_6, .ref a_7, .ref a_8, .ref a_9, .ref a_10, .ref a_11, .ref a_12, .ref a_13, .ref a_14, .ref a_15, .ref a_16, .ref a_17, .ref a_18, .int n546, .int n547, .int n548, .int i_16, .int i_17, .int i_18, .ref a_19, .int i_19, .ref a_20])), (a_6, .inl (cy 1, 5, .inl (mm_g [i_20, i_21, i_22, i_23, i_24]))), (a_7, .inl (cy 1, 30, .inl (mm_g [i_25, i_26, i_27, i_28, i_29, i_30, i_31, i_32, i_33, i_34, i_35, i_36, i_37, i_38, i_39, i_40, i_41, i_42, i_43, i_44, i_45, i_46, i_47, i_48, i_49, i_50, i_51, i_52, i_53, i_54]))), (a_8, .inl (cy 1, 90, .inl f_0)), (a_9, .inl (cy 1, 15, .inl f_1)), (a_10, .inl (cy 1, 1050, .inl f_2)), (a_11, .inl (cy 1, 30, .inl f_3)), (a_12, .inl (cy 1, 240, .inl f_4)), (a_13, .inl (cy 1, 450, .inl f_5)), (a_15, .inl (cy 1, 7200, .inl n26)), (a_16, .inl (cy 1, 3, .inl n27)), (a_17, .inl (cy 1, 3, .inl n28)), (a_18, .inl (cy 1, 8, .inl n549))]) hS
                    obtain ⟨w551, w552, hw⟩ := hw
                    obtain ⟨w553, w554⟩ := hw
                    replace w554 : mm_rd n26 n27 f_0 f_3 f_4 f_5 i_0 x43_5_534 i_1 i_26 i_27 i_30 v550 := w554
                    refine lv_iload_n hx hb dX12_days_64 rfl (lv_at hl 5 rfl) ?_
                    refine lv_icmp_lt (tgt := 72) hx hb dX12_days_65 (by decide) (fun c555 => ?_) (fun c555 => ?_)
                    · have q556 := mm_ltL (h := 9998) (mm_lt c555) w553 q24 (by decide)
                      have q557 := mm_ltR (lo := 1) (mm_lt c555) w553 q24 (by decide)
                      refine lv_iconst (v := 0) hx hb dX12_days_72 (by decide) ?_
                      refine lv_iadd hx hb dX12_days_73 ?_
                      refine lv_topi (fun v558 ev558 => ?_)
                      have rv558 : mm_rg v558 (-2147483648) 2147483647 := mm_add ev558 (mm_top x43_4_535) mm_k0 (by decide) (by decide)
                      have tv558 := mm_addEc ev558 (mm_top x43_4_535) mm_k0 (by decide) (k := 0) (by decide)
                      refine lv_istore (lv' := [(4, .int v558), (5, .int x43_5_534), (0, .ref a_0), (1, .int i_0), (2, .int i_1), (3, .int i_2)]) hx hb dX12_days_74 hl (by decide) rfl ?_
                      clear hl
                      clear ls
                      intro ls hl
                      obtain ⟨v559, ev559⟩ : ∃ y : Int32, y = x43_5_534 + 1 := ⟨_, rfl⟩
                      refine lv_iinc (v := v559) (lv' := [(5, .int v559), (4, .int v558), (0, .ref a_0), (1, .int i_0), (2, .int i_1), (3, .int i_2)]) hx hb dX12_days_76 hl (k := 1) rfl (by rw [ev559]; rfl) (by decide) rfl ?_
                      clear hl
                      clear ls
                      intro ls hl
                      have rv559 : mm_rg v559 1 210 := mm_add ev559 q545 mm_k1 (by decide) (by decide)
                      have tv559 := mm_addEc ev559 q545 mm_k1 (by decide) (k := 1) (by decide)
                      refine lv_goto (tgt := 43) hx hb dX12_days_79 (by decide) ?_
                      exact ih43 v559 v558 n546 n547 n548 n549 (mm_wk rv559 (by decide)) w551 w552 (mm_mu hm43 tv559 (by decide) (rv559).2 (by decide)) H locs hP hD hS ls (lv_sub hl [0, 1, 2, 3, 4, 5] rfl)
                    · refine lv_iconst (v := 1) hx hb dX12_days_68 (by decide) ?_
                      refine lv_goto (tgt := 73) hx hb dX12_days_69 (by decide) ?_
                      refine lv_iadd hx hb dX12_days_73 ?_
                      refine lv_topi (fun v560 ev560 => ?_)
                      refine lv_istore (lv' := [(4, .int v560), (5, .int x43_5_534), (0, .ref a_0), (1, .int i_0), (2, .int i_1), (3, .int i_2)]) hx hb dX12_days_74 hl (by decide) rfl ?_
                      clear hl
                      clear ls
                      intro ls hl
                      obtain ⟨v561, ev561⟩ : ∃ y : Int32, y = x43_5_534 + 1 := ⟨_, rfl⟩
                      refine lv_iinc (v := v561) (lv' := [(5, .int v561), (4, .int v560), (0, .ref a_0), (1, .int i_0), (2, .int i_1), (3, .int i_2)]) hx hb dX12_days_76 hl (k := 1) rfl (by rw [ev561]; rfl) (by decide) rfl ?_
                      clear hl
                      clear ls
                      intro ls hl
                      have rv561 : mm_rg v561 1 210 := mm_add ev561 q545 mm_k1 (by decide) (by decide)
                      have tv561 := mm_addEc ev561 q545 mm_k1 (by decide) (k := 1) (by decide)
                      refine lv_goto (tgt := 43) hx hb dX12_days_79 (by decide) ?_
                      exact ih43 v561 v560 n546 n547 n548 n549 (mm_wk rv561 (by decide)) w551 w552 (mm_mu hm43 tv561 (by decide) (rv561).2 (by decide)) H locs hP hD hS ls (lv_sub hl [0, 1, 2, 3, 4, 5] rfl)
              exact L43_539 _ 0 0 i_13 i_14 i_15 f_9 (mm_wk mm_k0 (by decide)) h0 h45 (Nat.lt_succ_self _) H locs hP hD hS ls (lv_sub hl [0, 1, 2, 3, 4, 5] rfl)
            · exact mm_eqN c25.symm mm_k0 mm_k1 (by decide)

set_option maxHeartbeats 4000000 in
set_option maxRecDepth 100000 in
theorem M158_X12_run (l : Launch) (G : va_G) (cy : Nat → ClassId) (sz : Nat) (a_0 : Nat) (i_0 : Int32) (i_1 : Int32) (i_2 : Int32) (a_1 : Nat) (a_2 : Nat) (a_3 : Nat) (a_4 : Nat) (a_5 : Nat) (i_3 : Int32) (i_4 : Int32) (i_5 : Int32) (i_6 : Int32) (i_7 : Int32) (j_0 : Int64) (i_8 : Int32) (i_9 : Int32) (i_10 : Int32) (i_11 : Int32) (a_6 : Nat) (a_7 : Nat) (a_8 : Nat) (a_9 : Nat) (a_10 : Nat) (a_11 : Nat) (a_12 : Nat) (a_13 : Nat) (a_14 : Nat) (a_15 : Nat) (a_16 : Nat) (a_17 : Nat) (a_18 : Nat) (i_12 : Int32) (i_13 : Int32) (i_14 : Int32) (i_15 : Int32) (i_16 : Int32) (i_17 : Int32) (a_19 : Nat) (i_18 : Int32) (a_20 : Nat) (i_19 : Int32) (i_20 : Int32) (i_21 : Int32) (i_22 : Int32) (i_23 : Int32) (i_24 : Int32) (i_25 : Int32) (i_26 : Int32) (i_27 : Int32) (i_28 : Int32) (i_29 : Int32) (i_30 : Int32) (i_31 : Int32) (i_32 : Int32) (i_33 : Int32) (i_34 : Int32) (i_35 : Int32) (i_36 : Int32) (i_37 : Int32) (i_38 : Int32) (i_39 : Int32) (i_40 : Int32) (i_41 : Int32) (i_42 : Int32) (i_43 : Int32) (i_44 : Int32) (i_45 : Int32) (i_46 : Int32) (i_47 : Int32) (i_48 : Int32) (i_49 : Int32) (i_50 : Int32) (i_51 : Int32) (i_52 : Int32) (i_53 : Int32) (f_0 : Nat → Int32) (f_1 : Nat → Int32) (f_2 : Nat → Int32) (f_3 : Nat → Int32) (f_4 : Nat → Int32) (f_5 : Nat → Int32) (f_6 : Nat → Int32) (f_7 : Nat → Int32) (f_8 : Nat → Int32) (f_9 : Nat → Int32) (h0 : mm_rg i_12 0 8) (h1 : mm_rg i_19 0 601) (h2 : mm_rg i_20 0 601) (h3 : mm_rg i_21 0 601) (h4 : mm_rg i_22 0 601) (h5 : mm_rg i_23 0 601) (h6 : mm_rg i_24 0 10) (h7 : mm_rg i_25 0 99) (h8 : mm_rg i_26 0 9) (h9 : mm_rg i_27 0 3) (h10 : mm_rg i_28 0 6) (h11 : mm_rg i_29 0 30) (h12 : mm_rg i_30 0 10) (h13 : mm_rg i_31 0 99) (h14 : mm_rg i_32 0 9) (h15 : mm_rg i_33 0 3) (h16 : mm_rg i_34 0 6) (h17 : mm_rg i_35 0 30) (h18 : mm_rg i_36 0 10) (h19 : mm_rg i_37 0 99) (h20 : mm_rg i_38 0 9) (h21 : mm_rg i_39 0 3) (h22 : mm_rg i_40 0 6) (h23 : mm_rg i_41 0 30) (h24 : mm_rg i_42 0 10) (h25 : mm_rg i_43 0 99) (h26 : mm_rg i_44 0 9) (h27 : mm_rg i_45 0 3) (h28 : mm_rg i_46 0 6) (h29 : mm_rg i_47 0 30) (h30 : mm_rg i_48 0 10) (h31 : mm_rg i_49 0 99) (h32 : mm_rg i_50 0 9) (h33 : mm_rg i_51 0 3) (h34 : mm_rg i_52 0 6) (h35 : mm_rg i_53 0 30) (h36 : mm_ar f_0 0 99) (h37 : mm_ar f_1 0 7) (h38 : mm_ar f_2 0 9) (h39 : mm_ar f_3 0 8) (h40 : mm_ar f_4 0 9) (h41 : mm_ar f_5 (-1) 99) (h42 : mm_ar f_6 0 9) (h43 : mm_ar f_7 0 210) (h44 : mm_ar f_8 0 210) (h45 : mm_ar f_9 0 9) (h46 : mm_rls f_1 f_2 0 i_26 i_27) (h47 : mm_txs f_3 f_4 0 i_26 i_28) (h48 : mm_acs f_5 0 i_26 i_27 i_29) (h49 : mm_tl i_19 i_27 i_28) (h50 : mm_rls f_1 f_2 1 i_32 i_33) (h51 : mm_txs f_3 f_4 1 i_32 i_34) (h52 : mm_acs f_5 1 i_32 i_33 i_35) (h53 : mm_tl i_20 i_33 i_34) (h54 : mm_rls f_1 f_2 2 i_38 i_39) (h55 : mm_txs f_3 f_4 2 i_38 i_40) (h56 : mm_acs f_5 2 i_38 i_39 i_41) (h57 : mm_tl i_21 i_39 i_40) (h58 : mm_rls f_1 f_2 3 i_44 i_45) (h59 : mm_txs f_3 f_4 3 i_44 i_46) (h60 : mm_acs f_5 3 i_44 i_45 i_47) (h61 : mm_tl i_22 i_45 i_46)  : mm_CI l yX12_run (mm_ws yX12_run cX12_run 6 (some .int)) ({ frames := 14, cells := 0, slots := 0, locals := 300 } : Room) G cy sz [(a_0, .inr (12, [.int i_2, .ref a_1, .ref a_2, .ref a_3, .ref a_4, .ref a_5, .int i_3, .int i_4, .int i_5, .int i_6, .int i_7, .long j_0, .int i_8, .int i_9, .int i_10, .int i_11, .ref a_6, .ref a_7, .ref a_8, .ref a_9, .ref a_10, .ref a_11, .ref a_12, .ref a_13, .ref a_14, .ref a_15, .ref a_16, .ref a_17, .ref a_18, .int i_12, .int i_13, .int i_14, .int i_15, .int i_16, .int i_17, .ref a_19, .int i_18, .ref a_20])), (a_6, .inl (cy 1, 5, .inl (mm_g [i_19, i_20, i_21, i_22, i_23]))), (a_7, .inl (cy 1, 30, .inl (mm_g [i_24, i_25, i_26, i_27, i_28, i_29, i_30, i_31, i_32, i_33, i_34, i_35, i_36, i_37, i_38, i_39, i_40, i_41, i_42, i_43, i_44, i_45, i_46, i_47, i_48, i_49, i_50, i_51, i_52, i_53]))), (a_8, .inl (cy 1, 90, .inl f_0)), (a_9, .inl (cy 1, 15, .inl f_1)), (a_10, .inl (cy 1, 1050, .inl f_2)), (a_11, .inl (cy 1, 30, .inl f_3)), (a_12, .inl (cy 1, 240, .inl f_4)), (a_13, .inl (cy 1, 450, .inl f_5)), (a_15, .inl (cy 1, 7200, .inl f_6)), (a_16, .inl (cy 1, 3, .inl f_7)), (a_17, .inl (cy 1, 3, .inl f_8)), (a_18, .inl (cy 1, 8, .inl f_9))] [.ref a_0, .int i_0, .int i_1] (fun u : Int32 × Int32 × Int32 × (Nat → Int32) × (Nat → Int32) × (Nat → Int32) × (Nat → Int32) => [(a_0, .inr (12, [.int 0, .ref a_1, .ref a_2, .ref a_3, .ref a_4, .ref a_5, .int i_3, .int i_4, .int i_5, .int i_6, .int i_7, .long j_0, .int i_8, .int i_9, .int i_10, .int i_11, .ref a_6, .ref a_7, .ref a_8, .ref a_9, .ref a_10, .ref a_11, .ref a_12, .ref a_13, .ref a_14, .ref a_15, .ref a_16, .ref a_17, .ref a_18, .int u.1, .int u.2.1, .int u.2.2.1, .int i_15, .int i_16, .int i_17, .ref a_19, .int i_18, .ref a_20])), (a_6, .inl (cy 1, 5, .inl (mm_g [i_19, i_20, i_21, i_22, i_23]))), (a_7, .inl (cy 1, 30, .inl (mm_g [i_24, i_25, i_26, i_27, i_28, i_29, i_30, i_31, i_32, i_33, i_34, i_35, i_36, i_37, i_38, i_39, i_40, i_41, i_42, i_43, i_44, i_45, i_46, i_47, i_48, i_49, i_50, i_51, i_52, i_53]))), (a_8, .inl (cy 1, 90, .inl f_0)), (a_9, .inl (cy 1, 15, .inl f_1)), (a_10, .inl (cy 1, 1050, .inl f_2)), (a_11, .inl (cy 1, 30, .inl f_3)), (a_12, .inl (cy 1, 240, .inl f_4)), (a_13, .inl (cy 1, 450, .inl f_5)), (a_15, .inl (cy 1, 7200, .inl u.2.2.2.1)), (a_16, .inl (cy 1, 3, .inl u.2.2.2.2.1)), (a_17, .inl (cy 1, 3, .inl u.2.2.2.2.2.1)), (a_18, .inl (cy 1, 8, .inl u.2.2.2.2.2.2))]) (fun (r : Int32) (u : Int32 × Int32 × Int32 × (Nat → Int32) × (Nat → Int32) × (Nat → Int32) × (Nat → Int32)) => mm_rg u.1 0 8 ∧ mm_ar u.2.2.2.1 0 9 ∧ mm_ar u.2.2.2.2.1 0 210 ∧ mm_ar u.2.2.2.2.2.1 0 210 ∧ mm_ar u.2.2.2.2.2.2 0 9 ∧ mm_rg r (-2) 2147483647) 0 0 := by
  refine mm_begin (lv := [(0, .ref a_0), (1, .int i_0), (2, .int i_1)]) (by decide) (Nat.le_of_ble_eq_true rfl) rfl ?_
  intro p e s m below meth c A ls R args Q H locs hRe hQ hAe hx hb hr hlocks hml hown hnm hts hsz hA hS hP hK hD hZ hl
  have hRf : R.frames = 14 := by rw [hRe]
  have hRl : R.locals = 300 := by rw [hRe]
  have hRc : R.cells = 0 := by rw [hRe]
  have hRs : R.slots = 0 := by rw [hRe]
  refine lv_aload_n hx hb dX12_run_0 rfl (lv_at hl 0 rfl) ?_
  refine lv_iconst (v := 0) hx hb dX12_run_1 (by decide) ?_
  refine va_put (D := G) (ci := 12) (v := .int 0) (ty := tyX12 0) (C := RX12) (T := TX12) (N := 38) hx hb hts (mm_i inlX12) tyX12 tyX12_ok nmX12 hown hK.1 hP hD hS 0 rfl rfl 0 (by decide) (mm_h hts mm_w177) (fun _ h9 => h9) rfl (tyX12_ok 0 (by decide)) rfl rfl (Nat.le_of_ble_eq_true rfl) dX12_run_2 ?_
  clear hP hD hS
  clear H locs
  intro H locs (hP : va_P G vwCl [(a_0, .inr (12, [.int 0, .ref a_1, .ref a_2, .ref a_3, .ref a_4, .ref a_5, .int i_3, .int i_4, .int i_5, .int i_6, .int i_7, .long j_0, .int i_8, .int i_9, .int i_10, .int i_11, .ref a_6, .ref a_7, .ref a_8, .ref a_9, .ref a_10, .ref a_11, .ref a_12, .ref a_13, .ref a_14, .ref a_15, .ref a_16, .ref a_17, .ref a_18, .int i_12, .int i_13, .int i_14, .int i_15, .int i_16, .int i_17, .ref a_19, .int i_18, .ref a_20])), (a_6, .inl (cy 1, 5, .inl (mm_g [i_19, i_20, i_21, i_22, i_23]))), (a_7, .inl (cy 1, 30, .inl (mm_g [i_24, i_25, i_26, i_27, i_28, i_29, i_30, i_31, i_32, i_33, i_34, i_35, i_36, i_37, i_38, i_39, i_40, i_41, i_42, i_43, i_44, i_45, i_46, i_47, i_48, i_49, i_50, i_51, i_52, i_53]))), (a_8, .inl (cy 1, 90, .inl f_0)), (a_9, .inl (cy 1, 15, .inl f_1)), (a_10, .inl (cy 1, 1050, .inl f_2)), (a_11, .inl (cy 1, 30, .inl f_3)), (a_12, .inl (cy 1, 240, .inl f_4)), (a_13, .inl (cy 1, 450, .inl f_5)), (a_15, .inl (cy 1, 7200, .inl f_6)), (a_16, .inl (cy 1, 3, .inl f_7)), (a_17, .inl (cy 1, 3, .inl f_8)), (a_18, .inl (cy 1, 8, .inl f_9))] H) (hD : va_D A [(a_0, .inr (12, [.int 0, .ref a_1, .ref a_2, .ref a_3, .ref a_4, .ref a_5, .int i_3, .int i_4, .int i_5, .int i_6, .int i_7, .long j_0, .int i_8, .int i_9, .int i_10, .int i_11, .ref a_6, .ref a_7, .ref a_8, .ref a_9, .ref a_10, .ref a_11, .ref a_12, .ref a_13, .ref a_14, .ref a_15, .ref a_16, .ref a_17, .ref a_18, .int i_12, .int i_13, .int i_14, .int i_15, .int i_16, .int i_17, .ref a_19, .int i_18, .ref a_20])), (a_6, .inl (cy 1, 5, .inl (mm_g [i_19, i_20, i_21, i_22, i_23]))), (a_7, .inl (cy 1, 30, .inl (mm_g [i_24, i_25, i_26, i_27, i_28, i_29, i_30, i_31, i_32, i_33, i_34, i_35, i_36, i_37, i_38, i_39, i_40, i_41, i_42, i_43, i_44, i_45, i_46, i_47, i_48, i_49, i_50, i_51, i_52, i_53]))), (a_8, .inl (cy 1, 90, .inl f_0)), (a_9, .inl (cy 1, 15, .inl f_1)), (a_10, .inl (cy 1, 1050, .inl f_2)), (a_11, .inl (cy 1, 30, .inl f_3)), (a_12, .inl (cy 1, 240, .inl f_4)), (a_13, .inl (cy 1, 450, .inl f_5)), (a_15, .inl (cy 1, 7200, .inl f_6)), (a_16, .inl (cy 1, 3, .inl f_7)), (a_17, .inl (cy 1, 3, .inl f_8)), (a_18, .inl (cy 1, 8, .inl f_9))]) hS
  refine lv_aload_n hx hb dX12_run_5 rfl (lv_at hl 0 rfl) ?_
  refine lv_iload_n hx hb dX12_run_6 rfl (lv_at hl 1 rfl) ?_
  refine mm_finir (va_runV (As := [.int i_0]) (rest := []) ⟨hx, hb, hml, hown, hts⟩ (M98_X12_isLand l G cy H.size a_0 i_0 0 a_1 a_2 a_3 a_4 a_5 i_3 i_4 i_5 i_6 i_7 j_0 i_8 i_9 i_10 i_11 a_6 a_7 a_8 a_9 a_10 a_11 a_12 a_13 a_14 a_15 a_16 a_17 a_18 i_12 i_13 i_14 i_15 i_16 i_17 a_19 i_18 a_20 i_24 i_25 i_26 i_27 i_28 i_29 i_30 i_31 i_32 i_33 i_34 i_35 i_36 i_37 i_38 i_39 i_40 i_41 i_42 i_43 i_44 i_45 i_46 i_47 i_48 i_49 i_50 i_51 i_52 i_53 h6 h7 h8 h9 h10 h11 h12 h13 h14 h15 h16 h17 h18 h19 h20 h21 h22 h23 h24 h25 h26 h27 h28 h29 h30 h31 h32 h33 h34 h35) (cwV 1 hts (mm_gV mm_w641 mm_w642 mm_w643 mm_w5 mm_w644) rfl rfl rfl hd_X12_isLand ⟨by rw [hRf]; exact Nat.le_of_ble_eq_true rfl, by rw [hRl]; exact Nat.le_of_ble_eq_true rfl⟩) (mm_preV hK hZ hS hA hP hD [0, 2] rfl rfl 0 rfl rfl rfl) rfl rfl hl.1 rfl (lv_room (Nat.le_of_ble_eq_true rfl)) dX12_run_7 ⟨by rw [hRc]; exact Nat.le_of_ble_eq_true rfl, by rw [hRs]; exact Nat.le_of_ble_eq_true rfl⟩) hP hD hS hA [0, 2] rfl (fun _ => rfl) ?_
  clear hP hD hS
  clear H locs
  intro v1 _u H locs hw hP hD hS
  rcases hw with rfl | ⟨rfl, w2, w3⟩
  · refine lv_if_eq (tgt := 22) hx hb dX12_run_10 (by decide) (fun c4 => ?_) (fun c4 => ?_)
    · refine lv_bipush (v := (-2)) hx hb dX12_run_22 (by decide) ?_
      subst hAe
      rw [hQ]
      exact W.iret (v := (-2)) hx hb hr (fun t ht hW => ⟨⟨(-2), (i_12, i_13, i_14, f_6, f_7, f_8, f_9), rfl, ⟨h0, h42, h43, h44, h45, (mm_wk mm_km2 (by decide))⟩, by rw [ht]; exact hP, hK.warm hW, hD⟩, hS.F ht⟩) hS.2.2 dX12_run_24
    · have q5 := mm_neL (lo := 1) (mm_ne c4) mm_k0 mm_k0 (by decide) (by decide)
      exact mm_no q5 (by decide)
  · have q6 := mm_ltR (lo := 1) w3 w2 h9 (by decide)
    have q7 : mm_rg i_19 1 601 := mm_tl_3 h49 q6 h1 (by decide)
    refine lv_if_eq (tgt := 22) hx hb dX12_run_10 (by decide) (fun c8 => ?_) (fun c8 => ?_)
    · exact mm_eqN c8.symm mm_k0 mm_k1 (by decide)
    · refine lv_aload_n hx hb dX12_run_13 rfl (lv_at hl 0 rfl) ?_
      refine lv_iload_n hx hb dX12_run_14 rfl (lv_at hl 2 rfl) ?_
      obtain ⟨v9, ev9⟩ : ∃ y : Int64, y = i_1.toInt64 := ⟨_, rfl⟩
      refine lv_i2l hx hb dX12_run_15 ev9.symm ?_
      have rv9 : mm_rl v9 (-2147483648) 2147483647 := mm_i2l ev9 (mm_top i_1)
      refine mm_finir (va_runV (As := [.long v9]) (rest := []) ⟨hx, hb, hml, hown, hts⟩ (M96_X12_isText l G cy H.size a_0 v9 0 a_1 a_2 a_3 a_4 a_5 i_3 i_4 i_5 i_6 i_7 j_0 i_8 i_9 i_10 i_11 a_6 a_7 a_8 a_9 a_10 a_11 a_12 a_13 a_14 a_15 a_16 a_17 a_18 i_12 i_13 i_14 i_15 i_16 i_17 a_19 i_18 a_20 i_24 i_25 i_26 i_27 i_28 i_29 i_30 i_31 i_32 i_33 i_34 i_35 i_36 i_37 i_38 i_39 i_40 i_41 i_42 i_43 i_44 i_45 i_46 i_47 i_48 i_49 i_50 i_51 i_52 i_53 h6 h7 h8 (mm_wk q6 (by decide)) h10 h11 h12 h13 h14 h15 h16 h17 h18 h19 h20 h21 h22 h23 h24 h25 h26 h27 h28 h29 h30 h31 h32 h33 h34 h35) (cwV 1 hts (mm_gV mm_w613 mm_w614 mm_w615 mm_w5 mm_w616) rfl rfl rfl hd_X12_isText ⟨by rw [hRf]; exact Nat.le_of_ble_eq_true rfl, by rw [hRl]; exact Nat.le_of_ble_eq_true rfl⟩) (mm_preV hK hZ hS hA hP hD [0, 2] rfl rfl 0 rfl rfl rfl) rfl rfl hl.1 rfl (lv_room (Nat.le_of_ble_eq_true rfl)) dX12_run_16 ⟨by rw [hRc]; exact Nat.le_of_ble_eq_true rfl, by rw [hRs]; exact Nat.le_of_ble_eq_true rfl⟩) hP hD hS hA [0, 2] rfl (fun _ => rfl) ?_
      clear hP hD hS
      clear H locs
      intro v10 _u H locs hw hP hD hS
      rcases hw with rfl | ⟨rfl, w11, w12⟩
      · refine lv_if_ne (tgt := 25) hx hb dX12_run_19 (by decide) (fun c13 => ?_) (fun c13 => ?_)
        · have q14 := mm_neL (lo := 1) (mm_ne c13) mm_k0 mm_k0 (by decide) (by decide)
          exact mm_no q14 (by decide)
        · refine lv_bipush (v := (-2)) hx hb dX12_run_22 (by decide) ?_
          subst hAe
          rw [hQ]
          exact W.iret (v := (-2)) hx hb hr (fun t ht hW => ⟨⟨(-2), (i_12, i_13, i_14, f_6, f_7, f_8, f_9), rfl, ⟨h0, h42, h43, h44, h45, (mm_wk mm_km2 (by decide))⟩, by rw [ht]; exact hP, hK.warm hW, hD⟩, hS.F ht⟩) hS.2.2 dX12_run_24
      · have q15 := mm_meet (lo := 0) (hi := 5) (mm_l2x ev9 w11) (mm_top i_1) (by decide)
        have w16 := mm_tx_lt w12 (mm_i2lE ev9)
        have q17 := mm_ltR (lo := 1) w16 q15 h10 (by decide)
        refine lv_if_ne (tgt := 25) hx hb dX12_run_19 (by decide) (fun c18 => ?_) (fun c18 => ?_)
        · refine lv_aload_n hx hb dX12_run_25 rfl (lv_at hl 0 rfl) ?_
          refine mm_finv (va_runV (As := []) (rest := []) ⟨hx, hb, hml, hown, hts⟩ (M125_X12_lays l G cy H.size a_0 0 a_1 a_2 a_3 a_4 a_5 i_3 i_4 i_5 i_6 i_7 j_0 i_8 i_9 i_10 i_11 a_6 a_7 a_8 a_9 a_10 a_11 a_12 a_13 a_14 a_15 a_16 a_17 a_18 i_12 i_13 i_14 i_15 i_16 i_17 a_19 i_18 a_20 i_19 i_20 i_21 i_22 i_23 i_24 i_25 i_26 i_27 i_28 i_29 i_30 i_31 i_32 i_33 i_34 i_35 i_36 i_37 i_38 i_39 i_40 i_41 i_42 i_43 i_44 i_45 i_46 i_47 i_48 i_49 i_50 i_51 i_52 i_53 f_1 f_2 f_5 f_6 f_7 f_8 (mm_wk q7 (by decide)) h2 h3 h4 h5 h6 h7 h8 (mm_wk q6 (by decide)) (mm_wk q17 (by decide)) h11 h12 h13 h14 h15 h16 h17 h18 h19 h20 h21 h22 h23 h24 h25 h26 h27 h28 h29 h30 h31 h32 h33 h34 h35 h37 h38 h41 h42 h43 h44 h46 h48 h49 h50 h52 h53 h54 h56 h57 h58 h60 h61) (cwV 0 hts (mm_gV mm_w686 mm_w687 mm_w688 mm_w5 mm_w689) rfl rfl rfl hd_X12_lays ⟨by rw [hRf]; exact Nat.le_of_ble_eq_true rfl, by rw [hRl]; exact Nat.le_of_ble_eq_true rfl⟩) (mm_preV hK hZ hS hA hP hD [0, 1, 2, 4, 5, 8, 9, 10, 11] rfl rfl 0 rfl rfl rfl) rfl rfl hl.1 rfl (lv_room (Nat.le_of_ble_eq_true rfl)) dX12_run_26 ⟨by rw [hRc]; exact Nat.le_of_ble_eq_true rfl, by rw [hRs]; exact Nat.le_of_ble_eq_true rfl⟩) hP hD hS hA (fun u : (Nat → Int32) × (Nat → Int32) × (Nat → Int32) => [(a_0, .inr (12, [.int 0, .ref a_1, .ref a_2, .ref a_3, .ref a_4, .ref a_5, .int i_3, .int i_4, .int i_5, .int i_6, .int i_7, .long j_0, .int i_8, .int i_9, .int i_10, .int i_11, .ref a_6, .ref a_7, .ref a_8, .ref a_9, .ref a_10, .ref a_11, .ref a_12, .ref a_13, .ref a_14, .ref a_15, .ref a_16, .ref a_17, .ref a_18, .int i_12, .int i_13, .int i_14, .int i_15, .int i_16, .int i_17, .ref a_19, .int i_18, .ref a_20])), (a_6, .inl (cy 1, 5, .inl (mm_g [i_19, i_20, i_21, i_22, i_23]))), (a_7, .inl (cy 1, 30, .inl (mm_g [i_24, i_25, i_26, i_27, i_28, i_29, i_30, i_31, i_32, i_33, i_34, i_35, i_36, i_37, i_38, i_39, i_40, i_41, i_42, i_43, i_44, i_45, i_46, i_47, i_48, i_49, i_50, i_51, i_52, i_53]))), (a_8, .inl (cy 1, 90, .inl f_0)), (a_9, .inl (cy 1, 15, .inl f_1)), (a_10, .inl (cy 1, 1050, .inl f_2)), (a_11, .inl (cy 1, 30, .inl f_3)), (a_12, .inl (cy 1, 240, .inl f_4)), (a_13, .inl (cy 1, 450, .inl f_5)), (a_15, .inl (cy 1, 7200, .inl u.1)), (a_16, .inl (cy 1, 3, .inl u.2.1)), (a_17, .inl (cy 1, 3, .inl u.2.2)), (a_18, .inl (cy 1, 8, .inl f_9))]) [0, 1, 2, 4, 5, 8, 9, 10, 11] [3, 6, 7, 12] (n := 13) (fun _ => rfl) (by decide +kernel) (by decide +kernel) rfl (fun _ => rfl) (wr := [(a_8, .inl (cy 1, 90, .inl f_0)), (a_11, .inl (cy 1, 30, .inl f_3)), (a_12, .inl (cy 1, 240, .inl f_4)), (a_18, .inl (cy 1, 8, .inl f_9))]) rfl (fun _ => rfl) (fun _ => @rfl _ ([a_0, a_6, a_7, a_9, a_10, a_13, a_15, a_16, a_17] : List Nat)) ?_
          clear hP hD hS
          clear H locs
          intro u
          obtain ⟨n19, n20, n21⟩ := u
          intro H locs hw (hP : va_P G vwCl [(a_0, .inr (12, [.int 0, .ref a_1, .ref a_2, .ref a_3, .ref a_4, .ref a_5, .int i_3, .int i_4, .int i_5, .int i_6, .int i_7, .long j_0, .int i_8, .int i_9, .int i_10, .int i_11, .ref a_6, .ref a_7, .ref a_8, .ref a_9, .ref a_10, .ref a_11, .ref a_12, .ref a_13, .ref a_14, .ref a_15, .ref a_16, .ref a_17, .ref a_18, .int i_12, .int i_13, .int i_14, .int i_15, .int i_16, .int i_17, .ref a_19, .int i_18, .ref a_20])), (a_6, .inl (cy 1, 5, .inl (mm_g [i_19, i_20, i_21, i_22, i_23]))), (a_7, .inl (cy 1, 30, .inl (mm_g [i_24, i_25, i_26, i_27, i_28, i_29, i_30, i_31, i_32, i_33, i_34, i_35, i_36, i_37, i_38, i_39, i_40, i_41, i_42, i_43, i_44, i_45, i_46, i_47, i_48, i_49, i_50, i_51, i_52, i_53]))), (a_8, .inl (cy 1, 90, .inl f_0)), (a_9, .inl (cy 1, 15, .inl f_1)), (a_10, .inl (cy 1, 1050, .inl f_2)), (a_11, .inl (cy 1, 30, .inl f_3)), (a_12, .inl (cy 1, 240, .inl f_4)), (a_13, .inl (cy 1, 450, .inl f_5)), (a_15, .inl (cy 1, 7200, .inl n19)), (a_16, .inl (cy 1, 3, .inl n20)), (a_17, .inl (cy 1, 3, .inl n21)), (a_18, .inl (cy 1, 8, .inl f_9))] H) (hD : va_D A [(a_0, .inr (12, [.int 0, .ref a_1, .ref a_2, .ref a_3, .ref a_4, .ref a_5, .int i_3, .int i_4, .int i_5, .int i_6, .int i_7, .long j_0, .int i_8, .int i_9, .int i_10, .int i_11, .ref a_6, .ref a_7, .ref a_8, .ref a_9, .ref a_10, .ref a_11, .ref a_12, .ref a_13, .ref a_14, .ref a_15, .ref a_16, .ref a_17, .ref a_18, .int i_12, .int i_13, .int i_14, .int i_15, .int i_16, .int i_17, .ref a_19, .int i_18, .ref a_20])), (a_6, .inl (cy 1, 5, .inl (mm_g [i_19, i_20, i_21, i_22, i_23]))), (a_7, .inl (cy 1, 30, .inl (mm_g [i_24, i_25, i_26, i_27, i_28, i_29, i_30, i_31, i_32, i_33, i_34, i_35, i_36, i_37, i_38, i_39, i_40, i_41, i_42, i_43, i_44, i_45, i_46, i_47, i_48, i_49, i_50, i_51, i_52, i_53]))), (a_8, .inl (cy 1, 90, .inl f_0)), (a_9, .inl (cy 1, 15, .inl f_1)), (a_10, .inl (cy 1, 1050, .inl f_2)), (a_11, .inl (cy 1, 30, .inl f_3)), (a_12, .inl (cy 1, 240, .inl f_4)), (a_13, .inl (cy 1, 450, .inl f_5)), (a_15, .inl (cy 1, 7200, .inl n19)), (a_16, .inl (cy 1, 3, .inl n20)), (a_17, .inl (cy 1, 3, .inl n21)), (a_18, .inl (cy 1, 8, .inl f_9))]) hS
          obtain ⟨w22, w23, w24, w25, w26⟩ := hw
          replace w25 : mm_laid n20 n21 i_27 := w25
          replace w26 : mm_tab n19 n20 i_26 i_27 := w26
          refine lv_iconst (v := 0) hx hb dX12_run_29 (by decide) ?_
          refine lv_istore_n (lv' := [(3, .int 0), (0, .ref a_0), (1, .int i_0), (2, .int i_1)]) hx hb dX12_run_30 rfl hl (by decide) rfl ?_
          clear hl
          clear ls
          intro ls hl
          refine lv_iconst (v := 0) hx hb dX12_run_31 (by decide) ?_
          refine lv_istore (lv' := [(4, .int 0), (3, .int 0), (0, .ref a_0), (1, .int i_0), (2, .int i_1)]) hx hb dX12_run_32 hl (by decide) rfl ?_
          clear hl
          clear ls
          intro ls hl
          refine lv_iconst (v := 0) hx hb dX12_run_34 (by decide) ?_
          refine lv_istore (lv' := [(5, .int 0), (4, .int 0), (3, .int 0), (0, .ref a_0), (1, .int i_0), (2, .int i_1)]) hx hb dX12_run_35 hl (by decide) rfl ?_
          clear hl
          clear ls
          intro ls hl
          have L37_740 : ∀ (n : Nat) (x37_5_734 : Int32) (x37_4_735 : Int32) (x37_3_736 : Int32) (y37_0_29_737 : Int32) (y37_0_30_738 : Int32) (y37_0_31_739 : Int32) (z37_12_740 : Nat → Int32), mm_rg x37_5_734 0 210 → mm_rg x37_3_736 0 2147483647 → mm_rg y37_0_29_737 0 8 → mm_ar z37_12_740 0 9 → (210 - x37_5_734.toInt).toNat < n → ∀ (H : Heap) (locs : List Loc), va_P G vwCl [(a_0, .inr (12, [.int 0, .ref a_1, .ref a_2, .ref a_3, .ref a_4, .ref a_5, .int i_3, .int i_4, .int i_5, .int i_6, .int i_7, .long j_0, .int i_8, .int i_9, .int i_10, .int i_11, .ref a_6, .ref a_7, .ref a_8, .ref a_9, .ref a_10, .ref a_11, .ref a_12, .ref a_13, .ref a_14, .ref a_15, .ref a_16, .ref a_17, .ref a_18, .int y37_0_29_737, .int y37_0_30_738, .int y37_0_31_739, .int i_15, .int i_16, .int i_17, .ref a_19, .int i_18, .ref a_20])), (a_6, .inl (cy 1, 5, .inl (mm_g [i_19, i_20, i_21, i_22, i_23]))), (a_7, .inl (cy 1, 30, .inl (mm_g [i_24, i_25, i_26, i_27, i_28, i_29, i_30, i_31, i_32, i_33, i_34, i_35, i_36, i_37, i_38, i_39, i_40, i_41, i_42, i_43, i_44, i_45, i_46, i_47, i_48, i_49, i_50, i_51, i_52, i_53]))), (a_8, .inl (cy 1, 90, .inl f_0)), (a_9, .inl (cy 1, 15, .inl f_1)), (a_10, .inl (cy 1, 1050, .inl f_2)), (a_11, .inl (cy 1, 30, .inl f_3)), (a_12, .inl (cy 1, 240, .inl f_4)), (a_13, .inl (cy 1, 450, .inl f_5)), (a_15, .inl (cy 1, 7200, .inl n19)), (a_16, .inl (cy 1, 3, .inl n20)), (a_17, .inl (cy 1, 3, .inl n21)), (a_18, .inl (cy 1, 8, .inl z37_12_740))] H → va_D A [(a_0, .inr (12, [.int 0, .ref a_1, .ref a_2, .ref a_3, .ref a_4, .ref a_5, .int i_3, .int i_4, .int i_5, .int i_6, .int i_7, .long j_0, .int i_8, .int i_9, .int i_10, .int i_11, .ref a_6, .ref a_7, .ref a_8, .ref a_9, .ref a_10, .ref a_11, .ref a_12, .ref a_13, .ref a_14, .ref a_15, .ref a_16, .ref a_17, .ref a_18, .int y37_0_29_737, .int y37_0_30_738, .int y37_0_31_739, .int i_15, .int i_16, .int i_17, .ref a_19, .int i_18, .ref a_20])), (a_6, .inl (cy 1, 5, .inl (mm_g [i_19, i_20, i_21, i_22, i_23]))), (a_7, .inl (cy 1, 30, .inl (mm_g [i_24, i_25, i_26, i_27, i_28, i_29, i_30, i_31, i_32, i_33, i_34, i_35, i_36, i_37, i_38, i_39, i_40, i_41, i_42, i_43, i_44, i_45, i_46, i_47, i_48, i_49, i_50, i_51, i_52, i_53]))), (a_8, .inl (cy 1, 90, .inl f_0)), (a_9, .inl (cy 1, 15, .inl f_1)), (a_10, .inl (cy 1, 1050, .inl f_2)), (a_11, .inl (cy 1, 30, .inl f_3)), (a_12, .inl (cy 1, 240, .inl f_4)), (a_13, .inl (cy 1, 450, .inl f_5)), (a_15, .inl (cy 1, 7200, .inl n19)), (a_16, .inl (cy 1, 3, .inl n20)), (a_17, .inl (cy 1, 3, .inl n21)), (a_18, .inl (cy 1, 8, .inl z37_12_740))] → va_S A s.heap H locs → ∀ (ls : Array Slot), lv_has ls 6 [(5, .int x37_5_734), (4, .int x37_4_735), (3, .int x37_3_736), (0, .ref a_0), (1, .int i_0), (2, .int i_1)] → W p l e R s m args below meth c H locs 0 0 Q (F0 m 37 ls []) := by
            intro n
            induction n with
            | zero => intro x37_5_734 x37_4_735 x37_3_736 y37_0_29_737 y37_0_30_738 y37_0_31_739 z37_12_740 rx37_5_734 rx37_3_736 ry37_0_29_737 rz37_12_740 hm; exact absurd hm (Nat.not_lt_zero _)
            | succ n ih37 =>
              intro x37_5_734 x37_4_735 x37_3_736 y37_0_29_737 y37_0_30_738 y37_0_31_739 z37_12_740 rx37_5_734 rx37_3_736 ry37_0_29_737 rz37_12_740 hm37 H locs hP hD hS ls hl
              refine lv_iload hx hb dX12_run_37 (lv_at hl 0 rfl) ?_
              refine lv_aload_n hx hb dX12_run_39 rfl (lv_at hl 3 rfl) ?_
              refine va_get (D := G) (ci := 12) (v := .ref a_17) (C := RX12) (T := TX12) (N := 38) hx hb hts (mm_i inlX12) hown hK.1 hP 0 rfl rfl 27 (by decide) (mm_h hts mm_w159) (fun _ h9 => h9) rfl dX12_run_40 ?_
              refine lv_iload_n hx hb dX12_run_43 rfl (lv_at hl 4 rfl) ?_
              refine va_iald hx hb hK.1 hP 11 1 rfl rfl (mm_in w2 (by decide)) dX12_run_44 ?_
              refine lv_topi (fun v742 ev742 => ?_)
              have rv742 : mm_rg v742 0 210 := mm_eqv ev742 (w24 _)
              have q743 : mm_rg v742 1 210 := mm_laid_ld1 w25 w3 ev742 w2 rv742 (by decide)
              refine lv_icmp_ge (tgt := 92) hx hb dX12_run_45 (by decide) (fun c744 => ?_) (fun c744 => ?_)
              · have q745 := mm_leR (mm_le c744) q743 rx37_5_734
                refine lv_iload_n hx hb dX12_run_92 rfl (lv_at hl 2 rfl) ?_
                subst hAe
                rw [hQ]
                exact W.iret (v := x37_3_736) hx hb hr (fun t ht hW => ⟨⟨x37_3_736, (y37_0_29_737, y37_0_30_738, y37_0_31_739, n19, n20, n21, z37_12_740), rfl, ⟨ry37_0_29_737, w22, w23, w24, rz37_12_740, (mm_wk rx37_3_736 (by decide))⟩, by rw [ht]; exact hP, hK.warm hW, hD⟩, hS.F ht⟩) hS.2.2 dX12_run_93
              · have q746 := mm_ltL (h := 209) (mm_nle c744) rx37_5_734 q743 (by decide)
                refine lv_aload_n hx hb dX12_run_48 rfl (lv_at hl 3 rfl) ?_
                refine lv_iload_n hx hb dX12_run_49 rfl (lv_at hl 4 rfl) ?_
                refine lv_iload hx hb dX12_run_50 (lv_at hl 0 rfl) ?_
                refine lv_iload_n hx hb dX12_run_52 rfl (lv_at hl 5 rfl) ?_
                refine mm_fini (va_runV (As := [.int i_0, .int x37_5_734, .int i_1]) (rest := []) ⟨hx, hb, hml, hown, hts⟩ (M141_X12_reads l G cy H.size a_0 i_0 x37_5_734 i_1 0 a_1 a_2 a_3 a_4 a_5 i_3 i_4 i_5 i_6 i_7 j_0 i_8 i_9 i_10 i_11 a_6 a_7 a_8 a_9 a_10 a_11 a_12 a_13 a_14 a_15 a_16 a_17 a_18 y37_0_29_737 y37_0_30_738 y37_0_31_739 i_15 i_16 i_17 a_19 i_18 a_20 i_24 i_25 i_26 i_27 i_28 i_29 i_30 i_31 i_32 i_33 i_34 i_35 i_36 i_37 i_38 i_39 i_40 i_41 i_42 i_43 i_44 i_45 i_46 i_47 i_48 i_49 i_50 i_51 i_52 i_53 f_0 f_3 f_4 f_5 n19 n20 z37_12_740 w2 (mm_wk q746 (by decide)) q15 ry37_0_29_737 h6 h7 h8 (mm_wk q6 (by decide)) (mm_wk q17 (by decide)) h11 h12 h13 h14 h15 h16 h17 h18 h19 h20 h21 h22 h23 h24 h25 h26 h27 h28 h29 h30 h31 h32 h33 h34 h35 h36 h39 h40 h41 w22 w23 rz37_12_740 h47 h48 h51 h52 h55 h56 h59 h60 (mm_f1_l w25 w3 w2 (by decide))) (cwV 3 hts (mm_gV mm_w852 mm_w853 mm_w854 mm_w5 mm_w855) rfl rfl rfl hd_X12_reads ⟨by rw [hRf]; exact Nat.le_of_ble_eq_true rfl, by rw [hRl]; exact Nat.le_of_ble_eq_true rfl⟩) (mm_preV hK hZ hS hA hP hD [0, 2, 3, 6, 7, 8, 9, 10, 12] rfl rfl 0 rfl rfl rfl) rfl rfl hl.1 rfl (lv_room (Nat.le_of_ble_eq_true rfl)) dX12_run_53 ⟨by rw [hRc]; exact Nat.le_of_ble_eq_true rfl, by rw [hRs]; exact Nat.le_of_ble_eq_true rfl⟩) hP hD hS hA (fun u : Int32 × Int32 × Int32 × (Nat → Int32) => [(a_0, .inr (12, [.int 0, .ref a_1, .ref a_2, .ref a_3, .ref a_4, .ref a_5, .int i_3, .int i_4, .int i_5, .int i_6, .int i_7, .long j_0, .int i_8, .int i_9, .int i_10, .int i_11, .ref a_6, .ref a_7, .ref a_8, .ref a_9, .ref a_10, .ref a_11, .ref a_12, .ref a_13, .ref a_14, .ref a_15, .ref a_16, .ref a_17, .ref a_18, .int u.1, .int u.2.1, .int u.2.2.1, .int i_15, .int i_16, .int i_17, .ref a_19, .int i_18, .ref a_20])), (a_6, .inl (cy 1, 5, .inl (mm_g [i_19, i_20, i_21, i_22, i_23]))), (a_7, .inl (cy 1, 30, .inl (mm_g [i_24, i_25, i_26, i_27, i_28, i_29, i_30, i_31, i_32, i_33, i_34, i_35, i_36, i_37, i_38, i_39, i_40, i_41, i_42, i_43, i_44, i_45, i_46, i_47, i_48, i_49, i_50, i_51, i_52, i_53]))), (a_8, .inl (cy 1, 90, .inl f_0)), (a_9, .inl (cy 1, 15, .inl f_1)), (a_10, .inl (cy 1, 1050, .inl f_2)), (a_11, .inl (cy 1, 30, .inl f_3)), (a_12, .inl (cy 1, 240, .inl f_4)), (a_13, .inl (cy 1, 450, .inl f_5)), (a_15, .inl (cy 1, 7200, .inl n19)), (a_16, .inl (cy 1, 3, .inl n20)), (a_17, .inl (cy 1, 3, .inl n21)), (a_18, .inl (cy 1, 8, .inl u.2.2.2))]) [0, 2, 3, 6, 7, 8, 9, 10, 12] [1, 4, 5, 11] (n := 13) (fun _ => rfl) (by decide +kernel) (by decide +kernel) rfl (fun _ => rfl) (wr := [(a_6, .inl (cy 1, 5, .inl (mm_g [i_19, i_20, i_21, i_22, i_23]))), (a_9, .inl (cy 1, 15, .inl f_1)), (a_10, .inl (cy 1, 1050, .inl f_2)), (a_17, .inl (cy 1, 3, .inl n21))]) rfl (fun _ => rfl) (fun _ => @rfl _ ([a_0, a_7, a_8, a_11, a_12, a_13, a_15, a_16, a_18] : List Nat)) ?_
                clear hP hD hS
                clear H locs
                intro v751 u
                obtain ⟨n747, n748, n749, n750⟩ := u
                intro H locs hw (hP : va_P G vwCl [(a_0, .inr (12, [.int 0, .ref a_1, .ref a_2, .ref a_3, .ref a_4, .ref a_5, .int i_3, .int i_4, .int i_5, .int i_6, .int i_7, .long j_0, .int i_8, .int i_9, .int i_10, .int i_11, .ref a_6, .ref a_7, .ref a_8, .ref a_9, .ref a_10, .ref a_11, .ref a_12, .ref a_13, .ref a_14, .ref a_15, .ref a_16, .ref a_17, .ref a_18, .int n747, .int n748, .int n749, .int i_15, .int i_16, .int i_17, .ref a_19, .int i_18, .ref a_20])), (a_6, .inl (cy 1, 5, .inl (mm_g [i_19, i_20, i_21, i_22, i_23]))), (a_7, .inl (cy 1, 30, .inl (mm_g [i_24, i_25, i_26, i_27, i_28, i_29, i_30, i_31, i_32, i_33, i_34, i_35, i_36, i_37, i_38, i_39, i_40, i_41, i_42, i_43, i_44, i_45, i_46, i_47, i_48, i_49, i_50, i_51, i_52, i_53]))), (a_8, .inl (cy 1, 90, .inl f_0)), (a_9, .inl (cy 1, 15, .inl f_1)), (a_10, .inl (cy 1, 1050, .inl f_2)), (a_11, .inl (cy 1, 30, .inl f_3)), (a_12, .inl (cy 1, 240, .inl f_4)), (a_13, .inl (cy 1, 450, .inl f_5)), (a_15, .inl (cy 1, 7200, .inl n19)), (a_16, .inl (cy 1, 3, .inl n20)), (a_17, .inl (cy 1, 3, .inl n21)), (a_18, .inl (cy 1, 8, .inl n750))] H) (hD : va_D A [(a_0, .inr (12, [.int 0, .ref a_1, .ref a_2, .ref a_3, .ref a_4, .ref a_5, .int i_3, .int i_4, .int i_5, .int i_6, .int i_7, .long j_0, .int i_8, .int i_9, .int i_10, .int i_11, .ref a_6, .ref a_7, .ref a_8, .ref a_9, .ref a_10, .ref a_11, .ref a_12, .ref a_13, .ref a_14, .ref a_15, .ref a_16, .ref a_17, .ref a_18, .int n747, .int n748, .int n749, .int i_15, .int i_16, .int i_17, .ref a_19, .int i_18, .ref a_20])), (a_6, .inl (cy 1, 5, .inl (mm_g [i_19, i_20, i_21, i_22, i_23]))), (a_7, .inl (cy 1, 30, .inl (mm_g [i_24, i_25, i_26, i_27, i_28, i_29, i_30, i_31, i_32, i_33, i_34, i_35, i_36, i_37, i_38, i_39, i_40, i_41, i_42, i_43, i_44, i_45, i_46, i_47, i_48, i_49, i_50, i_51, i_52, i_53]))), (a_8, .inl (cy 1, 90, .inl f_0)), (a_9, .inl (cy 1, 15, .inl f_1)), (a_10, .inl (cy 1, 1050, .inl f_2)), (a_11, .inl (cy 1, 30, .inl f_3)), (a_12, .inl (cy 1, 240, .inl f_4)), (a_13, .inl (cy 1, 450, .inl f_5)), (a_15, .inl (cy 1, 7200, .inl n19)), (a_16, .inl (cy 1, 3, .inl n20)), (a_17, .inl (cy 1, 3, .inl n21)), (a_18, .inl (cy 1, 8, .inl n750))]) hS
                obtain ⟨w752, w753, hw⟩ := hw
                obtain ⟨w754, w755⟩ := hw
                replace w755 : mm_rd n19 n20 f_0 f_3 f_4 f_5 i_0 x37_5_734 i_1 i_25 i_26 i_29 v751 := w755
                refine lv_aload_n hx hb dX12_run_56 rfl (lv_at hl 3 rfl) ?_
                refine mm_finir (va_runV (As := []) (rest := [.int v751]) ⟨hx, hb, hml, hown, hts⟩ (M139_X12_stockNow l G cy H.size a_0 0 a_1 a_2 a_3 a_4 a_5 i_3 i_4 i_5 i_6 i_7 j_0 i_8 i_9 i_10 i_11 a_6 a_7 a_8 a_9 a_10 a_11 a_12 a_13 a_14 a_15 a_16 a_17 a_18 n747 n748 n749 i_15 i_16 i_17 a_19 i_18 a_20 i_24 i_25 i_26 i_27 i_28 i_29 i_30 i_31 i_32 i_33 i_34 i_35 i_36 i_37 i_38 i_39 i_40 i_41 i_42 i_43 i_44 i_45 i_46 i_47 i_48 i_49 i_50 i_51 i_52 i_53 f_5 h6 h7 h8 (mm_wk q6 (by decide)) (mm_wk q17 (by decide)) h11 h12 h13 h14 h15 h16 h17 h18 h19 h20 h21 h22 h23 h24 h25 h26 h27 h28 h29 h30 h31 h32 h33 h34 h35 h41 h48 h52 h56 h60) (cwV 0 hts (mm_gV mm_w861 mm_w862 mm_w863 mm_w5 mm_w864) rfl rfl rfl hd_X12_stockNow ⟨by rw [hRf]; exact Nat.le_of_ble_eq_true rfl, by rw [hRl]; exact Nat.le_of_ble_eq_true rfl⟩) (mm_preV hK hZ hS hA hP hD [0, 2, 8] rfl rfl 0 rfl rfl rfl) rfl rfl hl.1 rfl (lv_room (Nat.le_of_ble_eq_true rfl)) dX12_run_57 ⟨by rw [hRc]; exact Nat.le_of_ble_eq_true rfl, by rw [hRs]; exact Nat.le_of_ble_eq_true rfl⟩) hP hD hS hA [0, 2, 8] rfl (fun _ => rfl) ?_
                clear hP hD hS
                clear H locs
                intro v756 _u H locs hw hP hD hS
                obtain ⟨w757, w758⟩ := hw
                refine lv_icmp_le (tgt := 70) hx hb dX12_run_60 (by decide) (fun c759 => ?_) (fun c759 => ?_)
                · have q760 := mm_leL (mm_le c759) w754 w757
                  refine lv_iconst (v := 0) hx hb dX12_run_70 (by decide) ?_
                  refine lv_istore (lv' := [(4, .int 0), (5, .int x37_5_734), (3, .int x37_3_736), (0, .ref a_0), (1, .int i_0), (2, .int i_1)]) hx hb dX12_run_71 hl (by decide) rfl ?_
                  clear hl
                  clear ls
                  intro ls hl
                  refine lv_iload hx hb dX12_run_73 (lv_at hl 0 rfl) ?_
                  refine lv_iload_n hx hb dX12_run_75 rfl (lv_at hl 2 rfl) ?_
                  refine lv_icmp_le (tgt := 84) hx hb dX12_run_76 (by decide) (fun c761 => ?_) (fun c761 => ?_)
                  · refine lv_iload_n hx hb dX12_run_84 rfl (lv_at hl 2 rfl) ?_
                    refine lv_istore_n (lv' := [(3, .int x37_3_736), (4, .int 0), (5, .int x37_5_734), (0, .ref a_0), (1, .int i_0), (2, .int i_1)]) hx hb dX12_run_85 rfl hl (by decide) rfl ?_
                    clear hl
                    clear ls
                    intro ls hl
                    obtain ⟨v762, ev762⟩ : ∃ y : Int32, y = x37_5_734 + 1 := ⟨_, rfl⟩
                    refine lv_iinc (v := v762) (lv' := [(5, .int v762), (3, .int x37_3_736), (4, .int 0), (0, .ref a_0), (1, .int i_0), (2, .int i_1)]) hx hb dX12_run_86 hl (k := 2) rfl (by rw [ev762]; rfl) (by decide) rfl ?_
                    clear hl
                    clear ls
                    intro ls hl
                    have rv762 : mm_rg v762 1 210 := mm_add ev762 q746 mm_k1 (by decide) (by decide)
                    have tv762 := mm_addEc ev762 q746 mm_k1 (by decide) (k := 1) (by decide)
                    refine lv_goto (tgt := 37) hx hb dX12_run_89 (by decide) ?_
                    exact ih37 v762 0 x37_3_736 n747 n748 n749 n750 (mm_wk rv762 (by decide)) rx37_3_736 w752 w753 (mm_mu hm37 tv762 (by decide) (rv762).2 (by decide)) H locs hP hD hS ls (lv_sub hl [0, 2, 1, 3, 4, 5] rfl)
                  · have q763 := mm_ltL (h := (-1)) (mm_nle c761) rx37_3_736 mm_k0 (by decide)
                    exact mm_no q763 (by decide)
                · have q764 := mm_ltR (lo := 1) (mm_nle c759) w757 w754 (by decide)
                  refine lv_iload hx hb dX12_run_63 (lv_at hl 1 rfl) ?_
                  refine lv_iconst (v := 1) hx hb dX12_run_65 (by decide) ?_
                  refine lv_iadd hx hb dX12_run_66 ?_
                  refine lv_topi (fun v765 ev765 => ?_)
                  refine lv_goto (tgt := 71) hx hb dX12_run_67 (by decide) ?_
                  refine lv_istore (lv' := [(4, .int v765), (5, .int x37_5_734), (3, .int x37_3_736), (0, .ref a_0), (1, .int i_0), (2, .int i_1)]) hx hb dX12_run_71 hl (by decide) rfl ?_
                  clear hl
                  clear ls
                  intro ls hl
                  refine lv_iload hx hb dX12_run_73 (lv_at hl 0 rfl) ?_
                  refine lv_iload_n hx hb dX12_run_75 rfl (lv_at hl 2 rfl) ?_
                  refine lv_icmp_le (tgt := 84) hx hb dX12_run_76 (by decide) (fun c766 => ?_) (fun c766 => ?_)
                  · refine lv_iload_n hx hb dX12_run_84 rfl (lv_at hl 2 rfl) ?_
                    refine lv_istore_n (lv' := [(3, .int x37_3_736), (4, .int v765), (5, .int x37_5_734), (0, .ref a_0), (1, .int i_0), (2, .int i_1)]) hx hb dX12_run_85 rfl hl (by decide) rfl ?_
                    clear hl
                    clear ls
                    intro ls hl
                    obtain ⟨v767, ev767⟩ : ∃ y : Int32, y = x37_5_734 + 1 := ⟨_, rfl⟩
                    refine lv_iinc (v := v767) (lv' := [(5, .int v767), (3, .int x37_3_736), (4, .int v765), (0, .ref a_0), (1, .int i_0), (2, .int i_1)]) hx hb dX12_run_86 hl (k := 2) rfl (by rw [ev767]; rfl) (by decide) rfl ?_
                    clear hl
                    clear ls
                    intro ls hl
                    have rv767 : mm_rg v767 1 210 := mm_add ev767 q746 mm_k1 (by decide) (by decide)
                    have tv767 := mm_addEc ev767 q746 mm_k1 (by decide) (k := 1) (by decide)
                    refine lv_goto (tgt := 37) hx hb dX12_run_89 (by decide) ?_
                    exact ih37 v767 v765 x37_3_736 n747 n748 n749 n750 (mm_wk rv767 (by decide)) rx37_3_736 w752 w753 (mm_mu hm37 tv767 (by decide) (rv767).2 (by decide)) H locs hP hD hS ls (lv_sub hl [0, 2, 1, 3, 4, 5] rfl)
                  · have q768 := mm_ltL (h := 2147483646) (mm_nle c766) rx37_3_736 (mm_top v765) (by decide)
                    have q769 := mm_ltR (lo := 1) (mm_nle c766) rx37_3_736 (mm_top v765) (by decide)
                    refine lv_iload hx hb dX12_run_79 (lv_at hl 0 rfl) ?_
                    refine lv_goto (tgt := 85) hx hb dX12_run_81 (by decide) ?_
                    refine lv_istore_n (lv' := [(3, .int v765), (4, .int v765), (5, .int x37_5_734), (0, .ref a_0), (1, .int i_0), (2, .int i_1)]) hx hb dX12_run_85 rfl hl (by decide) rfl ?_
                    clear hl
                    clear ls
                    intro ls hl
                    obtain ⟨v770, ev770⟩ : ∃ y : Int32, y = x37_5_734 + 1 := ⟨_, rfl⟩
                    refine lv_iinc (v := v770) (lv' := [(5, .int v770), (3, .int v765), (4, .int v765), (0, .ref a_0), (1, .int i_0), (2, .int i_1)]) hx hb dX12_run_86 hl (k := 2) rfl (by rw [ev770]; rfl) (by decide) rfl ?_
                    clear hl
                    clear ls
                    intro ls hl
                    have rv770 : mm_rg v770 1 210 := mm_add ev770 q746 mm_k1 (by decide) (by decide)
                    have tv770 := mm_addEc ev770 q746 mm_k1 (by decide) (k := 1) (by decide)
                    refine lv_goto (tgt := 37) hx hb dX12_run_89 (by decide) ?_
                    exact ih37 v770 v765 v765 n747 n748 n749 n750 (mm_wk rv770 (by decide)) (mm_wk q769 (by decide)) w752 w753 (mm_mu hm37 tv770 (by decide) (rv770).2 (by decide)) H locs hP hD hS ls (lv_sub hl [0, 2, 1, 3, 4, 5] rfl)
          exact L37_740 _ 0 0 0 i_12 i_13 i_14 f_9 (mm_wk mm_k0 (by decide)) (mm_wk mm_k0 (by decide)) h0 h45 (Nat.lt_succ_self _) H locs hP hD hS ls (lv_sub hl [0, 1, 2, 3, 4, 5] rfl)
        · exact mm_eqN c18.symm mm_k0 mm_k1 (by decide)

set_option maxHeartbeats 4000000 in
set_option maxRecDepth 100000 in
theorem M159_X12_common_ (l : Launch) (G : va_G) (cy : Nat → ClassId) (sz : Nat) (j_0 : Int64) (j_1 : Int64) (h0 : mm_rl j_0 1 1) (h1 : mm_rl j_1 0 0) (h2 : (j_1 : Int64).toInt < (j_0 : Int64).toInt)  : mm_CL l yX12_common_ (mm_ws yX12_common_ cX12_common_ 4 (some .long)) ({ frames := 0, cells := 0, slots := 0, locals := 0 } : Room) G cy sz [] [.long j_0, .long j_1] (fun u : Unit => []) (fun (r : Int64) (u : Unit) => j_0 = r) 0 0 := by
  refine mm_begin (lv := [(0, .long j_0), (2, .long j_1)]) (by decide) (Nat.le_of_ble_eq_true rfl) rfl ?_
  intro p e s m below meth c A ls R args Q H locs hRe hQ hAe hx hb hr hlocks hml hown hnm hts hsz hA hS hP hK hD hZ hl
  have hRf : R.frames = 0 := by rw [hRe]
  have hRl : R.locals = 0 := by rw [hRe]
  have hRc : R.cells = 0 := by rw [hRe]
  have hRs : R.slots = 0 := by rw [hRe]
  refine lv_lload_n hx hb dX12_common__0 rfl (lv_at hl 1 rfl) ?_
  refine lv_lconst (v := 0) hx hb dX12_common__1 (by decide) ?_
  refine W.lcmp hx hb dX12_common__2 ?_
  refine lv_topi (fun v1 ev1 => ?_)
  refine lv_if_ne (tgt := 10) hx hb dX12_common__3 (by decide) (fun c2 => ?_) (fun c2 => ?_)
  · have q3 := mm_neLl (lo := 1) (mm_cmp_ne ev1 c2) h1 mm_kl0 (by decide) (by decide)
    exact mm_nol q3 (by decide)
  · refine lv_lload_n hx hb dX12_common__6 rfl (lv_at hl 0 rfl) ?_
    refine lv_goto (tgt := 17) hx hb dX12_common__7 (by decide) ?_
    subst hAe
    rw [hQ]
    exact W.lret (v := j_0) hx hb hr (fun t ht hW => ⟨⟨j_0, (), rfl, rfl, by rw [ht]; exact hP, hK.warm hW, hD⟩, hS.F ht⟩) hS.2.2 dX12_common__17

set_option maxHeartbeats 4000000 in
set_option maxRecDepth 100000 in
theorem M160_X12_common_ (l : Launch) (G : va_G) (cy : Nat → ClassId) (sz : Nat) (j_0 : Int64) (j_1 : Int64) (h0 : mm_rl j_0 1 4611686018427387904) (h1 : mm_rl j_1 0 1)  : mm_CL l yX12_common_ (mm_ws yX12_common_ cX12_common_ 4 (some .long)) ({ frames := 1, cells := 0, slots := 0, locals := 23 } : Room) G cy sz [] [.long j_0, .long j_1] (fun u : Unit => []) (fun (r : Int64) (u : Unit) => mm_rl r 1 4611686018427387904) 0 0 := by
  refine mm_begin (lv := [(0, .long j_0), (2, .long j_1)]) (by decide) (Nat.le_of_ble_eq_true rfl) rfl ?_
  intro p e s m below meth c A ls R args Q H locs hRe hQ hAe hx hb hr hlocks hml hown hnm hts hsz hA hS hP hK hD hZ hl
  have hRf : R.frames = 1 := by rw [hRe]
  have hRl : R.locals = 23 := by rw [hRe]
  have hRc : R.cells = 0 := by rw [hRe]
  have hRs : R.slots = 0 := by rw [hRe]
  refine lv_lload_n hx hb dX12_common__0 rfl (lv_at hl 1 rfl) ?_
  refine lv_lconst (v := 0) hx hb dX12_common__1 (by decide) ?_
  refine W.lcmp hx hb dX12_common__2 ?_
  refine lv_topi (fun v1 ev1 => ?_)
  refine lv_if_ne (tgt := 10) hx hb dX12_common__3 (by decide) (fun c2 => ?_) (fun c2 => ?_)
  · have q3 := mm_neLl (lo := 1) (mm_cmp_ne ev1 c2) h1 mm_kl0 (by decide) (by decide)
    refine lv_lload_n hx hb dX12_common__10 rfl (lv_at hl 1 rfl) ?_
    refine lv_lload_n hx hb dX12_common__11 rfl (lv_at hl 0 rfl) ?_
    refine lv_lload_n hx hb dX12_common__12 rfl (lv_at hl 1 rfl) ?_
    refine lv_lrem hx hb dX12_common__13 (mm_nzl q3 (by decide)) ?_
    refine lv_topl (fun v4 ev4 => ?_)
    have rv4 : mm_rl v4 0 0 := mm_reml ev4 h0 q3 (by decide) (by decide)
    have w5 := mm_remlLt ev4 h0 q3 (by decide)
    refine mm_finlr (va_runS (As := [.long j_1, .long v4]) (rest := []) ⟨hx, hb, hml, hown, hts⟩ (M159_X12_common_ l G cy H.size j_1 v4 q3 rv4 w5) (va_cwS 2 hts (mm_gS mm_w1043 mm_w1044 mm_w5 mm_w1045) rfl rfl rfl hs_X12_common_ ⟨by rw [hRf]; exact Nat.le_of_ble_eq_true rfl, by rw [hRl]; exact Nat.le_of_ble_eq_true rfl⟩) (mm_preS hK hZ hS hA hP hD [] rfl rfl) rfl rfl hl.1 rfl (lv_room (Nat.le_of_ble_eq_true rfl)) dX12_common__14 ⟨by rw [hRc]; exact Nat.le_of_ble_eq_true rfl, by rw [hRs]; exact Nat.le_of_ble_eq_true rfl⟩) hP hD hS hA [] rfl (fun _ => rfl) ?_
    clear hP hD hS
    clear H locs
    intro v6 _u H locs hw hP hD hS
    subst hw
    subst hAe
    rw [hQ]
    exact W.lret (v := j_1) hx hb hr (fun t ht hW => ⟨⟨j_1, (), rfl, (mm_wkl q3 (by decide)), by rw [ht]; exact hP, hK.warm hW, hD⟩, hS.F ht⟩) hS.2.2 dX12_common__17
  · have q7 := mm_eqIl (lo := 0) (hi := 0) (mm_cmp_eq ev1 c2) h1 mm_kl0 (by decide)
    refine lv_lload_n hx hb dX12_common__6 rfl (lv_at hl 0 rfl) ?_
    refine lv_goto (tgt := 17) hx hb dX12_common__7 (by decide) ?_
    subst hAe
    rw [hQ]
    exact W.lret (v := j_0) hx hb hr (fun t ht hW => ⟨⟨j_0, (), rfl, h0, by rw [ht]; exact hP, hK.warm hW, hD⟩, hS.F ht⟩) hS.2.2 dX12_common__17

set_option maxHeartbeats 4000000 in
set_option maxRecDepth 100000 in
theorem M161_X12_common_ (l : Launch) (G : va_G) (cy : Nat → ClassId) (sz : Nat) (j_0 : Int64) (j_1 : Int64) (h0 : mm_rl j_0 1 3) (h1 : mm_rl j_1 0 2) (h2 : (j_1 : Int64).toInt < (j_0 : Int64).toInt)  : mm_CL l yX12_common_ (mm_ws yX12_common_ cX12_common_ 4 (some .long)) ({ frames := 2, cells := 0, slots := 0, locals := 46 } : Room) G cy sz [] [.long j_0, .long j_1] (fun u : Unit => []) (fun (r : Int64) (u : Unit) => mm_rl r 1 4611686018427387904) 0 0 := by
  refine mm_begin (lv := [(0, .long j_0), (2, .long j_1)]) (by decide) (Nat.le_of_ble_eq_true rfl) rfl ?_
  intro p e s m below meth c A ls R args Q H locs hRe hQ hAe hx hb hr hlocks hml hown hnm hts hsz hA hS hP hK hD hZ hl
  have hRf : R.frames = 2 := by rw [hRe]
  have hRl : R.locals = 46 := by rw [hRe]
  have hRc : R.cells = 0 := by rw [hRe]
  have hRs : R.slots = 0 := by rw [hRe]
  refine lv_lload_n hx hb dX12_common__0 rfl (lv_at hl 1 rfl) ?_
  refine lv_lconst (v := 0) hx hb dX12_common__1 (by decide) ?_
  refine W.lcmp hx hb dX12_common__2 ?_
  refine lv_topi (fun v1 ev1 => ?_)
  refine lv_if_ne (tgt := 10) hx hb dX12_common__3 (by decide) (fun c2 => ?_) (fun c2 => ?_)
  · have q3 := mm_neLl (lo := 1) (mm_cmp_ne ev1 c2) h1 mm_kl0 (by decide) (by decide)
    refine lv_lload_n hx hb dX12_common__10 rfl (lv_at hl 1 rfl) ?_
    refine lv_lload_n hx hb dX12_common__11 rfl (lv_at hl 0 rfl) ?_
    refine lv_lload_n hx hb dX12_common__12 rfl (lv_at hl 1 rfl) ?_
    refine lv_lrem hx hb dX12_common__13 (mm_nzl q3 (by decide)) ?_
    refine lv_topl (fun v4 ev4 => ?_)
    have rv4 : mm_rl v4 0 1 := mm_reml ev4 h0 q3 (by decide) (by decide)
    have w5 := mm_remlLt ev4 h0 q3 (by decide)
    refine mm_finlr (va_runS (As := [.long j_1, .long v4]) (rest := []) ⟨hx, hb, hml, hown, hts⟩ (M160_X12_common_ l G cy H.size j_1 v4 (mm_wkl q3 (by decide)) rv4) (va_cwS 2 hts (mm_gS mm_w1043 mm_w1044 mm_w5 mm_w1045) rfl rfl rfl hs_X12_common_ ⟨by rw [hRf]; exact Nat.le_of_ble_eq_true rfl, by rw [hRl]; exact Nat.le_of_ble_eq_true rfl⟩) (mm_preS hK hZ hS hA hP hD [] rfl rfl) rfl rfl hl.1 rfl (lv_room (Nat.le_of_ble_eq_true rfl)) dX12_common__14 ⟨by rw [hRc]; exact Nat.le_of_ble_eq_true rfl, by rw [hRs]; exact Nat.le_of_ble_eq_true rfl⟩) hP hD hS hA [] rfl (fun _ => rfl) ?_
    clear hP hD hS
    clear H locs
    intro v6 _u H locs hw hP hD hS
    have w7 := hw
    subst hAe
    rw [hQ]
    exact W.lret (v := v6) hx hb hr (fun t ht hW => ⟨⟨v6, (), rfl, w7, by rw [ht]; exact hP, hK.warm hW, hD⟩, hS.F ht⟩) hS.2.2 dX12_common__17
  · have q8 := mm_eqIl (lo := 0) (hi := 0) (mm_cmp_eq ev1 c2) h1 mm_kl0 (by decide)
    refine lv_lload_n hx hb dX12_common__6 rfl (lv_at hl 0 rfl) ?_
    refine lv_goto (tgt := 17) hx hb dX12_common__7 (by decide) ?_
    subst hAe
    rw [hQ]
    exact W.lret (v := j_0) hx hb hr (fun t ht hW => ⟨⟨j_0, (), rfl, (mm_wkl h0 (by decide)), by rw [ht]; exact hP, hK.warm hW, hD⟩, hS.F ht⟩) hS.2.2 dX12_common__17

set_option maxHeartbeats 4000000 in
set_option maxRecDepth 100000 in
theorem M162_X12_common_ (l : Launch) (G : va_G) (cy : Nat → ClassId) (sz : Nat) (j_0 : Int64) (j_1 : Int64) (h0 : mm_rl j_0 1 4611686018427387904) (h1 : mm_rl j_1 0 3)  : mm_CL l yX12_common_ (mm_ws yX12_common_ cX12_common_ 4 (some .long)) ({ frames := 3, cells := 0, slots := 0, locals := 69 } : Room) G cy sz [] [.long j_0, .long j_1] (fun u : Unit => []) (fun (r : Int64) (u : Unit) => mm_rl r 1 4611686018427387904) 0 0 := by
  refine mm_begin (lv := [(0, .long j_0), (2, .long j_1)]) (by decide) (Nat.le_of_ble_eq_true rfl) rfl ?_
  intro p e s m below meth c A ls R args Q H locs hRe hQ hAe hx hb hr hlocks hml hown hnm hts hsz hA hS hP hK hD hZ hl
  have hRf : R.frames = 3 := by rw [hRe]
  have hRl : R.locals = 69 := by rw [hRe]
  have hRc : R.cells = 0 := by rw [hRe]
  have hRs : R.slots = 0 := by rw [hRe]
  refine lv_lload_n hx hb dX12_common__0 rfl (lv_at hl 1 rfl) ?_
  refine lv_lconst (v := 0) hx hb dX12_common__1 (by decide) ?_
  refine W.lcmp hx hb dX12_common__2 ?_
  refine lv_topi (fun v1 ev1 => ?_)
  refine lv_if_ne (tgt := 10) hx hb dX12_common__3 (by decide) (fun c2 => ?_) (fun c2 => ?_)
  · have q3 := mm_neLl (lo := 1) (mm_cmp_ne ev1 c2) h1 mm_kl0 (by decide) (by decide)
    refine lv_lload_n hx hb dX12_common__10 rfl (lv_at hl 1 rfl) ?_
    refine lv_lload_n hx hb dX12_common__11 rfl (lv_at hl 0 rfl) ?_
    refine lv_lload_n hx hb dX12_common__12 rfl (lv_at hl 1 rfl) ?_
    refine lv_lrem hx hb dX12_common__13 (mm_nzl q3 (by decide)) ?_
    refine lv_topl (fun v4 ev4 => ?_)
    have rv4 : mm_rl v4 0 2 := mm_reml ev4 h0 q3 (by decide) (by decide)
    have w5 := mm_remlLt ev4 h0 q3 (by decide)
    refine mm_finlr (va_runS (As := [.long j_1, .long v4]) (rest := []) ⟨hx, hb, hml, hown, hts⟩ (M161_X12_common_ l G cy H.size j_1 v4 q3 rv4 w5) (va_cwS 2 hts (mm_gS mm_w1043 mm_w1044 mm_w5 mm_w1045) rfl rfl rfl hs_X12_common_ ⟨by rw [hRf]; exact Nat.le_of_ble_eq_true rfl, by rw [hRl]; exact Nat.le_of_ble_eq_true rfl⟩) (mm_preS hK hZ hS hA hP hD [] rfl rfl) rfl rfl hl.1 rfl (lv_room (Nat.le_of_ble_eq_true rfl)) dX12_common__14 ⟨by rw [hRc]; exact Nat.le_of_ble_eq_true rfl, by rw [hRs]; exact Nat.le_of_ble_eq_true rfl⟩) hP hD hS hA [] rfl (fun _ => rfl) ?_
    clear hP hD hS
    clear H locs
    intro v6 _u H locs hw hP hD hS
    have w7 := hw
    subst hAe
    rw [hQ]
    exact W.lret (v := v6) hx hb hr (fun t ht hW => ⟨⟨v6, (), rfl, w7, by rw [ht]; exact hP, hK.warm hW, hD⟩, hS.F ht⟩) hS.2.2 dX12_common__17
  · have q8 := mm_eqIl (lo := 0) (hi := 0) (mm_cmp_eq ev1 c2) h1 mm_kl0 (by decide)
    refine lv_lload_n hx hb dX12_common__6 rfl (lv_at hl 0 rfl) ?_
    refine lv_goto (tgt := 17) hx hb dX12_common__7 (by decide) ?_
    subst hAe
    rw [hQ]
    exact W.lret (v := j_0) hx hb hr (fun t ht hW => ⟨⟨j_0, (), rfl, h0, by rw [ht]; exact hP, hK.warm hW, hD⟩, hS.F ht⟩) hS.2.2 dX12_common__17

set_option maxHeartbeats 4000000 in
set_option maxRecDepth 100000 in
theorem M163_X12_common_ (l : Launch) (G : va_G) (cy : Nat → ClassId) (sz : Nat) (j_0 : Int64) (j_1 : Int64) (h0 : mm_rl j_0 1 7) (h1 : mm_rl j_1 0 6) (h2 : (j_1 : Int64).toInt < (j_0 : Int64).toInt)  : mm_CL l yX12_common_ (mm_ws yX12_common_ cX12_common_ 4 (some .long)) ({ frames := 4, cells := 0, slots := 0, locals := 92 } : Room) G cy sz [] [.long j_0, .long j_1] (fun u : Unit => []) (fun (r : Int64) (u : Unit) => mm_rl r 1 4611686018427387904) 0 0 := by
  refine mm_begin (lv := [(0, .long j_0), (2, .long j_1)]) (by decide) (Nat.le_of_ble_eq_true rfl) rfl ?_
  intro p e s m below meth c A ls R args Q H locs hRe hQ hAe hx hb hr hlocks hml hown hnm hts hsz hA hS hP hK hD hZ hl
  have hRf : R.frames = 4 := by rw [hRe]
  have hRl : R.locals = 92 := by rw [hRe]
  have hRc : R.cells = 0 := by rw [hRe]
  have hRs : R.slots = 0 := by rw [hRe]
  refine lv_lload_n hx hb dX12_common__0 rfl (lv_at hl 1 rfl) ?_
  refine lv_lconst (v := 0) hx hb dX12_common__1 (by decide) ?_
  refine W.lcmp hx hb dX12_common__2 ?_
  refine lv_topi (fun v1 ev1 => ?_)
  refine lv_if_ne (tgt := 10) hx hb dX12_common__3 (by decide) (fun c2 => ?_) (fun c2 => ?_)
  · have q3 := mm_neLl (lo := 1) (mm_cmp_ne ev1 c2) h1 mm_kl0 (by decide) (by decide)
    refine lv_lload_n hx hb dX12_common__10 rfl (lv_at hl 1 rfl) ?_
    refine lv_lload_n hx hb dX12_common__11 rfl (lv_at hl 0 rfl) ?_
    refine lv_lload_n hx hb dX12_common__12 rfl (lv_at hl 1 rfl) ?_
    refine lv_lrem hx hb dX12_common__13 (mm_nzl q3 (by decide)) ?_
    refine lv_topl (fun v4 ev4 => ?_)
    have rv4 : mm_rl v4 0 5 := mm_reml ev4 h0 q3 (by decide) (by decide)
    have w5 := mm_remlLt ev4 h0 q3 (by decide)
    have q6 : mm_rl v4 0 3 := mm_remlHalf ev4 (Int.le_of_lt h2) h0 q3 (by decide)
    refine mm_finlr (va_runS (As := [.long j_1, .long v4]) (rest := []) ⟨hx, hb, hml, hown, hts⟩ (M162_X12_common_ l G cy H.size j_1 v4 (mm_wkl q3 (by decide)) q6) (va_cwS 2 hts (mm_gS mm_w1043 mm_w1044 mm_w5 mm_w1045) rfl rfl rfl hs_X12_common_ ⟨by rw [hRf]; exact Nat.le_of_ble_eq_true rfl, by rw [hRl]; exact Nat.le_of_ble_eq_true rfl⟩) (mm_preS hK hZ hS hA hP hD [] rfl rfl) rfl rfl hl.1 rfl (lv_room (Nat.le_of_ble_eq_true rfl)) dX12_common__14 ⟨by rw [hRc]; exact Nat.le_of_ble_eq_true rfl, by rw [hRs]; exact Nat.le_of_ble_eq_true rfl⟩) hP hD hS hA [] rfl (fun _ => rfl) ?_
    clear hP hD hS
    clear H locs
    intro v7 _u H locs hw hP hD hS
    have w8 := hw
    subst hAe
    rw [hQ]
    exact W.lret (v := v7) hx hb hr (fun t ht hW => ⟨⟨v7, (), rfl, w8, by rw [ht]; exact hP, hK.warm hW, hD⟩, hS.F ht⟩) hS.2.2 dX12_common__17
  · have q9 := mm_eqIl (lo := 0) (hi := 0) (mm_cmp_eq ev1 c2) h1 mm_kl0 (by decide)
    refine lv_lload_n hx hb dX12_common__6 rfl (lv_at hl 0 rfl) ?_
    refine lv_goto (tgt := 17) hx hb dX12_common__7 (by decide) ?_
    subst hAe
    rw [hQ]
    exact W.lret (v := j_0) hx hb hr (fun t ht hW => ⟨⟨j_0, (), rfl, (mm_wkl h0 (by decide)), by rw [ht]; exact hP, hK.warm hW, hD⟩, hS.F ht⟩) hS.2.2 dX12_common__17

set_option maxHeartbeats 4000000 in
set_option maxRecDepth 100000 in
theorem M164_X12_common_ (l : Launch) (G : va_G) (cy : Nat → ClassId) (sz : Nat) (j_0 : Int64) (j_1 : Int64) (h0 : mm_rl j_0 1 4611686018427387904) (h1 : mm_rl j_1 0 7)  : mm_CL l yX12_common_ (mm_ws yX12_common_ cX12_common_ 4 (some .long)) ({ frames := 5, cells := 0, slots := 0, locals := 115 } : Room) G cy sz [] [.long j_0, .long j_1] (fun u : Unit => []) (fun (r : Int64) (u : Unit) => mm_rl r 1 4611686018427387904) 0 0 := by
  refine mm_begin (lv := [(0, .long j_0), (2, .long j_1)]) (by decide) (Nat.le_of_ble_eq_true rfl) rfl ?_
  intro p e s m below meth c A ls R args Q H locs hRe hQ hAe hx hb hr hlocks hml hown hnm hts hsz hA hS hP hK hD hZ hl
  have hRf : R.frames = 5 := by rw [hRe]
  have hRl : R.locals = 115 := by rw [hRe]
  have hRc : R.cells = 0 := by rw [hRe]
  have hRs : R.slots = 0 := by rw [hRe]
  refine lv_lload_n hx hb dX12_common__0 rfl (lv_at hl 1 rfl) ?_
  refine lv_lconst (v := 0) hx hb dX12_common__1 (by decide) ?_
  refine W.lcmp hx hb dX12_common__2 ?_
  refine lv_topi (fun v1 ev1 => ?_)
  refine lv_if_ne (tgt := 10) hx hb dX12_common__3 (by decide) (fun c2 => ?_) (fun c2 => ?_)
  · have q3 := mm_neLl (lo := 1) (mm_cmp_ne ev1 c2) h1 mm_kl0 (by decide) (by decide)
    refine lv_lload_n hx hb dX12_common__10 rfl (lv_at hl 1 rfl) ?_
    refine lv_lload_n hx hb dX12_common__11 rfl (lv_at hl 0 rfl) ?_
    refine lv_lload_n hx hb dX12_common__12 rfl (lv_at hl 1 rfl) ?_
    refine lv_lrem hx hb dX12_common__13 (mm_nzl q3 (by decide)) ?_
    refine lv_topl (fun v4 ev4 => ?_)
    have rv4 : mm_rl v4 0 6 := mm_reml ev4 h0 q3 (by decide) (by decide)
    have w5 := mm_remlLt ev4 h0 q3 (by decide)
    refine mm_finlr (va_runS (As := [.long j_1, .long v4]) (rest := []) ⟨hx, hb, hml, hown, hts⟩ (M163_X12_common_ l G cy H.size j_1 v4 q3 rv4 w5) (va_cwS 2 hts (mm_gS mm_w1043 mm_w1044 mm_w5 mm_w1045) rfl rfl rfl hs_X12_common_ ⟨by rw [hRf]; exact Nat.le_of_ble_eq_true rfl, by rw [hRl]; exact Nat.le_of_ble_eq_true rfl⟩) (mm_preS hK hZ hS hA hP hD [] rfl rfl) rfl rfl hl.1 rfl (lv_room (Nat.le_of_ble_eq_true rfl)) dX12_common__14 ⟨by rw [hRc]; exact Nat.le_of_ble_eq_true rfl, by rw [hRs]; exact Nat.le_of_ble_eq_true rfl⟩) hP hD hS hA [] rfl (fun _ => rfl) ?_
    clear hP hD hS
    clear H locs
    intro v6 _u H locs hw hP hD hS
    have w7 := hw
    subst hAe
    rw [hQ]
    exact W.lret (v := v6) hx hb hr (fun t ht hW => ⟨⟨v6, (), rfl, w7, by rw [ht]; exact hP, hK.warm hW, hD⟩, hS.F ht⟩) hS.2.2 dX12_common__17
  · have q8 := mm_eqIl (lo := 0) (hi := 0) (mm_cmp_eq ev1 c2) h1 mm_kl0 (by decide)
    refine lv_lload_n hx hb dX12_common__6 rfl (lv_at hl 0 rfl) ?_
    refine lv_goto (tgt := 17) hx hb dX12_common__7 (by decide) ?_
    subst hAe
    rw [hQ]
    exact W.lret (v := j_0) hx hb hr (fun t ht hW => ⟨⟨j_0, (), rfl, h0, by rw [ht]; exact hP, hK.warm hW, hD⟩, hS.F ht⟩) hS.2.2 dX12_common__17

set_option maxHeartbeats 4000000 in
set_option maxRecDepth 100000 in
theorem M165_X12_common_ (l : Launch) (G : va_G) (cy : Nat → ClassId) (sz : Nat) (j_0 : Int64) (j_1 : Int64) (h0 : mm_rl j_0 1 15) (h1 : mm_rl j_1 0 14) (h2 : (j_1 : Int64).toInt < (j_0 : Int64).toInt)  : mm_CL l yX12_common_ (mm_ws yX12_common_ cX12_common_ 4 (some .long)) ({ frames := 6, cells := 0, slots := 0, locals := 138 } : Room) G cy sz [] [.long j_0, .long j_1] (fun u : Unit => []) (fun (r : Int64) (u : Unit) => mm_rl r 1 4611686018427387904) 0 0 := by
  refine mm_begin (lv := [(0, .long j_0), (2, .long j_1)]) (by decide) (Nat.le_of_ble_eq_true rfl) rfl ?_
  intro p e s m below meth c A ls R args Q H locs hRe hQ hAe hx hb hr hlocks hml hown hnm hts hsz hA hS hP hK hD hZ hl
  have hRf : R.frames = 6 := by rw [hRe]
  have hRl : R.locals = 138 := by rw [hRe]
  have hRc : R.cells = 0 := by rw [hRe]
  have hRs : R.slots = 0 := by rw [hRe]
  refine lv_lload_n hx hb dX12_common__0 rfl (lv_at hl 1 rfl) ?_
  refine lv_lconst (v := 0) hx hb dX12_common__1 (by decide) ?_
  refine W.lcmp hx hb dX12_common__2 ?_
  refine lv_topi (fun v1 ev1 => ?_)
  refine lv_if_ne (tgt := 10) hx hb dX12_common__3 (by decide) (fun c2 => ?_) (fun c2 => ?_)
  · have q3 := mm_neLl (lo := 1) (mm_cmp_ne ev1 c2) h1 mm_kl0 (by decide) (by decide)
    refine lv_lload_n hx hb dX12_common__10 rfl (lv_at hl 1 rfl) ?_
    refine lv_lload_n hx hb dX12_common__11 rfl (lv_at hl 0 rfl) ?_
    refine lv_lload_n hx hb dX12_common__12 rfl (lv_at hl 1 rfl) ?_
    refine lv_lrem hx hb dX12_common__13 (mm_nzl q3 (by decide)) ?_
    refine lv_topl (fun v4 ev4 => ?_)
    have rv4 : mm_rl v4 0 13 := mm_reml ev4 h0 q3 (by decide) (by decide)
    have w5 := mm_remlLt ev4 h0 q3 (by decide)
    have q6 : mm_rl v4 0 7 := mm_remlHalf ev4 (Int.le_of_lt h2) h0 q3 (by decide)
    refine mm_finlr (va_runS (As := [.long j_1, .long v4]) (rest := []) ⟨hx, hb, hml, hown, hts⟩ (M164_X12_common_ l G cy H.size j_1 v4 (mm_wkl q3 (by decide)) q6) (va_cwS 2 hts (mm_gS mm_w1043 mm_w1044 mm_w5 mm_w1045) rfl rfl rfl hs_X12_common_ ⟨by rw [hRf]; exact Nat.le_of_ble_eq_true rfl, by rw [hRl]; exact Nat.le_of_ble_eq_true rfl⟩) (mm_preS hK hZ hS hA hP hD [] rfl rfl) rfl rfl hl.1 rfl (lv_room (Nat.le_of_ble_eq_true rfl)) dX12_common__14 ⟨by rw [hRc]; exact Nat.le_of_ble_eq_true rfl, by rw [hRs]; exact Nat.le_of_ble_eq_true rfl⟩) hP hD hS hA [] rfl (fun _ => rfl) ?_
    clear hP hD hS
    clear H locs
    intro v7 _u H locs hw hP hD hS
    have w8 := hw
    subst hAe
    rw [hQ]
    exact W.lret (v := v7) hx hb hr (fun t ht hW => ⟨⟨v7, (), rfl, w8, by rw [ht]; exact hP, hK.warm hW, hD⟩, hS.F ht⟩) hS.2.2 dX12_common__17
  · have q9 := mm_eqIl (lo := 0) (hi := 0) (mm_cmp_eq ev1 c2) h1 mm_kl0 (by decide)
    refine lv_lload_n hx hb dX12_common__6 rfl (lv_at hl 0 rfl) ?_
    refine lv_goto (tgt := 17) hx hb dX12_common__7 (by decide) ?_
    subst hAe
    rw [hQ]
    exact W.lret (v := j_0) hx hb hr (fun t ht hW => ⟨⟨j_0, (), rfl, (mm_wkl h0 (by decide)), by rw [ht]; exact hP, hK.warm hW, hD⟩, hS.F ht⟩) hS.2.2 dX12_common__17

