theorem dX12_common_0 : decode cX12_common 0 = .ok (.iload_n 1, 1) := by decide +kernel
theorem dX12_common_1 : decode cX12_common 1 = .ok (.ifCond .ne 7, 3) := by decide +kernel
theorem dX12_common_4 : decode cX12_common 4 = .ok (.iload_n 0, 1) := by decide +kernel
theorem dX12_common_5 : decode cX12_common 5 = .ok (.goto 10, 3) := by decide +kernel
theorem dX12_common_8 : decode cX12_common 8 = .ok (.iload_n 1, 1) := by decide +kernel
theorem dX12_common_9 : decode cX12_common 9 = .ok (.iload_n 0, 1) := by decide +kernel
theorem dX12_common_10 : decode cX12_common 10 = .ok (.iload_n 1, 1) := by decide +kernel
theorem dX12_common_11 : decode cX12_common 11 = .ok (.irem, 1) := by decide +kernel
theorem dX12_common_12 : decode cX12_common 12 = .ok (.invokestatic 276, 3) := by decide +kernel
theorem dX12_common_15 : decode cX12_common 15 = .ok (.ireturn, 1) := by decide +kernel
theorem dX12_cycleOf_0 : decode cX12_cycleOf 0 = .ok (.iconst 1, 1) := by decide +kernel
theorem dX12_cycleOf_1 : decode cX12_cycleOf 1 = .ok (.istore_n 3, 1) := by decide +kernel
theorem dX12_cycleOf_2 : decode cX12_cycleOf 2 = .ok (.aload_n 0, 1) := by decide +kernel
theorem dX12_cycleOf_3 : decode cX12_cycleOf 3 = .ok (.iload_n 1, 1) := by decide +kernel
theorem dX12_cycleOf_4 : decode cX12_cycleOf 4 = .ok (.iload_n 2, 1) := by decide +kernel
theorem dX12_cycleOf_5 : decode cX12_cycleOf 5 = .ok (.invokevirtual 273, 3) := by decide +kernel
theorem dX12_cycleOf_8 : decode cX12_cycleOf 8 = .ok (.istore 4, 2) := by decide +kernel
theorem dX12_cycleOf_10 : decode cX12_cycleOf 10 = .ok (.iload 4, 2) := by decide +kernel
theorem dX12_cycleOf_12 : decode cX12_cycleOf 12 = .ok (.iload_n 2, 1) := by decide +kernel
theorem dX12_cycleOf_13 : decode cX12_cycleOf 13 = .ok (.if_icmp .eq 18, 3) := by decide +kernel
theorem dX12_cycleOf_16 : decode cX12_cycleOf 16 = .ok (.iinc 3 1, 3) := by decide +kernel
theorem dX12_cycleOf_19 : decode cX12_cycleOf 19 = .ok (.aload_n 0, 1) := by decide +kernel
theorem dX12_cycleOf_20 : decode cX12_cycleOf 20 = .ok (.iload_n 1, 1) := by decide +kernel
theorem dX12_cycleOf_21 : decode cX12_cycleOf 21 = .ok (.iload 4, 2) := by decide +kernel
theorem dX12_cycleOf_23 : decode cX12_cycleOf 23 = .ok (.invokevirtual 273, 3) := by decide +kernel
theorem dX12_cycleOf_26 : decode cX12_cycleOf 26 = .ok (.istore 4, 2) := by decide +kernel
theorem dX12_cycleOf_28 : decode cX12_cycleOf 28 = .ok (.goto (-18), 3) := by decide +kernel
theorem dX12_cycleOf_31 : decode cX12_cycleOf 31 = .ok (.iload_n 3, 1) := by decide +kernel
theorem dX12_cycleOf_32 : decode cX12_cycleOf 32 = .ok (.ireturn, 1) := by decide +kernel
theorem dX12_isBook_13 : decode cX12_isBook 13 = .ok (.iconst 0, 1) := by decide +kernel
theorem dX12_isRound_0 : decode cX12_isRound 0 = .ok (.iconst 0, 1) := by decide +kernel
theorem dX12_isRound_1 : decode cX12_isRound 1 = .ok (.istore_n 3, 1) := by decide +kernel
theorem dX12_isRound_2 : decode cX12_isRound 2 = .ok (.iload_n 3, 1) := by decide +kernel
theorem dX12_isRound_3 : decode cX12_isRound 3 = .ok (.aload_n 0, 1) := by decide +kernel
theorem dX12_isRound_4 : decode cX12_isRound 4 = .ok (.getfield 62, 3) := by decide +kernel
theorem dX12_isRound_7 : decode cX12_isRound 7 = .ok (.iload_n 1, 1) := by decide +kernel
theorem dX12_isRound_8 : decode cX12_isRound 8 = .ok (.iaload, 1) := by decide +kernel
theorem dX12_isRound_9 : decode cX12_isRound 9 = .ok (.if_icmp .ge 50, 3) := by decide +kernel
theorem dX12_isRound_12 : decode cX12_isRound 12 = .ok (.iconst 0, 1) := by decide +kernel
theorem dX12_isRound_13 : decode cX12_isRound 13 = .ok (.istore 4, 2) := by decide +kernel
theorem dX12_isRound_15 : decode cX12_isRound 15 = .ok (.iload 4, 2) := by decide +kernel
theorem dX12_isRound_17 : decode cX12_isRound 17 = .ok (.aload_n 0, 1) := by decide +kernel
theorem dX12_isRound_18 : decode cX12_isRound 18 = .ok (.invokevirtual 257, 3) := by decide +kernel
theorem dX12_isRound_21 : decode cX12_isRound 21 = .ok (.if_icmp .ge 32, 3) := by decide +kernel
theorem dX12_isRound_24 : decode cX12_isRound 24 = .ok (.aload_n 0, 1) := by decide +kernel
theorem dX12_isRound_25 : decode cX12_isRound 25 = .ok (.iload_n 1, 1) := by decide +kernel
theorem dX12_isRound_26 : decode cX12_isRound 26 = .ok (.iload_n 3, 1) := by decide +kernel
theorem dX12_isRound_27 : decode cX12_isRound 27 = .ok (.iload 4, 2) := by decide +kernel
theorem dX12_isRound_29 : decode cX12_isRound 29 = .ok (.invokevirtual 289, 3) := by decide +kernel
theorem dX12_isRound_32 : decode cX12_isRound 32 = .ok (.aload_n 0, 1) := by decide +kernel
theorem dX12_isRound_33 : decode cX12_isRound 33 = .ok (.iload_n 1, 1) := by decide +kernel
theorem dX12_isRound_34 : decode cX12_isRound 34 = .ok (.iload_n 3, 1) := by decide +kernel
theorem dX12_isRound_35 : decode cX12_isRound 35 = .ok (.iload_n 2, 1) := by decide +kernel
theorem dX12_isRound_36 : decode cX12_isRound 36 = .ok (.iadd, 1) := by decide +kernel
theorem dX12_isRound_37 : decode cX12_isRound 37 = .ok (.iload 4, 2) := by decide +kernel
theorem dX12_isRound_39 : decode cX12_isRound 39 = .ok (.invokevirtual 289, 3) := by decide +kernel
theorem dX12_isRound_42 : decode cX12_isRound 42 = .ok (.if_icmp .eq 5, 3) := by decide +kernel
theorem dX12_isRound_45 : decode cX12_isRound 45 = .ok (.iconst 0, 1) := by decide +kernel
theorem dX12_isRound_46 : decode cX12_isRound 46 = .ok (.ireturn, 1) := by decide +kernel
theorem dX12_isRound_47 : decode cX12_isRound 47 = .ok (.iinc 4 1, 3) := by decide +kernel
theorem dX12_isRound_50 : decode cX12_isRound 50 = .ok (.goto (-35), 3) := by decide +kernel
theorem dX12_isRound_53 : decode cX12_isRound 53 = .ok (.iinc 3 1, 3) := by decide +kernel
theorem dX12_isRound_56 : decode cX12_isRound 56 = .ok (.goto (-54), 3) := by decide +kernel
theorem dX12_isRound_59 : decode cX12_isRound 59 = .ok (.iconst 1, 1) := by decide +kernel
theorem dX12_isRound_60 : decode cX12_isRound 60 = .ok (.ireturn, 1) := by decide +kernel
theorem dX12_isThen_0 : decode cX12_isThen 0 = .ok (.aload_n 0, 1) := by decide +kernel
theorem dX12_isThen_1 : decode cX12_isThen 1 = .ok (.iload_n 1, 1) := by decide +kernel
theorem dX12_isThen_2 : decode cX12_isThen 2 = .ok (.invokevirtual 265, 3) := by decide +kernel
theorem dX12_isThen_5 : decode cX12_isThen 5 = .ok (.ifCond .eq 14, 3) := by decide +kernel
theorem dX12_isThen_8 : decode cX12_isThen 8 = .ok (.iload_n 2, 1) := by decide +kernel
theorem dX12_isThen_9 : decode cX12_isThen 9 = .ok (.invokestatic 268, 3) := by decide +kernel
theorem dX12_isThen_12 : decode cX12_isThen 12 = .ok (.ifCond .eq 7, 3) := by decide +kernel
theorem dX12_isThen_15 : decode cX12_isThen 15 = .ok (.iconst 1, 1) := by decide +kernel
theorem dX12_isThen_16 : decode cX12_isThen 16 = .ok (.goto 4, 3) := by decide +kernel
theorem dX12_isThen_19 : decode cX12_isThen 19 = .ok (.iconst 0, 1) := by decide +kernel
theorem dX12_isThen_20 : decode cX12_isThen 20 = .ok (.ireturn, 1) := by decide +kernel
theorem dX12_means0_0 : decode cX12_means0 0 = .ok (.aload_n 0, 1) := by decide +kernel
theorem dX12_means0_1 : decode cX12_means0 1 = .ok (.getfield 59, 3) := by decide +kernel
theorem dX12_means0_4 : decode cX12_means0 4 = .ok (.sipush 2400, 3) := by decide +kernel
theorem dX12_means0_7 : decode cX12_means0 7 = .ok (.iload_n 1, 1) := by decide +kernel
theorem dX12_means0_8 : decode cX12_means0 8 = .ok (.imul, 1) := by decide +kernel
theorem dX12_means0_9 : decode cX12_means0 9 = .ok (.bipush 10, 2) := by decide +kernel
theorem dX12_means0_11 : decode cX12_means0 11 = .ok (.iload_n 2, 1) := by decide +kernel
theorem dX12_means0_12 : decode cX12_means0 12 = .ok (.aload_n 0, 1) := by decide +kernel
theorem dX12_means0_13 : decode cX12_means0 13 = .ok (.getfield 62, 3) := by decide +kernel
theorem dX12_means0_16 : decode cX12_means0 16 = .ok (.iload_n 1, 1) := by decide +kernel
theorem dX12_means0_17 : decode cX12_means0 17 = .ok (.iaload, 1) := by decide +kernel
theorem dX12_means0_18 : decode cX12_means0 18 = .ok (.irem, 1) := by decide +kernel
theorem dX12_means0_19 : decode cX12_means0 19 = .ok (.imul, 1) := by decide +kernel
theorem dX12_means0_20 : decode cX12_means0 20 = .ok (.iadd, 1) := by decide +kernel
theorem dX12_means0_21 : decode cX12_means0 21 = .ok (.iload_n 3, 1) := by decide +kernel
theorem dX12_means0_22 : decode cX12_means0 22 = .ok (.iadd, 1) := by decide +kernel
theorem dX12_means0_23 : decode cX12_means0 23 = .ok (.iaload, 1) := by decide +kernel
theorem dX12_means0_24 : decode cX12_means0 24 = .ok (.ireturn, 1) := by decide +kernel
theorem dX12_orderOf_0 : decode cX12_orderOf 0 = .ok (.iconst 1, 1) := by decide +kernel
theorem dX12_orderOf_1 : decode cX12_orderOf 1 = .ok (.istore_n 2, 1) := by decide +kernel
theorem dX12_orderOf_2 : decode cX12_orderOf 2 = .ok (.iconst 0, 1) := by decide +kernel
theorem dX12_orderOf_3 : decode cX12_orderOf 3 = .ok (.istore_n 3, 1) := by decide +kernel
theorem dX12_orderOf_4 : decode cX12_orderOf 4 = .ok (.iload_n 3, 1) := by decide +kernel
theorem dX12_orderOf_5 : decode cX12_orderOf 5 = .ok (.aload_n 0, 1) := by decide +kernel
theorem dX12_orderOf_6 : decode cX12_orderOf 6 = .ok (.invokevirtual 257, 3) := by decide +kernel
theorem dX12_orderOf_9 : decode cX12_orderOf 9 = .ok (.if_icmp .ge 29, 3) := by decide +kernel
theorem dX12_orderOf_12 : decode cX12_orderOf 12 = .ok (.iload_n 2, 1) := by decide +kernel
theorem dX12_orderOf_13 : decode cX12_orderOf 13 = .ok (.iload_n 2, 1) := by decide +kernel
theorem dX12_orderOf_14 : decode cX12_orderOf 14 = .ok (.aload_n 0, 1) := by decide +kernel
theorem dX12_orderOf_15 : decode cX12_orderOf 15 = .ok (.iload_n 1, 1) := by decide +kernel
theorem dX12_orderOf_16 : decode cX12_orderOf 16 = .ok (.iload_n 3, 1) := by decide +kernel
theorem dX12_orderOf_17 : decode cX12_orderOf 17 = .ok (.invokevirtual 279, 3) := by decide +kernel
theorem dX12_orderOf_20 : decode cX12_orderOf 20 = .ok (.invokestatic 276, 3) := by decide +kernel
theorem dX12_orderOf_23 : decode cX12_orderOf 23 = .ok (.idiv, 1) := by decide +kernel
theorem dX12_orderOf_24 : decode cX12_orderOf 24 = .ok (.aload_n 0, 1) := by decide +kernel
theorem dX12_orderOf_25 : decode cX12_orderOf 25 = .ok (.iload_n 1, 1) := by decide +kernel
theorem dX12_orderOf_26 : decode cX12_orderOf 26 = .ok (.iload_n 3, 1) := by decide +kernel
theorem dX12_orderOf_27 : decode cX12_orderOf 27 = .ok (.invokevirtual 279, 3) := by decide +kernel
theorem dX12_orderOf_30 : decode cX12_orderOf 30 = .ok (.imul, 1) := by decide +kernel
theorem dX12_orderOf_31 : decode cX12_orderOf 31 = .ok (.istore_n 2, 1) := by decide +kernel
theorem dX12_orderOf_32 : decode cX12_orderOf 32 = .ok (.iinc 3 1, 3) := by decide +kernel
theorem dX12_orderOf_35 : decode cX12_orderOf 35 = .ok (.goto (-31), 3) := by decide +kernel
theorem dX12_orderOf_38 : decode cX12_orderOf 38 = .ok (.iload_n 2, 1) := by decide +kernel
theorem dX12_orderOf_39 : decode cX12_orderOf 39 = .ok (.ireturn, 1) := by decide +kernel
theorem dX12_turnOf_0 : decode cX12_turnOf 0 = .ok (.iload_n 2, 1) := by decide +kernel
theorem dX12_turnOf_1 : decode cX12_turnOf 1 = .ok (.istore_n 3, 1) := by decide +kernel
theorem dX12_turnOf_2 : decode cX12_turnOf 2 = .ok (.aload_n 0, 1) := by decide +kernel
theorem dX12_turnOf_3 : decode cX12_turnOf 3 = .ok (.getfield 40, 3) := by decide +kernel
theorem dX12_turnOf_6 : decode cX12_turnOf 6 = .ok (.iload_n 1, 1) := by decide +kernel
theorem dX12_turnOf_7 : decode cX12_turnOf 7 = .ok (.iaload, 1) := by decide +kernel
theorem dX12_turnOf_8 : decode cX12_turnOf 8 = .ok (.iconst 1, 1) := by decide +kernel
theorem dX12_turnOf_9 : decode cX12_turnOf 9 = .ok (.isub, 1) := by decide +kernel
theorem dX12_turnOf_10 : decode cX12_turnOf 10 = .ok (.istore 4, 2) := by decide +kernel
theorem dX12_turnOf_12 : decode cX12_turnOf 12 = .ok (.iload 4, 2) := by decide +kernel
theorem dX12_turnOf_14 : decode cX12_turnOf 14 = .ok (.ifCond .lt 27, 3) := by decide +kernel
theorem dX12_turnOf_17 : decode cX12_turnOf 17 = .ok (.aload_n 0, 1) := by decide +kernel
theorem dX12_turnOf_18 : decode cX12_turnOf 18 = .ok (.getfield 43, 3) := by decide +kernel
theorem dX12_turnOf_21 : decode cX12_turnOf 21 = .ok (.bipush 10, 2) := by decide +kernel
theorem dX12_turnOf_23 : decode cX12_turnOf 23 = .ok (.bipush 7, 2) := by decide +kernel
theorem dX12_turnOf_25 : decode cX12_turnOf 25 = .ok (.iload_n 1, 1) := by decide +kernel
theorem dX12_turnOf_26 : decode cX12_turnOf 26 = .ok (.imul, 1) := by decide +kernel
theorem dX12_turnOf_27 : decode cX12_turnOf 27 = .ok (.iload 4, 2) := by decide +kernel
theorem dX12_turnOf_29 : decode cX12_turnOf 29 = .ok (.iadd, 1) := by decide +kernel
theorem dX12_turnOf_30 : decode cX12_turnOf 30 = .ok (.imul, 1) := by decide +kernel
theorem dX12_turnOf_31 : decode cX12_turnOf 31 = .ok (.iload_n 3, 1) := by decide +kernel
theorem dX12_turnOf_32 : decode cX12_turnOf 32 = .ok (.iadd, 1) := by decide +kernel
theorem dX12_turnOf_33 : decode cX12_turnOf 33 = .ok (.iaload, 1) := by decide +kernel
theorem dX12_turnOf_34 : decode cX12_turnOf 34 = .ok (.istore_n 3, 1) := by decide +kernel
theorem dX12_turnOf_35 : decode cX12_turnOf 35 = .ok (.iinc 4 (-1), 3) := by decide +kernel
theorem dX12_turnOf_38 : decode cX12_turnOf 38 = .ok (.goto (-26), 3) := by decide +kernel
theorem dX12_turnOf_41 : decode cX12_turnOf 41 = .ok (.iload_n 3, 1) := by decide +kernel
theorem dX12_turnOf_42 : decode cX12_turnOf 42 = .ok (.ireturn, 1) := by decide +kernel
theorem dX12_words_16 : decode cX12_words 16 = .ok (.iconst 0, 1) := by decide +kernel
theorem mm_k2400 : mm_rg 2400 2400 2400 := ⟨by decide, by decide⟩
theorem hd_X12_cycleOf : yX12_cycleOf.cls = RX12 ∧ yX12_cycleOf.cls ≠ "java/lang/invoke/MethodHandle" ∧ yX12_cycleOf.cls ≠ "java/lang/invoke/VarHandle" ∧ (parseMethodDescriptor yX12_cycleOf.desc).map (fun d => d.parameters.length) = some 2 := by decide +kernel
theorem hd_X12_means0 : yX12_means0.cls = RX12 ∧ yX12_means0.cls ≠ "java/lang/invoke/MethodHandle" ∧ yX12_means0.cls ≠ "java/lang/invoke/VarHandle" ∧ (parseMethodDescriptor yX12_means0.desc).map (fun d => d.parameters.length) = some 3 := by decide +kernel
theorem hd_X12_turnOf : yX12_turnOf.cls = RX12 ∧ yX12_turnOf.cls ≠ "java/lang/invoke/MethodHandle" ∧ yX12_turnOf.cls ≠ "java/lang/invoke/VarHandle" ∧ (parseMethodDescriptor yX12_turnOf.desc).map (fun d => d.parameters.length) = some 2 := by decide +kernel
theorem hs_X12_common : yX12_common.cls ≠ "java/lang/invoke/MethodHandle" ∧ yX12_common.cls ≠ "java/lang/invoke/VarHandle" ∧ (parseMethodDescriptor yX12_common.desc).map (fun d => d.parameters.length) = some 2 := by decide +kernel
theorem hs_X12_isDay : yX12_isDay.cls ≠ "java/lang/invoke/MethodHandle" ∧ yX12_isDay.cls ≠ "java/lang/invoke/VarHandle" ∧ (parseMethodDescriptor yX12_isDay.desc).map (fun d => d.parameters.length) = some 1 := by decide +kernel
set_option maxHeartbeats 4000000 in
set_option maxRecDepth 100000 in
theorem M104_X12_isThen (l : Launch) (G : va_G) (cy : Nat → ClassId) (sz : Nat) (a_0 : Nat) (i_0 : Int32) (i_1 : Int32) (i_2 : Int32) (a_1 : Nat) (a_2 : Nat) (a_3 : Nat) (a_4 : Nat) (a_5 : Nat) (i_3 : Int32) (i_4 : Int32) (i_5 : Int32) (i_6 : Int32) (i_7 : Int32) (j_0 : Int64) (i_8 : Int32) (i_9 : Int32) (i_10 : Int32) (i_11 : Int32) (a_6 : Nat) (a_7 : Nat) (a_8 : Nat) (a_9 : Nat) (a_10 : Nat) (a_11 : Nat) (a_12 : Nat) (a_13 : Nat) (a_14 : Nat) (a_15 : Nat) (a_16 : Nat) (a_17 : Nat) (a_18 : Nat) (i_12 : Int32) (i_13 : Int32) (i_14 : Int32) (i_15 : Int32) (i_16 : Int32) (i_17 : Int32) (a_19 : Nat) (i_18 : Int32) (a_20 : Nat) (i_19 : Int32) (i_20 : Int32) (i_21 : Int32) (i_22 : Int32) (i_23 : Int32) (i_24 : Int32) (i_25 : Int32) (i_26 : Int32) (i_27 : Int32) (i_28 : Int32) (i_29 : Int32) (i_30 : Int32) (i_31 : Int32) (i_32 : Int32) (i_33 : Int32) (i_34 : Int32) (i_35 : Int32) (i_36 : Int32) (i_37 : Int32) (i_38 : Int32) (i_39 : Int32) (i_40 : Int32) (i_41 : Int32) (i_42 : Int32) (i_43 : Int32) (i_44 : Int32) (i_45 : Int32) (i_46 : Int32) (i_47 : Int32) (i_48 : Int32) (h0 : mm_rg i_19 0 10) (h1 : mm_rg i_20 0 99) (h2 : mm_rg i_21 0 9) (h3 : mm_rg i_22 0 3) (h4 : mm_rg i_23 0 6) (h5 : mm_rg i_24 0 30) (h6 : mm_rg i_25 0 10) (h7 : mm_rg i_26 0 99) (h8 : mm_rg i_27 0 9) (h9 : mm_rg i_28 0 3) (h10 : mm_rg i_29 0 6) (h11 : mm_rg i_30 0 30) (h12 : mm_rg i_31 0 10) (h13 : mm_rg i_32 0 99) (h14 : mm_rg i_33 0 9) (h15 : mm_rg i_34 0 3) (h16 : mm_rg i_35 0 6) (h17 : mm_rg i_36 0 30) (h18 : mm_rg i_37 0 10) (h19 : mm_rg i_38 0 99) (h20 : mm_rg i_39 0 9) (h21 : mm_rg i_40 0 3) (h22 : mm_rg i_41 0 6) (h23 : mm_rg i_42 0 30) (h24 : mm_rg i_43 0 10) (h25 : mm_rg i_44 0 99) (h26 : mm_rg i_45 0 9) (h27 : mm_rg i_46 0 3) (h28 : mm_rg i_47 0 6) (h29 : mm_rg i_48 0 30)  : mm_CI l yX12_isThen (mm_ws yX12_isThen cX12_isThen 3 (some .boolean)) ({ frames := 2, cells := 0, slots := 0, locals := 46 } : Room) G cy sz [(a_0, .inr (12, [.int i_2, .ref a_1, .ref a_2, .ref a_3, .ref a_4, .ref a_5, .int i_3, .int i_4, .int i_5, .int i_6, .int i_7, .long j_0, .int i_8, .int i_9, .int i_10, .int i_11, .ref a_6, .ref a_7, .ref a_8, .ref a_9, .ref a_10, .ref a_11, .ref a_12, .ref a_13, .ref a_14, .ref a_15, .ref a_16, .ref a_17, .ref a_18, .int i_12, .int i_13, .int i_14, .int i_15, .int i_16, .int i_17, .ref a_19, .int i_18, .ref a_20])), (a_7, .inl (cy 1, 30, .inl (mm_g [i_19, i_20, i_21, i_22, i_23, i_24, i_25, i_26, i_27, i_28, i_29, i_30, i_31, i_32, i_33, i_34, i_35, i_36, i_37, i_38, i_39, i_40, i_41, i_42, i_43, i_44, i_45, i_46, i_47, i_48])))] [.ref a_0, .int i_0, .int i_1] (fun u : Unit => [(a_0, .inr (12, [.int i_2, .ref a_1, .ref a_2, .ref a_3, .ref a_4, .ref a_5, .int i_3, .int i_4, .int i_5, .int i_6, .int i_7, .long j_0, .int i_8, .int i_9, .int i_10, .int i_11, .ref a_6, .ref a_7, .ref a_8, .ref a_9, .ref a_10, .ref a_11, .ref a_12, .ref a_13, .ref a_14, .ref a_15, .ref a_16, .ref a_17, .ref a_18, .int i_12, .int i_13, .int i_14, .int i_15, .int i_16, .int i_17, .ref a_19, .int i_18, .ref a_20])), (a_7, .inl (cy 1, 30, .inl (mm_g [i_19, i_20, i_21, i_22, i_23, i_24, i_25, i_26, i_27, i_28, i_29, i_30, i_31, i_32, i_33, i_34, i_35, i_36, i_37, i_38, i_39, i_40, i_41, i_42, i_43, i_44, i_45, i_46, i_47, i_48])))]) (fun (r : Int32) (u : Unit) => ((0 = r) ∨ (1 = r ∧ mm_rg i_0 0 2 ∧ mm_rg i_1 0 1000000000 ∧ (i_0 : Int32).toInt < (i_22 : Int32).toInt))) 0 0 := by
  refine mm_begin (lv := [(0, .ref a_0), (1, .int i_0), (2, .int i_1)]) (by decide) (Nat.le_of_ble_eq_true rfl) rfl ?_
  intro p e s m below meth c A ls R args Q H locs hRe hQ hAe hx hb hr hlocks hml hown hnm hts hsz hA hS hP hK hD hZ hl
  have hRf : R.frames = 2 := by rw [hRe]
  have hRl : R.locals = 46 := by rw [hRe]
  have hRc : R.cells = 0 := by rw [hRe]
  have hRs : R.slots = 0 := by rw [hRe]
  refine lv_aload_n hx hb dX12_isThen_0 rfl (lv_at hl 0 rfl) ?_
  refine lv_iload_n hx hb dX12_isThen_1 rfl (lv_at hl 1 rfl) ?_
  refine mm_finir (va_runV (As := [.int i_0]) (rest := []) ⟨hx, hb, hml, hown, hts⟩ (M98_X12_isLand l G cy H.size a_0 i_0 i_2 a_1 a_2 a_3 a_4 a_5 i_3 i_4 i_5 i_6 i_7 j_0 i_8 i_9 i_10 i_11 a_6 a_7 a_8 a_9 a_10 a_11 a_12 a_13 a_14 a_15 a_16 a_17 a_18 i_12 i_13 i_14 i_15 i_16 i_17 a_19 i_18 a_20 i_19 i_20 i_21 i_22 i_23 i_24 i_25 i_26 i_27 i_28 i_29 i_30 i_31 i_32 i_33 i_34 i_35 i_36 i_37 i_38 i_39 i_40 i_41 i_42 i_43 i_44 i_45 i_46 i_47 i_48 h0 h1 h2 h3 h4 h5 h6 h7 h8 h9 h10 h11 h12 h13 h14 h15 h16 h17 h18 h19 h20 h21 h22 h23 h24 h25 h26 h27 h28 h29) (cwV 1 hts (mm_gV mm_w641 mm_w642 mm_w643 mm_w5 mm_w644) rfl rfl rfl hd_X12_isLand ⟨by rw [hRf]; exact Nat.le_of_ble_eq_true rfl, by rw [hRl]; exact Nat.le_of_ble_eq_true rfl⟩) (mm_preV hK hZ hS hA hP hD [0, 1] rfl rfl 0 rfl rfl rfl) rfl rfl hl.1 rfl (lv_room (Nat.le_of_ble_eq_true rfl)) dX12_isThen_2 ⟨by rw [hRc]; exact Nat.le_of_ble_eq_true rfl, by rw [hRs]; exact Nat.le_of_ble_eq_true rfl⟩) hP hD hS hA [0, 1] rfl (fun _ => rfl) ?_
  clear hP hD hS
  clear H locs
  intro v1 _u H locs hw hP hD hS
  rcases hw with rfl | ⟨rfl, w2, w3⟩
  · refine lv_if_eq (tgt := 19) hx hb dX12_isThen_5 (by decide) (fun c4 => ?_) (fun c4 => ?_)
    · refine lv_iconst (v := 0) hx hb dX12_isThen_19 (by decide) ?_
      subst hAe
      rw [hQ]
      exact W.zret (v := 0) hx hb hr rfl (fun t ht hW => ⟨⟨0, (), rfl, (Or.inl rfl), by rw [ht]; exact hP, hK.warm hW, hD⟩, hS.F ht⟩) hS.2.2 dX12_isThen_20
    · have q5 := mm_neL (lo := 1) (mm_ne c4) mm_k0 mm_k0 (by decide) (by decide)
      exact mm_no q5 (by decide)
  · have q6 := mm_ltR (lo := 1) w3 w2 h3 (by decide)
    refine lv_if_eq (tgt := 19) hx hb dX12_isThen_5 (by decide) (fun c7 => ?_) (fun c7 => ?_)
    · exact mm_eqN c7.symm mm_k0 mm_k1 (by decide)
    · refine lv_iload_n hx hb dX12_isThen_8 rfl (lv_at hl 2 rfl) ?_
      refine mm_finir (va_runS (As := [.int i_1]) (rest := []) ⟨hx, hb, hml, hown, hts⟩ (M103_X12_isDay l G cy H.size i_1 ) (va_cwS 1 hts (mm_gS mm_w682 mm_w683 mm_w5 mm_w684) rfl rfl rfl hs_X12_isDay ⟨by rw [hRf]; exact Nat.le_of_ble_eq_true rfl, by rw [hRl]; exact Nat.le_of_ble_eq_true rfl⟩) (mm_preS hK hZ hS hA hP hD [] rfl rfl) rfl rfl hl.1 rfl (lv_room (Nat.le_of_ble_eq_true rfl)) dX12_isThen_9 ⟨by rw [hRc]; exact Nat.le_of_ble_eq_true rfl, by rw [hRs]; exact Nat.le_of_ble_eq_true rfl⟩) hP hD hS hA [] rfl (fun _ => rfl) ?_
      clear hP hD hS
      clear H locs
      intro v8 _u H locs hw hP hD hS
      rcases hw with rfl | ⟨rfl, w9⟩
      · refine lv_if_eq (tgt := 19) hx hb dX12_isThen_12 (by decide) (fun c10 => ?_) (fun c10 => ?_)
        · refine lv_iconst (v := 0) hx hb dX12_isThen_19 (by decide) ?_
          subst hAe
          rw [hQ]
          exact W.zret (v := 0) hx hb hr rfl (fun t ht hW => ⟨⟨0, (), rfl, (Or.inl rfl), by rw [ht]; exact hP, hK.warm hW, hD⟩, hS.F ht⟩) hS.2.2 dX12_isThen_20
        · have q11 := mm_neL (lo := 1) (mm_ne c10) mm_k0 mm_k0 (by decide) (by decide)
          exact mm_no q11 (by decide)
      · refine lv_if_eq (tgt := 19) hx hb dX12_isThen_12 (by decide) (fun c12 => ?_) (fun c12 => ?_)
        · exact mm_eqN c12.symm mm_k0 mm_k1 (by decide)
        · refine lv_iconst (v := 1) hx hb dX12_isThen_15 (by decide) ?_
          refine lv_goto (tgt := 20) hx hb dX12_isThen_16 (by decide) ?_
          subst hAe
          rw [hQ]
          exact W.zret (v := 1) hx hb hr rfl (fun t ht hW => ⟨⟨1, (), rfl, (Or.inr ⟨rfl, w2, w9, w3⟩), by rw [ht]; exact hP, hK.warm hW, hD⟩, hS.F ht⟩) hS.2.2 dX12_isThen_20

set_option maxHeartbeats 4000000 in
set_option maxRecDepth 100000 in
theorem M105_X12_turnOf (l : Launch) (G : va_G) (cy : Nat → ClassId) (sz : Nat) (a_0 : Nat) (i_0 : Int32) (i_1 : Int32) (i_2 : Int32) (a_1 : Nat) (a_2 : Nat) (a_3 : Nat) (a_4 : Nat) (a_5 : Nat) (i_3 : Int32) (i_4 : Int32) (i_5 : Int32) (i_6 : Int32) (i_7 : Int32) (j_0 : Int64) (i_8 : Int32) (i_9 : Int32) (i_10 : Int32) (i_11 : Int32) (a_6 : Nat) (a_7 : Nat) (a_8 : Nat) (a_9 : Nat) (a_10 : Nat) (a_11 : Nat) (a_12 : Nat) (a_13 : Nat) (a_14 : Nat) (a_15 : Nat) (a_16 : Nat) (a_17 : Nat) (a_18 : Nat) (i_12 : Int32) (i_13 : Int32) (i_14 : Int32) (i_15 : Int32) (i_16 : Int32) (i_17 : Int32) (a_19 : Nat) (i_18 : Int32) (a_20 : Nat) (f_0 : Nat → Int32) (f_1 : Nat → Int32) (h0 : mm_rg i_0 0 2) (h1 : mm_rg i_1 0 9) (h2 : mm_ar f_0 0 7) (h3 : mm_ar f_1 0 9)  : mm_CI l yX12_turnOf (mm_ws yX12_turnOf cX12_turnOf 5 (some .int)) ({ frames := 0, cells := 0, slots := 0, locals := 0 } : Room) G cy sz [(a_0, .inr (12, [.int i_2, .ref a_1, .ref a_2, .ref a_3, .ref a_4, .ref a_5, .int i_3, .int i_4, .int i_5, .int i_6, .int i_7, .long j_0, .int i_8, .int i_9, .int i_10, .int i_11, .ref a_6, .ref a_7, .ref a_8, .ref a_9, .ref a_10, .ref a_11, .ref a_12, .ref a_13, .ref a_14, .ref a_15, .ref a_16, .ref a_17, .ref a_18, .int i_12, .int i_13, .int i_14, .int i_15, .int i_16, .int i_17, .ref a_19, .int i_18, .ref a_20])), (a_9, .inl (cy 1, 15, .inl f_0)), (a_10, .inl (cy 1, 1050, .inl f_1))] [.ref a_0, .int i_0, .int i_1] (fun u : Unit => [(a_0, .inr (12, [.int i_2, .ref a_1, .ref a_2, .ref a_3, .ref a_4, .ref a_5, .int i_3, .int i_4, .int i_5, .int i_6, .int i_7, .long j_0, .int i_8, .int i_9, .int i_10, .int i_11, .ref a_6, .ref a_7, .ref a_8, .ref a_9, .ref a_10, .ref a_11, .ref a_12, .ref a_13, .ref a_14, .ref a_15, .ref a_16, .ref a_17, .ref a_18, .int i_12, .int i_13, .int i_14, .int i_15, .int i_16, .int i_17, .ref a_19, .int i_18, .ref a_20])), (a_9, .inl (cy 1, 15, .inl f_0)), (a_10, .inl (cy 1, 1050, .inl f_1))]) (fun (r : Int32) (u : Unit) => mm_rg r 0 9 ∧ mm_tr f_0 f_1 i_0 i_1 r) 0 0 := by
  refine mm_begin (lv := [(0, .ref a_0), (1, .int i_0), (2, .int i_1)]) (by decide) (Nat.le_of_ble_eq_true rfl) rfl ?_
  intro p e s m below meth c A ls R args Q H locs hRe hQ hAe hx hb hr hlocks hml hown hnm hts hsz hA hS hP hK hD hZ hl
  have hRf : R.frames = 0 := by rw [hRe]
  have hRl : R.locals = 0 := by rw [hRe]
  have hRc : R.cells = 0 := by rw [hRe]
  have hRs : R.slots = 0 := by rw [hRe]
  refine lv_iload_n hx hb dX12_turnOf_0 rfl (lv_at hl 2 rfl) ?_
  refine lv_istore_n (lv' := [(3, .int i_1), (0, .ref a_0), (1, .int i_0), (2, .int i_1)]) hx hb dX12_turnOf_1 rfl hl (by decide) rfl ?_
  clear hl
  clear ls
  intro ls hl
  refine lv_aload_n hx hb dX12_turnOf_2 rfl (lv_at hl 1 rfl) ?_
  refine va_get (D := G) (ci := 12) (v := .ref a_9) (C := RX12) (T := TX12) (N := 38) hx hb hts (mm_i inlX12) hown hK.1 hP 0 rfl rfl 19 (by decide) (mm_h hts mm_w151) (fun _ h9 => h9) rfl dX12_turnOf_3 ?_
  refine lv_iload_n hx hb dX12_turnOf_6 rfl (lv_at hl 2 rfl) ?_
  refine va_iald hx hb hK.1 hP 1 1 rfl rfl (mm_in h0 (by decide)) dX12_turnOf_7 ?_
  refine lv_topi (fun v1 ev1 => ?_)
  have rv1 : mm_rg v1 0 7 := mm_eqv ev1 (h2 _)
  refine lv_iconst (v := 1) hx hb dX12_turnOf_8 (by decide) ?_
  refine lv_isub hx hb dX12_turnOf_9 ?_
  refine lv_topi (fun v2 ev2 => ?_)
  have rv2 : mm_rg v2 (-1) 6 := mm_sub ev2 rv1 mm_k1 (by decide) (by decide)
  have tv2 := mm_subEc ev2 rv1 mm_k1 (by decide) (k := (-1)) (by decide)
  refine lv_istore (lv' := [(4, .int v2), (3, .int i_1), (0, .ref a_0), (1, .int i_0), (2, .int i_1)]) hx hb dX12_turnOf_10 hl (by decide) rfl ?_
  clear hl
  clear ls
  intro ls hl
  have L12_25 : ∀ (n : Nat) (x12_4_23 : Int32) (x12_3_24 : Int32), mm_rg x12_4_23 (-1) 6 → mm_rg x12_3_24 0 9 → mm_tri f_0 f_1 i_0 i_1 x12_4_23 x12_3_24 → (x12_4_23.toInt - (-1)).toNat < n → ∀ (H : Heap) (locs : List Loc), va_P G vwCl [(a_0, .inr (12, [.int i_2, .ref a_1, .ref a_2, .ref a_3, .ref a_4, .ref a_5, .int i_3, .int i_4, .int i_5, .int i_6, .int i_7, .long j_0, .int i_8, .int i_9, .int i_10, .int i_11, .ref a_6, .ref a_7, .ref a_8, .ref a_9, .ref a_10, .ref a_11, .ref a_12, .ref a_13, .ref a_14, .ref a_15, .ref a_16, .ref a_17, .ref a_18, .int i_12, .int i_13, .int i_14, .int i_15, .int i_16, .int i_17, .ref a_19, .int i_18, .ref a_20])), (a_9, .inl (cy 1, 15, .inl f_0)), (a_10, .inl (cy 1, 1050, .inl f_1))] H → va_D A [(a_0, .inr (12, [.int i_2, .ref a_1, .ref a_2, .ref a_3, .ref a_4, .ref a_5, .int i_3, .int i_4, .int i_5, .int i_6, .int i_7, .long j_0, .int i_8, .int i_9, .int i_10, .int i_11, .ref a_6, .ref a_7, .ref a_8, .ref a_9, .ref a_10, .ref a_11, .ref a_12, .ref a_13, .ref a_14, .ref a_15, .ref a_16, .ref a_17, .ref a_18, .int i_12, .int i_13, .int i_14, .int i_15, .int i_16, .int i_17, .ref a_19, .int i_18, .ref a_20])), (a_9, .inl (cy 1, 15, .inl f_0)), (a_10, .inl (cy 1, 1050, .inl f_1))] → va_S A s.heap H locs → ∀ (ls : Array Slot), lv_has ls 5 [(4, .int x12_4_23), (3, .int x12_3_24), (0, .ref a_0), (1, .int i_0), (2, .int i_1)] → W p l e R s m args below meth c H locs 0 0 Q (F0 m 12 ls []) := by
    intro n
    induction n with
    | zero => intro x12_4_23 x12_3_24 rx12_4_23 rx12_3_24 w25 hm; exact absurd hm (Nat.not_lt_zero _)
    | succ n ih12 =>
      intro x12_4_23 x12_3_24 rx12_4_23 rx12_3_24 w25 hm12 H locs hP hD hS ls hl
      refine lv_iload hx hb dX12_turnOf_12 (lv_at hl 0 rfl) ?_
      refine lv_if_lt (tgt := 41) hx hb dX12_turnOf_14 (by decide) (fun c27 => ?_) (fun c27 => ?_)
      · have q28 := mm_ltL (h := (-1)) (mm_lt c27) rx12_4_23 mm_k0 (by decide)
        refine lv_iload_n hx hb dX12_turnOf_41 rfl (lv_at hl 1 rfl) ?_
        have w29 : mm_tr f_0 f_1 i_0 i_1 x12_3_24 := (mm_tr_of w25 q28 (by decide))
        subst hAe
        rw [hQ]
        exact W.iret (v := x12_3_24) hx hb hr (fun t ht hW => ⟨⟨x12_3_24, (), rfl, ⟨rx12_3_24, w29⟩, by rw [ht]; exact hP, hK.warm hW, hD⟩, hS.F ht⟩) hS.2.2 dX12_turnOf_42
      · have q30 := mm_leR (mm_nlt c27) mm_k0 rx12_4_23
        refine lv_aload_n hx hb dX12_turnOf_17 rfl (lv_at hl 2 rfl) ?_
        refine va_get (D := G) (ci := 12) (v := .ref a_10) (C := RX12) (T := TX12) (N := 38) hx hb hts (mm_i inlX12) hown hK.1 hP 0 rfl rfl 20 (by decide) (mm_h hts mm_w152) (fun _ h9 => h9) rfl dX12_turnOf_18 ?_
        refine lv_bipush (v := 10) hx hb dX12_turnOf_21 (by decide) ?_
        refine lv_bipush (v := 7) hx hb dX12_turnOf_23 (by decide) ?_
        refine lv_iload_n hx hb dX12_turnOf_25 rfl (lv_at hl 3 rfl) ?_
        refine lv_imul hx hb dX12_turnOf_26 ?_
        refine lv_topi (fun v31 ev31 => ?_)
        have rv31 : mm_rg v31 0 14 := mm_mul ev31 mm_k7 h0 (by decide) (by decide)
        have tv31 := mm_mulEc ev31 mm_k7 h0 (by decide) (k := 7) (by decide)
        refine lv_iload hx hb dX12_turnOf_27 (lv_at hl 0 rfl) ?_
        refine lv_iadd hx hb dX12_turnOf_29 ?_
        refine lv_topi (fun v32 ev32 => ?_)
        have rv32 : mm_rg v32 0 20 := mm_add ev32 rv31 q30 (by decide) (by decide)
        have tv32 := mm_addE ev32 rv31 q30 (by decide)
        refine lv_imul hx hb dX12_turnOf_30 ?_
        refine lv_topi (fun v33 ev33 => ?_)
        have rv33 : mm_rg v33 0 200 := mm_mul ev33 mm_k10 rv32 (by decide) (by decide)
        have tv33 := mm_mulEc ev33 mm_k10 rv32 (by decide) (k := 10) (by decide)
        refine lv_iload_n hx hb dX12_turnOf_31 rfl (lv_at hl 1 rfl) ?_
        refine lv_iadd hx hb dX12_turnOf_32 ?_
        refine lv_topi (fun v34 ev34 => ?_)
        have rv34 : mm_rg v34 0 209 := mm_add ev34 rv33 rx12_3_24 (by decide) (by decide)
        have tv34 := mm_addE ev34 rv33 rx12_3_24 (by decide)
        refine va_iald hx hb hK.1 hP 2 1 rfl rfl (mm_in rv34 (by decide)) dX12_turnOf_33 ?_
        refine lv_topi (fun v35 ev35 => ?_)
        have rv35 : mm_rg v35 0 9 := mm_eqv ev35 (h3 _)
        refine lv_istore_n (lv' := [(3, .int v35), (4, .int x12_4_23), (0, .ref a_0), (1, .int i_0), (2, .int i_1)]) hx hb dX12_turnOf_34 rfl hl (by decide) rfl ?_
        clear hl
        clear ls
        intro ls hl
        obtain ⟨v36, ev36⟩ : ∃ y : Int32, y = x12_4_23 + (-1) := ⟨_, rfl⟩
        refine lv_iinc (v := v36) (lv' := [(4, .int v36), (3, .int v35), (0, .ref a_0), (1, .int i_0), (2, .int i_1)]) hx hb dX12_turnOf_35 hl (k := 1) rfl (by rw [ev36]; rfl) (by decide) rfl ?_
        clear hl
        clear ls
        intro ls hl
        have rv36 : mm_rg v36 (-1) 5 := mm_add ev36 q30 mm_km1 (by decide) (by decide)
        have tv36 := mm_addEc ev36 q30 mm_km1 (by decide) (k := (-1)) (by decide)
        refine lv_goto (tgt := 12) hx hb dX12_turnOf_38 (by decide) ?_
        exact ih12 v36 v35 (mm_wk rv36 (by decide)) rv35 (mm_tri_s w25 tv36 ev35 (by have h8 := tv34; have h9 : (v33 : Int32).toInt = 10 * (7 * (i_0 : Int32).toInt + (x12_4_23 : Int32).toInt) := (by have := tv33; have := tv32; have := tv31; omega); omega) q30 rx12_3_24 h0 trivial (by decide)) (mm_md hm12 tv36 (by decide) (rv36).1 (by decide)) H locs hP hD hS ls (lv_sub hl [0, 1, 2, 3, 4] rfl)
  exact L12_25 _ v2 i_1 rv2 h1 (mm_tri_0 ev1 tv2 rv1 h0 (by decide)) (Nat.lt_succ_self _) H locs hP hD hS ls (lv_sub hl [0, 1, 2, 3, 4] rfl)

set_option maxHeartbeats 4000000 in
set_option maxRecDepth 100000 in
theorem M106_X12_cycleOf (l : Launch) (G : va_G) (cy : Nat → ClassId) (sz : Nat) (a_0 : Nat) (i_0 : Int32) (i_1 : Int32) (i_2 : Int32) (a_1 : Nat) (a_2 : Nat) (a_3 : Nat) (a_4 : Nat) (a_5 : Nat) (i_3 : Int32) (i_4 : Int32) (i_5 : Int32) (i_6 : Int32) (i_7 : Int32) (j_0 : Int64) (i_8 : Int32) (i_9 : Int32) (i_10 : Int32) (i_11 : Int32) (a_6 : Nat) (a_7 : Nat) (a_8 : Nat) (a_9 : Nat) (a_10 : Nat) (a_11 : Nat) (a_12 : Nat) (a_13 : Nat) (a_14 : Nat) (a_15 : Nat) (a_16 : Nat) (a_17 : Nat) (a_18 : Nat) (i_12 : Int32) (i_13 : Int32) (i_14 : Int32) (i_15 : Int32) (i_16 : Int32) (i_17 : Int32) (a_19 : Nat) (i_18 : Int32) (a_20 : Nat) (f_0 : Nat → Int32) (f_1 : Nat → Int32) (h0 : mm_rg i_0 0 2) (h1 : mm_rg i_1 0 9) (h2 : mm_ar f_0 0 7) (h3 : mm_ar f_1 0 9) (h4 : mm_rw f_0 f_1 i_0 i_1)  : mm_CI l yX12_cycleOf (mm_ws yX12_cycleOf cX12_cycleOf 5 (some .int)) ({ frames := 1, cells := 0, slots := 0, locals := 24 } : Room) G cy sz [(a_0, .inr (12, [.int i_2, .ref a_1, .ref a_2, .ref a_3, .ref a_4, .ref a_5, .int i_3, .int i_4, .int i_5, .int i_6, .int i_7, .long j_0, .int i_8, .int i_9, .int i_10, .int i_11, .ref a_6, .ref a_7, .ref a_8, .ref a_9, .ref a_10, .ref a_11, .ref a_12, .ref a_13, .ref a_14, .ref a_15, .ref a_16, .ref a_17, .ref a_18, .int i_12, .int i_13, .int i_14, .int i_15, .int i_16, .int i_17, .ref a_19, .int i_18, .ref a_20])), (a_9, .inl (cy 1, 15, .inl f_0)), (a_10, .inl (cy 1, 1050, .inl f_1))] [.ref a_0, .int i_0, .int i_1] (fun u : Unit => [(a_0, .inr (12, [.int i_2, .ref a_1, .ref a_2, .ref a_3, .ref a_4, .ref a_5, .int i_3, .int i_4, .int i_5, .int i_6, .int i_7, .long j_0, .int i_8, .int i_9, .int i_10, .int i_11, .ref a_6, .ref a_7, .ref a_8, .ref a_9, .ref a_10, .ref a_11, .ref a_12, .ref a_13, .ref a_14, .ref a_15, .ref a_16, .ref a_17, .ref a_18, .int i_12, .int i_13, .int i_14, .int i_15, .int i_16, .int i_17, .ref a_19, .int i_18, .ref a_20])), (a_9, .inl (cy 1, 15, .inl f_0)), (a_10, .inl (cy 1, 1050, .inl f_1))]) (fun (r : Int32) (u : Unit) => mm_rg r 1 10 ∧ mm_per f_0 f_1 i_0 i_1 r) 0 0 := by
  refine mm_begin (lv := [(0, .ref a_0), (1, .int i_0), (2, .int i_1)]) (by decide) (Nat.le_of_ble_eq_true rfl) rfl ?_
  intro p e s m below meth c A ls R args Q H locs hRe hQ hAe hx hb hr hlocks hml hown hnm hts hsz hA hS hP hK hD hZ hl
  have hRf : R.frames = 1 := by rw [hRe]
  have hRl : R.locals = 24 := by rw [hRe]
  have hRc : R.cells = 0 := by rw [hRe]
  have hRs : R.slots = 0 := by rw [hRe]
  refine lv_iconst (v := 1) hx hb dX12_cycleOf_0 (by decide) ?_
  refine lv_istore_n (lv' := [(3, .int 1), (0, .ref a_0), (1, .int i_0), (2, .int i_1)]) hx hb dX12_cycleOf_1 rfl hl (by decide) rfl ?_
  clear hl
  clear ls
  intro ls hl
  refine lv_aload_n hx hb dX12_cycleOf_2 rfl (lv_at hl 1 rfl) ?_
  refine lv_iload_n hx hb dX12_cycleOf_3 rfl (lv_at hl 2 rfl) ?_
  refine lv_iload_n hx hb dX12_cycleOf_4 rfl (lv_at hl 3 rfl) ?_
  refine mm_finir (va_runV (As := [.int i_0, .int i_1]) (rest := []) ⟨hx, hb, hml, hown, hts⟩ (M105_X12_turnOf l G cy H.size a_0 i_0 i_1 i_2 a_1 a_2 a_3 a_4 a_5 i_3 i_4 i_5 i_6 i_7 j_0 i_8 i_9 i_10 i_11 a_6 a_7 a_8 a_9 a_10 a_11 a_12 a_13 a_14 a_15 a_16 a_17 a_18 i_12 i_13 i_14 i_15 i_16 i_17 a_19 i_18 a_20 f_0 f_1 h0 h1 h2 h3) (cwV 2 hts (mm_gV mm_w702 mm_w703 mm_w704 mm_w5 mm_w705) rfl rfl rfl hd_X12_turnOf ⟨by rw [hRf]; exact Nat.le_of_ble_eq_true rfl, by rw [hRl]; exact Nat.le_of_ble_eq_true rfl⟩) (mm_preV hK hZ hS hA hP hD [0, 1, 2] rfl rfl 0 rfl rfl rfl) rfl rfl hl.1 rfl (lv_room (Nat.le_of_ble_eq_true rfl)) dX12_cycleOf_5 ⟨by rw [hRc]; exact Nat.le_of_ble_eq_true rfl, by rw [hRs]; exact Nat.le_of_ble_eq_true rfl⟩) hP hD hS hA [0, 1, 2] rfl (fun _ => rfl) ?_
  clear hP hD hS
  clear H locs
  intro v1 _u H locs hw hP hD hS
  obtain ⟨w2, w3⟩ := hw
  refine lv_istore (lv' := [(4, .int v1), (3, .int 1), (0, .ref a_0), (1, .int i_0), (2, .int i_1)]) hx hb dX12_cycleOf_8 hl (by decide) rfl ?_
  clear hl
  clear ls
  intro ls hl
  have L10_16 : ∀ (n : Nat) (x10_4_14 : Int32) (x10_3_15 : Int32), mm_rg x10_4_14 0 9 → mm_rg x10_3_15 1 10 → mm_cy f_0 f_1 i_0 i_1 x10_3_15 x10_4_14 → (10 - x10_3_15.toInt).toNat < n → ∀ (H : Heap) (locs : List Loc), va_P G vwCl [(a_0, .inr (12, [.int i_2, .ref a_1, .ref a_2, .ref a_3, .ref a_4, .ref a_5, .int i_3, .int i_4, .int i_5, .int i_6, .int i_7, .long j_0, .int i_8, .int i_9, .int i_10, .int i_11, .ref a_6, .ref a_7, .ref a_8, .ref a_9, .ref a_10, .ref a_11, .ref a_12, .ref a_13, .ref a_14, .ref a_15, .ref a_16, .ref a_17, .ref a_18, .int i_12, .int i_13, .int i_14, .int i_15, .int i_16, .int i_17, .ref a_19, .int i_18, .ref a_20])), (a_9, .inl (cy 1, 15, .inl f_0)), (a_10, .inl (cy 1, 1050, .inl f_1))] H → va_D A [(a_0, .inr (12, [.int i_2, .ref a_1, .ref a_2, .ref a_3, .ref a_4, .ref a_5, .int i_3, .int i_4, .int i_5, .int i_6, .int i_7, .long j_0, .int i_8, .int i_9, .int i_10, .int i_11, .ref a_6, .ref a_7, .ref a_8, .ref a_9, .ref a_10, .ref a_11, .ref a_12, .ref a_13, .ref a_14, .ref a_15, .ref a_16, .ref a_17, .ref a_18, .int i_12, .int i_13, .int i_14, .int i_15, .int i_16, .int i_17, .ref a_19, .int i_18, .ref a_20])), (a_9, .inl (cy 1, 15, .inl f_0)), (a_10, .inl (cy 1, 1050, .inl f_1))] → va_S A s.heap H locs → ∀ (ls : Array Slot), lv_has ls 5 [(4, .int x10_4_14), (3, .int x10_3_15), (0, .ref a_0), (1, .int i_0), (2, .int i_1)] → W p l e R s m args below meth c H locs 0 0 Q (F0 m 10 ls []) := by
    intro n
    induction n with
    | zero => intro x10_4_14 x10_3_15 rx10_4_14 rx10_3_15 w16 hm; exact absurd hm (Nat.not_lt_zero _)
    | succ n ih10 =>
      intro x10_4_14 x10_3_15 rx10_4_14 rx10_3_15 w16 hm10 H locs hP hD hS ls hl
      refine lv_iload hx hb dX12_cycleOf_10 (lv_at hl 0 rfl) ?_
      refine lv_iload_n hx hb dX12_cycleOf_12 rfl (lv_at hl 4 rfl) ?_
      refine lv_icmp_eq (tgt := 31) hx hb dX12_cycleOf_13 (by decide) (fun c18 => ?_) (fun c18 => ?_)
      · refine lv_iload_n hx hb dX12_cycleOf_31 rfl (lv_at hl 1 rfl) ?_
        have w19 : mm_per f_0 f_1 i_0 i_1 x10_3_15 := (mm_per_of w16 c18 (Int.le_trans (by decide) (rx10_3_15).1))
        subst hAe
        rw [hQ]
        exact W.iret (v := x10_3_15) hx hb hr (fun t ht hW => ⟨⟨x10_3_15, (), rfl, ⟨rx10_3_15, w19⟩, by rw [ht]; exact hP, hK.warm hW, hD⟩, hS.F ht⟩) hS.2.2 dX12_cycleOf_32
      · have q20 : mm_rg x10_3_15 1 9 := mm_cy_lt w16 h4 (mm_ne c18) rx10_3_15 (by decide)
        obtain ⟨v21, ev21⟩ : ∃ y : Int32, y = x10_3_15 + 1 := ⟨_, rfl⟩
        refine lv_iinc (v := v21) (lv' := [(3, .int v21), (4, .int x10_4_14), (0, .ref a_0), (1, .int i_0), (2, .int i_1)]) hx hb dX12_cycleOf_16 hl (k := 1) rfl (by rw [ev21]; rfl) (by decide) rfl ?_
        clear hl
        clear ls
        intro ls hl
        have rv21 : mm_rg v21 2 10 := mm_add ev21 q20 mm_k1 (by decide) (by decide)
        have tv21 := mm_addEc ev21 q20 mm_k1 (by decide) (k := 1) (by decide)
        refine lv_aload_n hx hb dX12_cycleOf_19 rfl (lv_at hl 2 rfl) ?_
        refine lv_iload_n hx hb dX12_cycleOf_20 rfl (lv_at hl 3 rfl) ?_
        refine lv_iload hx hb dX12_cycleOf_21 (lv_at hl 1 rfl) ?_
        refine mm_finir (va_runV (As := [.int i_0, .int x10_4_14]) (rest := []) ⟨hx, hb, hml, hown, hts⟩ (M105_X12_turnOf l G cy H.size a_0 i_0 x10_4_14 i_2 a_1 a_2 a_3 a_4 a_5 i_3 i_4 i_5 i_6 i_7 j_0 i_8 i_9 i_10 i_11 a_6 a_7 a_8 a_9 a_10 a_11 a_12 a_13 a_14 a_15 a_16 a_17 a_18 i_12 i_13 i_14 i_15 i_16 i_17 a_19 i_18 a_20 f_0 f_1 h0 rx10_4_14 h2 h3) (cwV 2 hts (mm_gV mm_w702 mm_w703 mm_w704 mm_w5 mm_w705) rfl rfl rfl hd_X12_turnOf ⟨by rw [hRf]; exact Nat.le_of_ble_eq_true rfl, by rw [hRl]; exact Nat.le_of_ble_eq_true rfl⟩) (mm_preV hK hZ hS hA hP hD [0, 1, 2] rfl rfl 0 rfl rfl rfl) rfl rfl hl.1 rfl (lv_room (Nat.le_of_ble_eq_true rfl)) dX12_cycleOf_23 ⟨by rw [hRc]; exact Nat.le_of_ble_eq_true rfl, by rw [hRs]; exact Nat.le_of_ble_eq_true rfl⟩) hP hD hS hA [0, 1, 2] rfl (fun _ => rfl) ?_
        clear hP hD hS
        clear H locs
        intro v22 _u H locs hw hP hD hS
        obtain ⟨w23, w24⟩ := hw
        refine lv_istore (lv' := [(4, .int v22), (3, .int v21), (0, .ref a_0), (1, .int i_0), (2, .int i_1)]) hx hb dX12_cycleOf_26 hl (by decide) rfl ?_
        clear hl
        clear ls
        intro ls hl
        refine lv_goto (tgt := 10) hx hb dX12_cycleOf_28 (by decide) ?_
        exact ih10 v22 v21 w23 (mm_wk rv21 (by decide)) (mm_cy_s w16 w24 (mm_ne c18) tv21 q20 (by decide)) (mm_mu hm10 tv21 (by decide) (rv21).2 (by decide)) H locs hP hD hS ls (lv_sub hl [0, 1, 2, 3, 4] rfl)
  exact L10_16 _ v1 1 w2 (mm_wk mm_k1 (by decide)) (mm_cy_1 w3) (Nat.lt_succ_self _) H locs hP hD hS ls (lv_sub hl [0, 1, 2, 3, 4] rfl)

set_option maxHeartbeats 4000000 in
set_option maxRecDepth 100000 in
theorem M107_X12_common (l : Launch) (G : va_G) (cy : Nat → ClassId) (sz : Nat) (i_0 : Int32) (i_1 : Int32) (h0 : mm_rg i_0 1 1) (h1 : mm_rg i_1 0 0)  : mm_CI l yX12_common (mm_ws yX12_common cX12_common 2 (some .int)) ({ frames := 0, cells := 0, slots := 0, locals := 0 } : Room) G cy sz [] [.int i_0, .int i_1] (fun u : Unit => []) (fun (r : Int32) (u : Unit) => i_0 = r ∧ mm_gcd i_0 i_1 r) 0 0 := by
  refine mm_begin (lv := [(0, .int i_0), (1, .int i_1)]) (by decide) (Nat.le_of_ble_eq_true rfl) rfl ?_
  intro p e s m below meth c A ls R args Q H locs hRe hQ hAe hx hb hr hlocks hml hown hnm hts hsz hA hS hP hK hD hZ hl
  have hRf : R.frames = 0 := by rw [hRe]
  have hRl : R.locals = 0 := by rw [hRe]
  have hRc : R.cells = 0 := by rw [hRe]
  have hRs : R.slots = 0 := by rw [hRe]
  refine lv_iload_n hx hb dX12_common_0 rfl (lv_at hl 1 rfl) ?_
  refine lv_if_ne (tgt := 8) hx hb dX12_common_1 (by decide) (fun c1 => ?_) (fun c1 => ?_)
  · have q2 := mm_neL (lo := 1) (mm_ne c1) h1 mm_k0 (by decide) (by decide)
    exact mm_no q2 (by decide)
  · refine lv_iload_n hx hb dX12_common_4 rfl (lv_at hl 0 rfl) ?_
    refine lv_goto (tgt := 15) hx hb dX12_common_5 (by decide) ?_
    have w3 : mm_gcd i_0 i_1 i_0 := (mm_gcd_0 h0 h1 (by decide))
    subst hAe
    rw [hQ]
    exact W.iret (v := i_0) hx hb hr (fun t ht hW => ⟨⟨i_0, (), rfl, ⟨rfl, w3⟩, by rw [ht]; exact hP, hK.warm hW, hD⟩, hS.F ht⟩) hS.2.2 dX12_common_15

set_option maxHeartbeats 4000000 in
set_option maxRecDepth 100000 in
theorem M108_X12_common (l : Launch) (G : va_G) (cy : Nat → ClassId) (sz : Nat) (i_0 : Int32) (i_1 : Int32) (h0 : mm_rg i_0 1 2) (h1 : mm_rg i_1 0 1)  : mm_CI l yX12_common (mm_ws yX12_common cX12_common 2 (some .int)) ({ frames := 1, cells := 0, slots := 0, locals := 21 } : Room) G cy sz [] [.int i_0, .int i_1] (fun u : Unit => []) (fun (r : Int32) (u : Unit) => mm_rg r 1 2 ∧ mm_gcd i_0 i_1 r) 0 0 := by
  refine mm_begin (lv := [(0, .int i_0), (1, .int i_1)]) (by decide) (Nat.le_of_ble_eq_true rfl) rfl ?_
  intro p e s m below meth c A ls R args Q H locs hRe hQ hAe hx hb hr hlocks hml hown hnm hts hsz hA hS hP hK hD hZ hl
  have hRf : R.frames = 1 := by rw [hRe]
  have hRl : R.locals = 21 := by rw [hRe]
  have hRc : R.cells = 0 := by rw [hRe]
  have hRs : R.slots = 0 := by rw [hRe]
  refine lv_iload_n hx hb dX12_common_0 rfl (lv_at hl 1 rfl) ?_
  refine lv_if_ne (tgt := 8) hx hb dX12_common_1 (by decide) (fun c1 => ?_) (fun c1 => ?_)
  · have q2 := mm_neL (lo := 1) (mm_ne c1) h1 mm_k0 (by decide) (by decide)
    refine lv_iload_n hx hb dX12_common_8 rfl (lv_at hl 1 rfl) ?_
    refine lv_iload_n hx hb dX12_common_9 rfl (lv_at hl 0 rfl) ?_
    refine lv_iload_n hx hb dX12_common_10 rfl (lv_at hl 1 rfl) ?_
    refine lv_irem hx hb dX12_common_11 (mm_nz q2 (by decide)) ?_
    refine lv_topi (fun v3 ev3 => ?_)
    have rv3 : mm_rg v3 0 0 := mm_rem ev3 h0 q2 (by decide) (by decide)
    refine mm_finir (va_runS (As := [.int i_1, .int v3]) (rest := []) ⟨hx, hb, hml, hown, hts⟩ (M107_X12_common l G cy H.size i_1 v3 q2 rv3) (va_cwS 2 hts (mm_gS mm_w706 mm_w707 mm_w5 mm_w708) rfl rfl rfl hs_X12_common ⟨by rw [hRf]; exact Nat.le_of_ble_eq_true rfl, by rw [hRl]; exact Nat.le_of_ble_eq_true rfl⟩) (mm_preS hK hZ hS hA hP hD [] rfl rfl) rfl rfl hl.1 rfl (lv_room (Nat.le_of_ble_eq_true rfl)) dX12_common_12 ⟨by rw [hRc]; exact Nat.le_of_ble_eq_true rfl, by rw [hRs]; exact Nat.le_of_ble_eq_true rfl⟩) hP hD hS hA [] rfl (fun _ => rfl) ?_
    clear hP hD hS
    clear H locs
    intro v4 _u H locs hw hP hD hS
    obtain ⟨rfl, w5⟩ := hw
    have w6 : mm_gcd i_0 i_1 i_1 := (mm_gcd_s w5 ev3 h0 q2 (by decide))
    subst hAe
    rw [hQ]
    exact W.iret (v := i_1) hx hb hr (fun t ht hW => ⟨⟨i_1, (), rfl, ⟨(mm_wk q2 (by decide)), w6⟩, by rw [ht]; exact hP, hK.warm hW, hD⟩, hS.F ht⟩) hS.2.2 dX12_common_15
  · have q7 := mm_eqI (lo := 0) (hi := 0) c1 h1 mm_k0 (by decide)
    refine lv_iload_n hx hb dX12_common_4 rfl (lv_at hl 0 rfl) ?_
    refine lv_goto (tgt := 15) hx hb dX12_common_5 (by decide) ?_
    have w8 : mm_gcd i_0 i_1 i_0 := (mm_gcd_0 h0 q7 (by decide))
    subst hAe
    rw [hQ]
    exact W.iret (v := i_0) hx hb hr (fun t ht hW => ⟨⟨i_0, (), rfl, ⟨h0, w8⟩, by rw [ht]; exact hP, hK.warm hW, hD⟩, hS.F ht⟩) hS.2.2 dX12_common_15

set_option maxHeartbeats 4000000 in
set_option maxRecDepth 100000 in
theorem M109_X12_common (l : Launch) (G : va_G) (cy : Nat → ClassId) (sz : Nat) (i_0 : Int32) (i_1 : Int32) (h0 : mm_rg i_0 1 3) (h1 : mm_rg i_1 0 2)  : mm_CI l yX12_common (mm_ws yX12_common cX12_common 2 (some .int)) ({ frames := 2, cells := 0, slots := 0, locals := 42 } : Room) G cy sz [] [.int i_0, .int i_1] (fun u : Unit => []) (fun (r : Int32) (u : Unit) => mm_rg r 1 3 ∧ mm_gcd i_0 i_1 r) 0 0 := by
  refine mm_begin (lv := [(0, .int i_0), (1, .int i_1)]) (by decide) (Nat.le_of_ble_eq_true rfl) rfl ?_
  intro p e s m below meth c A ls R args Q H locs hRe hQ hAe hx hb hr hlocks hml hown hnm hts hsz hA hS hP hK hD hZ hl
  have hRf : R.frames = 2 := by rw [hRe]
  have hRl : R.locals = 42 := by rw [hRe]
  have hRc : R.cells = 0 := by rw [hRe]
  have hRs : R.slots = 0 := by rw [hRe]
  refine lv_iload_n hx hb dX12_common_0 rfl (lv_at hl 1 rfl) ?_
  refine lv_if_ne (tgt := 8) hx hb dX12_common_1 (by decide) (fun c1 => ?_) (fun c1 => ?_)
  · have q2 := mm_neL (lo := 1) (mm_ne c1) h1 mm_k0 (by decide) (by decide)
    refine lv_iload_n hx hb dX12_common_8 rfl (lv_at hl 1 rfl) ?_
    refine lv_iload_n hx hb dX12_common_9 rfl (lv_at hl 0 rfl) ?_
    refine lv_iload_n hx hb dX12_common_10 rfl (lv_at hl 1 rfl) ?_
    refine lv_irem hx hb dX12_common_11 (mm_nz q2 (by decide)) ?_
    refine lv_topi (fun v3 ev3 => ?_)
    have rv3 : mm_rg v3 0 1 := mm_rem ev3 h0 q2 (by decide) (by decide)
    refine mm_finir (va_runS (As := [.int i_1, .int v3]) (rest := []) ⟨hx, hb, hml, hown, hts⟩ (M108_X12_common l G cy H.size i_1 v3 q2 rv3) (va_cwS 2 hts (mm_gS mm_w706 mm_w707 mm_w5 mm_w708) rfl rfl rfl hs_X12_common ⟨by rw [hRf]; exact Nat.le_of_ble_eq_true rfl, by rw [hRl]; exact Nat.le_of_ble_eq_true rfl⟩) (mm_preS hK hZ hS hA hP hD [] rfl rfl) rfl rfl hl.1 rfl (lv_room (Nat.le_of_ble_eq_true rfl)) dX12_common_12 ⟨by rw [hRc]; exact Nat.le_of_ble_eq_true rfl, by rw [hRs]; exact Nat.le_of_ble_eq_true rfl⟩) hP hD hS hA [] rfl (fun _ => rfl) ?_
    clear hP hD hS
    clear H locs
    intro v4 _u H locs hw hP hD hS
    obtain ⟨w5, w6⟩ := hw
    have w7 : mm_gcd i_0 i_1 v4 := (mm_gcd_s w6 ev3 h0 q2 (by decide))
    subst hAe
    rw [hQ]
    exact W.iret (v := v4) hx hb hr (fun t ht hW => ⟨⟨v4, (), rfl, ⟨(mm_wk w5 (by decide)), w7⟩, by rw [ht]; exact hP, hK.warm hW, hD⟩, hS.F ht⟩) hS.2.2 dX12_common_15
  · have q8 := mm_eqI (lo := 0) (hi := 0) c1 h1 mm_k0 (by decide)
    refine lv_iload_n hx hb dX12_common_4 rfl (lv_at hl 0 rfl) ?_
    refine lv_goto (tgt := 15) hx hb dX12_common_5 (by decide) ?_
    have w9 : mm_gcd i_0 i_1 i_0 := (mm_gcd_0 h0 q8 (by decide))
    subst hAe
    rw [hQ]
    exact W.iret (v := i_0) hx hb hr (fun t ht hW => ⟨⟨i_0, (), rfl, ⟨h0, w9⟩, by rw [ht]; exact hP, hK.warm hW, hD⟩, hS.F ht⟩) hS.2.2 dX12_common_15

set_option maxHeartbeats 4000000 in
set_option maxRecDepth 100000 in
theorem M110_X12_common (l : Launch) (G : va_G) (cy : Nat → ClassId) (sz : Nat) (i_0 : Int32) (i_1 : Int32) (h0 : mm_rg i_0 1 4) (h1 : mm_rg i_1 0 3)  : mm_CI l yX12_common (mm_ws yX12_common cX12_common 2 (some .int)) ({ frames := 3, cells := 0, slots := 0, locals := 63 } : Room) G cy sz [] [.int i_0, .int i_1] (fun u : Unit => []) (fun (r : Int32) (u : Unit) => mm_rg r 1 4 ∧ mm_gcd i_0 i_1 r) 0 0 := by
  refine mm_begin (lv := [(0, .int i_0), (1, .int i_1)]) (by decide) (Nat.le_of_ble_eq_true rfl) rfl ?_
  intro p e s m below meth c A ls R args Q H locs hRe hQ hAe hx hb hr hlocks hml hown hnm hts hsz hA hS hP hK hD hZ hl
  have hRf : R.frames = 3 := by rw [hRe]
  have hRl : R.locals = 63 := by rw [hRe]
  have hRc : R.cells = 0 := by rw [hRe]
  have hRs : R.slots = 0 := by rw [hRe]
  refine lv_iload_n hx hb dX12_common_0 rfl (lv_at hl 1 rfl) ?_
  refine lv_if_ne (tgt := 8) hx hb dX12_common_1 (by decide) (fun c1 => ?_) (fun c1 => ?_)
  · have q2 := mm_neL (lo := 1) (mm_ne c1) h1 mm_k0 (by decide) (by decide)
    refine lv_iload_n hx hb dX12_common_8 rfl (lv_at hl 1 rfl) ?_
    refine lv_iload_n hx hb dX12_common_9 rfl (lv_at hl 0 rfl) ?_
    refine lv_iload_n hx hb dX12_common_10 rfl (lv_at hl 1 rfl) ?_
    refine lv_irem hx hb dX12_common_11 (mm_nz q2 (by decide)) ?_
    refine lv_topi (fun v3 ev3 => ?_)
    have rv3 : mm_rg v3 0 2 := mm_rem ev3 h0 q2 (by decide) (by decide)
    refine mm_finir (va_runS (As := [.int i_1, .int v3]) (rest := []) ⟨hx, hb, hml, hown, hts⟩ (M109_X12_common l G cy H.size i_1 v3 q2 rv3) (va_cwS 2 hts (mm_gS mm_w706 mm_w707 mm_w5 mm_w708) rfl rfl rfl hs_X12_common ⟨by rw [hRf]; exact Nat.le_of_ble_eq_true rfl, by rw [hRl]; exact Nat.le_of_ble_eq_true rfl⟩) (mm_preS hK hZ hS hA hP hD [] rfl rfl) rfl rfl hl.1 rfl (lv_room (Nat.le_of_ble_eq_true rfl)) dX12_common_12 ⟨by rw [hRc]; exact Nat.le_of_ble_eq_true rfl, by rw [hRs]; exact Nat.le_of_ble_eq_true rfl⟩) hP hD hS hA [] rfl (fun _ => rfl) ?_
    clear hP hD hS
    clear H locs
    intro v4 _u H locs hw hP hD hS
    obtain ⟨w5, w6⟩ := hw
    have w7 : mm_gcd i_0 i_1 v4 := (mm_gcd_s w6 ev3 h0 q2 (by decide))
    subst hAe
    rw [hQ]
    exact W.iret (v := v4) hx hb hr (fun t ht hW => ⟨⟨v4, (), rfl, ⟨(mm_wk w5 (by decide)), w7⟩, by rw [ht]; exact hP, hK.warm hW, hD⟩, hS.F ht⟩) hS.2.2 dX12_common_15
  · have q8 := mm_eqI (lo := 0) (hi := 0) c1 h1 mm_k0 (by decide)
    refine lv_iload_n hx hb dX12_common_4 rfl (lv_at hl 0 rfl) ?_
    refine lv_goto (tgt := 15) hx hb dX12_common_5 (by decide) ?_
    have w9 : mm_gcd i_0 i_1 i_0 := (mm_gcd_0 h0 q8 (by decide))
    subst hAe
    rw [hQ]
    exact W.iret (v := i_0) hx hb hr (fun t ht hW => ⟨⟨i_0, (), rfl, ⟨h0, w9⟩, by rw [ht]; exact hP, hK.warm hW, hD⟩, hS.F ht⟩) hS.2.2 dX12_common_15

set_option maxHeartbeats 4000000 in
set_option maxRecDepth 100000 in
theorem M111_X12_common (l : Launch) (G : va_G) (cy : Nat → ClassId) (sz : Nat) (i_0 : Int32) (i_1 : Int32) (h0 : mm_rg i_0 1 5) (h1 : mm_rg i_1 0 4)  : mm_CI l yX12_common (mm_ws yX12_common cX12_common 2 (some .int)) ({ frames := 4, cells := 0, slots := 0, locals := 84 } : Room) G cy sz [] [.int i_0, .int i_1] (fun u : Unit => []) (fun (r : Int32) (u : Unit) => mm_rg r 1 5 ∧ mm_gcd i_0 i_1 r) 0 0 := by
  refine mm_begin (lv := [(0, .int i_0), (1, .int i_1)]) (by decide) (Nat.le_of_ble_eq_true rfl) rfl ?_
  intro p e s m below meth c A ls R args Q H locs hRe hQ hAe hx hb hr hlocks hml hown hnm hts hsz hA hS hP hK hD hZ hl
  have hRf : R.frames = 4 := by rw [hRe]
  have hRl : R.locals = 84 := by rw [hRe]
  have hRc : R.cells = 0 := by rw [hRe]
  have hRs : R.slots = 0 := by rw [hRe]
  refine lv_iload_n hx hb dX12_common_0 rfl (lv_at hl 1 rfl) ?_
  refine lv_if_ne (tgt := 8) hx hb dX12_common_1 (by decide) (fun c1 => ?_) (fun c1 => ?_)
  · have q2 := mm_neL (lo := 1) (mm_ne c1) h1 mm_k0 (by decide) (by decide)
    refine lv_iload_n hx hb dX12_common_8 rfl (lv_at hl 1 rfl) ?_
    refine lv_iload_n hx hb dX12_common_9 rfl (lv_at hl 0 rfl) ?_
    refine lv_iload_n hx hb dX12_common_10 rfl (lv_at hl 1 rfl) ?_
    refine lv_irem hx hb dX12_common_11 (mm_nz q2 (by decide)) ?_
    refine lv_topi (fun v3 ev3 => ?_)
    have rv3 : mm_rg v3 0 3 := mm_rem ev3 h0 q2 (by decide) (by decide)
    refine mm_finir (va_runS (As := [.int i_1, .int v3]) (rest := []) ⟨hx, hb, hml, hown, hts⟩ (M110_X12_common l G cy H.size i_1 v3 q2 rv3) (va_cwS 2 hts (mm_gS mm_w706 mm_w707 mm_w5 mm_w708) rfl rfl rfl hs_X12_common ⟨by rw [hRf]; exact Nat.le_of_ble_eq_true rfl, by rw [hRl]; exact Nat.le_of_ble_eq_true rfl⟩) (mm_preS hK hZ hS hA hP hD [] rfl rfl) rfl rfl hl.1 rfl (lv_room (Nat.le_of_ble_eq_true rfl)) dX12_common_12 ⟨by rw [hRc]; exact Nat.le_of_ble_eq_true rfl, by rw [hRs]; exact Nat.le_of_ble_eq_true rfl⟩) hP hD hS hA [] rfl (fun _ => rfl) ?_
    clear hP hD hS
    clear H locs
    intro v4 _u H locs hw hP hD hS
    obtain ⟨w5, w6⟩ := hw
    have w7 : mm_gcd i_0 i_1 v4 := (mm_gcd_s w6 ev3 h0 q2 (by decide))
    subst hAe
    rw [hQ]
    exact W.iret (v := v4) hx hb hr (fun t ht hW => ⟨⟨v4, (), rfl, ⟨(mm_wk w5 (by decide)), w7⟩, by rw [ht]; exact hP, hK.warm hW, hD⟩, hS.F ht⟩) hS.2.2 dX12_common_15
  · have q8 := mm_eqI (lo := 0) (hi := 0) c1 h1 mm_k0 (by decide)
    refine lv_iload_n hx hb dX12_common_4 rfl (lv_at hl 0 rfl) ?_
    refine lv_goto (tgt := 15) hx hb dX12_common_5 (by decide) ?_
    have w9 : mm_gcd i_0 i_1 i_0 := (mm_gcd_0 h0 q8 (by decide))
    subst hAe
    rw [hQ]
    exact W.iret (v := i_0) hx hb hr (fun t ht hW => ⟨⟨i_0, (), rfl, ⟨h0, w9⟩, by rw [ht]; exact hP, hK.warm hW, hD⟩, hS.F ht⟩) hS.2.2 dX12_common_15

set_option maxHeartbeats 4000000 in
set_option maxRecDepth 100000 in
theorem M112_X12_common (l : Launch) (G : va_G) (cy : Nat → ClassId) (sz : Nat) (i_0 : Int32) (i_1 : Int32) (h0 : mm_rg i_0 1 6) (h1 : mm_rg i_1 0 5)  : mm_CI l yX12_common (mm_ws yX12_common cX12_common 2 (some .int)) ({ frames := 5, cells := 0, slots := 0, locals := 105 } : Room) G cy sz [] [.int i_0, .int i_1] (fun u : Unit => []) (fun (r : Int32) (u : Unit) => mm_rg r 1 6 ∧ mm_gcd i_0 i_1 r) 0 0 := by
  refine mm_begin (lv := [(0, .int i_0), (1, .int i_1)]) (by decide) (Nat.le_of_ble_eq_true rfl) rfl ?_
  intro p e s m below meth c A ls R args Q H locs hRe hQ hAe hx hb hr hlocks hml hown hnm hts hsz hA hS hP hK hD hZ hl
  have hRf : R.frames = 5 := by rw [hRe]
  have hRl : R.locals = 105 := by rw [hRe]
  have hRc : R.cells = 0 := by rw [hRe]
  have hRs : R.slots = 0 := by rw [hRe]
  refine lv_iload_n hx hb dX12_common_0 rfl (lv_at hl 1 rfl) ?_
  refine lv_if_ne (tgt := 8) hx hb dX12_common_1 (by decide) (fun c1 => ?_) (fun c1 => ?_)
  · have q2 := mm_neL (lo := 1) (mm_ne c1) h1 mm_k0 (by decide) (by decide)
    refine lv_iload_n hx hb dX12_common_8 rfl (lv_at hl 1 rfl) ?_
    refine lv_iload_n hx hb dX12_common_9 rfl (lv_at hl 0 rfl) ?_
    refine lv_iload_n hx hb dX12_common_10 rfl (lv_at hl 1 rfl) ?_
    refine lv_irem hx hb dX12_common_11 (mm_nz q2 (by decide)) ?_
    refine lv_topi (fun v3 ev3 => ?_)
    have rv3 : mm_rg v3 0 4 := mm_rem ev3 h0 q2 (by decide) (by decide)
    refine mm_finir (va_runS (As := [.int i_1, .int v3]) (rest := []) ⟨hx, hb, hml, hown, hts⟩ (M111_X12_common l G cy H.size i_1 v3 q2 rv3) (va_cwS 2 hts (mm_gS mm_w706 mm_w707 mm_w5 mm_w708) rfl rfl rfl hs_X12_common ⟨by rw [hRf]; exact Nat.le_of_ble_eq_true rfl, by rw [hRl]; exact Nat.le_of_ble_eq_true rfl⟩) (mm_preS hK hZ hS hA hP hD [] rfl rfl) rfl rfl hl.1 rfl (lv_room (Nat.le_of_ble_eq_true rfl)) dX12_common_12 ⟨by rw [hRc]; exact Nat.le_of_ble_eq_true rfl, by rw [hRs]; exact Nat.le_of_ble_eq_true rfl⟩) hP hD hS hA [] rfl (fun _ => rfl) ?_
    clear hP hD hS
    clear H locs
    intro v4 _u H locs hw hP hD hS
    obtain ⟨w5, w6⟩ := hw
    have w7 : mm_gcd i_0 i_1 v4 := (mm_gcd_s w6 ev3 h0 q2 (by decide))
    subst hAe
    rw [hQ]
    exact W.iret (v := v4) hx hb hr (fun t ht hW => ⟨⟨v4, (), rfl, ⟨(mm_wk w5 (by decide)), w7⟩, by rw [ht]; exact hP, hK.warm hW, hD⟩, hS.F ht⟩) hS.2.2 dX12_common_15
  · have q8 := mm_eqI (lo := 0) (hi := 0) c1 h1 mm_k0 (by decide)
    refine lv_iload_n hx hb dX12_common_4 rfl (lv_at hl 0 rfl) ?_
    refine lv_goto (tgt := 15) hx hb dX12_common_5 (by decide) ?_
    have w9 : mm_gcd i_0 i_1 i_0 := (mm_gcd_0 h0 q8 (by decide))
    subst hAe
    rw [hQ]
    exact W.iret (v := i_0) hx hb hr (fun t ht hW => ⟨⟨i_0, (), rfl, ⟨h0, w9⟩, by rw [ht]; exact hP, hK.warm hW, hD⟩, hS.F ht⟩) hS.2.2 dX12_common_15

set_option maxHeartbeats 4000000 in
set_option maxRecDepth 100000 in
theorem M113_X12_common (l : Launch) (G : va_G) (cy : Nat → ClassId) (sz : Nat) (i_0 : Int32) (i_1 : Int32) (h0 : mm_rg i_0 1 7) (h1 : mm_rg i_1 0 6)  : mm_CI l yX12_common (mm_ws yX12_common cX12_common 2 (some .int)) ({ frames := 6, cells := 0, slots := 0, locals := 126 } : Room) G cy sz [] [.int i_0, .int i_1] (fun u : Unit => []) (fun (r : Int32) (u : Unit) => mm_rg r 1 7 ∧ mm_gcd i_0 i_1 r) 0 0 := by
  refine mm_begin (lv := [(0, .int i_0), (1, .int i_1)]) (by decide) (Nat.le_of_ble_eq_true rfl) rfl ?_
  intro p e s m below meth c A ls R args Q H locs hRe hQ hAe hx hb hr hlocks hml hown hnm hts hsz hA hS hP hK hD hZ hl
  have hRf : R.frames = 6 := by rw [hRe]
  have hRl : R.locals = 126 := by rw [hRe]
  have hRc : R.cells = 0 := by rw [hRe]
  have hRs : R.slots = 0 := by rw [hRe]
  refine lv_iload_n hx hb dX12_common_0 rfl (lv_at hl 1 rfl) ?_
  refine lv_if_ne (tgt := 8) hx hb dX12_common_1 (by decide) (fun c1 => ?_) (fun c1 => ?_)
  · have q2 := mm_neL (lo := 1) (mm_ne c1) h1 mm_k0 (by decide) (by decide)
    refine lv_iload_n hx hb dX12_common_8 rfl (lv_at hl 1 rfl) ?_
    refine lv_iload_n hx hb dX12_common_9 rfl (lv_at hl 0 rfl) ?_
    refine lv_iload_n hx hb dX12_common_10 rfl (lv_at hl 1 rfl) ?_
    refine lv_irem hx hb dX12_common_11 (mm_nz q2 (by decide)) ?_
    refine lv_topi (fun v3 ev3 => ?_)
    have rv3 : mm_rg v3 0 5 := mm_rem ev3 h0 q2 (by decide) (by decide)
    refine mm_finir (va_runS (As := [.int i_1, .int v3]) (rest := []) ⟨hx, hb, hml, hown, hts⟩ (M112_X12_common l G cy H.size i_1 v3 q2 rv3) (va_cwS 2 hts (mm_gS mm_w706 mm_w707 mm_w5 mm_w708) rfl rfl rfl hs_X12_common ⟨by rw [hRf]; exact Nat.le_of_ble_eq_true rfl, by rw [hRl]; exact Nat.le_of_ble_eq_true rfl⟩) (mm_preS hK hZ hS hA hP hD [] rfl rfl) rfl rfl hl.1 rfl (lv_room (Nat.le_of_ble_eq_true rfl)) dX12_common_12 ⟨by rw [hRc]; exact Nat.le_of_ble_eq_true rfl, by rw [hRs]; exact Nat.le_of_ble_eq_true rfl⟩) hP hD hS hA [] rfl (fun _ => rfl) ?_
    clear hP hD hS
    clear H locs
    intro v4 _u H locs hw hP hD hS
    obtain ⟨w5, w6⟩ := hw
    have w7 : mm_gcd i_0 i_1 v4 := (mm_gcd_s w6 ev3 h0 q2 (by decide))
    subst hAe
    rw [hQ]
    exact W.iret (v := v4) hx hb hr (fun t ht hW => ⟨⟨v4, (), rfl, ⟨(mm_wk w5 (by decide)), w7⟩, by rw [ht]; exact hP, hK.warm hW, hD⟩, hS.F ht⟩) hS.2.2 dX12_common_15
  · have q8 := mm_eqI (lo := 0) (hi := 0) c1 h1 mm_k0 (by decide)
    refine lv_iload_n hx hb dX12_common_4 rfl (lv_at hl 0 rfl) ?_
    refine lv_goto (tgt := 15) hx hb dX12_common_5 (by decide) ?_
    have w9 : mm_gcd i_0 i_1 i_0 := (mm_gcd_0 h0 q8 (by decide))
    subst hAe
    rw [hQ]
    exact W.iret (v := i_0) hx hb hr (fun t ht hW => ⟨⟨i_0, (), rfl, ⟨h0, w9⟩, by rw [ht]; exact hP, hK.warm hW, hD⟩, hS.F ht⟩) hS.2.2 dX12_common_15

set_option maxHeartbeats 4000000 in
set_option maxRecDepth 100000 in
theorem M114_X12_common (l : Launch) (G : va_G) (cy : Nat → ClassId) (sz : Nat) (i_0 : Int32) (i_1 : Int32) (h0 : mm_rg i_0 1 8) (h1 : mm_rg i_1 0 7)  : mm_CI l yX12_common (mm_ws yX12_common cX12_common 2 (some .int)) ({ frames := 7, cells := 0, slots := 0, locals := 147 } : Room) G cy sz [] [.int i_0, .int i_1] (fun u : Unit => []) (fun (r : Int32) (u : Unit) => mm_rg r 1 8 ∧ mm_gcd i_0 i_1 r) 0 0 := by
  refine mm_begin (lv := [(0, .int i_0), (1, .int i_1)]) (by decide) (Nat.le_of_ble_eq_true rfl) rfl ?_
  intro p e s m below meth c A ls R args Q H locs hRe hQ hAe hx hb hr hlocks hml hown hnm hts hsz hA hS hP hK hD hZ hl
  have hRf : R.frames = 7 := by rw [hRe]
  have hRl : R.locals = 147 := by rw [hRe]
  have hRc : R.cells = 0 := by rw [hRe]
  have hRs : R.slots = 0 := by rw [hRe]
  refine lv_iload_n hx hb dX12_common_0 rfl (lv_at hl 1 rfl) ?_
  refine lv_if_ne (tgt := 8) hx hb dX12_common_1 (by decide) (fun c1 => ?_) (fun c1 => ?_)
  · have q2 := mm_neL (lo := 1) (mm_ne c1) h1 mm_k0 (by decide) (by decide)
    refine lv_iload_n hx hb dX12_common_8 rfl (lv_at hl 1 rfl) ?_
    refine lv_iload_n hx hb dX12_common_9 rfl (lv_at hl 0 rfl) ?_
    refine lv_iload_n hx hb dX12_common_10 rfl (lv_at hl 1 rfl) ?_
    refine lv_irem hx hb dX12_common_11 (mm_nz q2 (by decide)) ?_
    refine lv_topi (fun v3 ev3 => ?_)
    have rv3 : mm_rg v3 0 6 := mm_rem ev3 h0 q2 (by decide) (by decide)
    refine mm_finir (va_runS (As := [.int i_1, .int v3]) (rest := []) ⟨hx, hb, hml, hown, hts⟩ (M113_X12_common l G cy H.size i_1 v3 q2 rv3) (va_cwS 2 hts (mm_gS mm_w706 mm_w707 mm_w5 mm_w708) rfl rfl rfl hs_X12_common ⟨by rw [hRf]; exact Nat.le_of_ble_eq_true rfl, by rw [hRl]; exact Nat.le_of_ble_eq_true rfl⟩) (mm_preS hK hZ hS hA hP hD [] rfl rfl) rfl rfl hl.1 rfl (lv_room (Nat.le_of_ble_eq_true rfl)) dX12_common_12 ⟨by rw [hRc]; exact Nat.le_of_ble_eq_true rfl, by rw [hRs]; exact Nat.le_of_ble_eq_true rfl⟩) hP hD hS hA [] rfl (fun _ => rfl) ?_
    clear hP hD hS
    clear H locs
    intro v4 _u H locs hw hP hD hS
    obtain ⟨w5, w6⟩ := hw
    have w7 : mm_gcd i_0 i_1 v4 := (mm_gcd_s w6 ev3 h0 q2 (by decide))
    subst hAe
    rw [hQ]
    exact W.iret (v := v4) hx hb hr (fun t ht hW => ⟨⟨v4, (), rfl, ⟨(mm_wk w5 (by decide)), w7⟩, by rw [ht]; exact hP, hK.warm hW, hD⟩, hS.F ht⟩) hS.2.2 dX12_common_15
  · have q8 := mm_eqI (lo := 0) (hi := 0) c1 h1 mm_k0 (by decide)
    refine lv_iload_n hx hb dX12_common_4 rfl (lv_at hl 0 rfl) ?_
    refine lv_goto (tgt := 15) hx hb dX12_common_5 (by decide) ?_
    have w9 : mm_gcd i_0 i_1 i_0 := (mm_gcd_0 h0 q8 (by decide))
    subst hAe
    rw [hQ]
    exact W.iret (v := i_0) hx hb hr (fun t ht hW => ⟨⟨i_0, (), rfl, ⟨h0, w9⟩, by rw [ht]; exact hP, hK.warm hW, hD⟩, hS.F ht⟩) hS.2.2 dX12_common_15

set_option maxHeartbeats 4000000 in
set_option maxRecDepth 100000 in
theorem M115_X12_common (l : Launch) (G : va_G) (cy : Nat → ClassId) (sz : Nat) (i_0 : Int32) (i_1 : Int32) (h0 : mm_rg i_0 1 9) (h1 : mm_rg i_1 0 8)  : mm_CI l yX12_common (mm_ws yX12_common cX12_common 2 (some .int)) ({ frames := 8, cells := 0, slots := 0, locals := 168 } : Room) G cy sz [] [.int i_0, .int i_1] (fun u : Unit => []) (fun (r : Int32) (u : Unit) => mm_rg r 1 9 ∧ mm_gcd i_0 i_1 r) 0 0 := by
  refine mm_begin (lv := [(0, .int i_0), (1, .int i_1)]) (by decide) (Nat.le_of_ble_eq_true rfl) rfl ?_
  intro p e s m below meth c A ls R args Q H locs hRe hQ hAe hx hb hr hlocks hml hown hnm hts hsz hA hS hP hK hD hZ hl
  have hRf : R.frames = 8 := by rw [hRe]
  have hRl : R.locals = 168 := by rw [hRe]
  have hRc : R.cells = 0 := by rw [hRe]
  have hRs : R.slots = 0 := by rw [hRe]
  refine lv_iload_n hx hb dX12_common_0 rfl (lv_at hl 1 rfl) ?_
  refine lv_if_ne (tgt := 8) hx hb dX12_common_1 (by decide) (fun c1 => ?_) (fun c1 => ?_)
  · have q2 := mm_neL (lo := 1) (mm_ne c1) h1 mm_k0 (by decide) (by decide)
    refine lv_iload_n hx hb dX12_common_8 rfl (lv_at hl 1 rfl) ?_
    refine lv_iload_n hx hb dX12_common_9 rfl (lv_at hl 0 rfl) ?_
    refine lv_iload_n hx hb dX12_common_10 rfl (lv_at hl 1 rfl) ?_
    refine lv_irem hx hb dX12_common_11 (mm_nz q2 (by decide)) ?_
    refine lv_topi (fun v3 ev3 => ?_)
    have rv3 : mm_rg v3 0 7 := mm_rem ev3 h0 q2 (by decide) (by decide)
    refine mm_finir (va_runS (As := [.int i_1, .int v3]) (rest := []) ⟨hx, hb, hml, hown, hts⟩ (M114_X12_common l G cy H.size i_1 v3 q2 rv3) (va_cwS 2 hts (mm_gS mm_w706 mm_w707 mm_w5 mm_w708) rfl rfl rfl hs_X12_common ⟨by rw [hRf]; exact Nat.le_of_ble_eq_true rfl, by rw [hRl]; exact Nat.le_of_ble_eq_true rfl⟩) (mm_preS hK hZ hS hA hP hD [] rfl rfl) rfl rfl hl.1 rfl (lv_room (Nat.le_of_ble_eq_true rfl)) dX12_common_12 ⟨by rw [hRc]; exact Nat.le_of_ble_eq_true rfl, by rw [hRs]; exact Nat.le_of_ble_eq_true rfl⟩) hP hD hS hA [] rfl (fun _ => rfl) ?_
    clear hP hD hS
    clear H locs
    intro v4 _u H locs hw hP hD hS
    obtain ⟨w5, w6⟩ := hw
    have w7 : mm_gcd i_0 i_1 v4 := (mm_gcd_s w6 ev3 h0 q2 (by decide))
    subst hAe
    rw [hQ]
    exact W.iret (v := v4) hx hb hr (fun t ht hW => ⟨⟨v4, (), rfl, ⟨(mm_wk w5 (by decide)), w7⟩, by rw [ht]; exact hP, hK.warm hW, hD⟩, hS.F ht⟩) hS.2.2 dX12_common_15
  · have q8 := mm_eqI (lo := 0) (hi := 0) c1 h1 mm_k0 (by decide)
    refine lv_iload_n hx hb dX12_common_4 rfl (lv_at hl 0 rfl) ?_
    refine lv_goto (tgt := 15) hx hb dX12_common_5 (by decide) ?_
    have w9 : mm_gcd i_0 i_1 i_0 := (mm_gcd_0 h0 q8 (by decide))
    subst hAe
    rw [hQ]
    exact W.iret (v := i_0) hx hb hr (fun t ht hW => ⟨⟨i_0, (), rfl, ⟨h0, w9⟩, by rw [ht]; exact hP, hK.warm hW, hD⟩, hS.F ht⟩) hS.2.2 dX12_common_15

set_option maxHeartbeats 4000000 in
set_option maxRecDepth 100000 in
theorem M116_X12_common (l : Launch) (G : va_G) (cy : Nat → ClassId) (sz : Nat) (i_0 : Int32) (i_1 : Int32) (h0 : mm_rg i_0 1 10) (h1 : mm_rg i_1 0 9)  : mm_CI l yX12_common (mm_ws yX12_common cX12_common 2 (some .int)) ({ frames := 9, cells := 0, slots := 0, locals := 189 } : Room) G cy sz [] [.int i_0, .int i_1] (fun u : Unit => []) (fun (r : Int32) (u : Unit) => mm_rg r 1 10 ∧ mm_gcd i_0 i_1 r) 0 0 := by
  refine mm_begin (lv := [(0, .int i_0), (1, .int i_1)]) (by decide) (Nat.le_of_ble_eq_true rfl) rfl ?_
  intro p e s m below meth c A ls R args Q H locs hRe hQ hAe hx hb hr hlocks hml hown hnm hts hsz hA hS hP hK hD hZ hl
  have hRf : R.frames = 9 := by rw [hRe]
  have hRl : R.locals = 189 := by rw [hRe]
  have hRc : R.cells = 0 := by rw [hRe]
  have hRs : R.slots = 0 := by rw [hRe]
  refine lv_iload_n hx hb dX12_common_0 rfl (lv_at hl 1 rfl) ?_
  refine lv_if_ne (tgt := 8) hx hb dX12_common_1 (by decide) (fun c1 => ?_) (fun c1 => ?_)
  · have q2 := mm_neL (lo := 1) (mm_ne c1) h1 mm_k0 (by decide) (by decide)
    refine lv_iload_n hx hb dX12_common_8 rfl (lv_at hl 1 rfl) ?_
    refine lv_iload_n hx hb dX12_common_9 rfl (lv_at hl 0 rfl) ?_
    refine lv_iload_n hx hb dX12_common_10 rfl (lv_at hl 1 rfl) ?_
    refine lv_irem hx hb dX12_common_11 (mm_nz q2 (by decide)) ?_
    refine lv_topi (fun v3 ev3 => ?_)
    have rv3 : mm_rg v3 0 8 := mm_rem ev3 h0 q2 (by decide) (by decide)
    refine mm_finir (va_runS (As := [.int i_1, .int v3]) (rest := []) ⟨hx, hb, hml, hown, hts⟩ (M115_X12_common l G cy H.size i_1 v3 q2 rv3) (va_cwS 2 hts (mm_gS mm_w706 mm_w707 mm_w5 mm_w708) rfl rfl rfl hs_X12_common ⟨by rw [hRf]; exact Nat.le_of_ble_eq_true rfl, by rw [hRl]; exact Nat.le_of_ble_eq_true rfl⟩) (mm_preS hK hZ hS hA hP hD [] rfl rfl) rfl rfl hl.1 rfl (lv_room (Nat.le_of_ble_eq_true rfl)) dX12_common_12 ⟨by rw [hRc]; exact Nat.le_of_ble_eq_true rfl, by rw [hRs]; exact Nat.le_of_ble_eq_true rfl⟩) hP hD hS hA [] rfl (fun _ => rfl) ?_
    clear hP hD hS
    clear H locs
    intro v4 _u H locs hw hP hD hS
    obtain ⟨w5, w6⟩ := hw
    have w7 : mm_gcd i_0 i_1 v4 := (mm_gcd_s w6 ev3 h0 q2 (by decide))
    subst hAe
    rw [hQ]
    exact W.iret (v := v4) hx hb hr (fun t ht hW => ⟨⟨v4, (), rfl, ⟨(mm_wk w5 (by decide)), w7⟩, by rw [ht]; exact hP, hK.warm hW, hD⟩, hS.F ht⟩) hS.2.2 dX12_common_15
  · have q8 := mm_eqI (lo := 0) (hi := 0) c1 h1 mm_k0 (by decide)
    refine lv_iload_n hx hb dX12_common_4 rfl (lv_at hl 0 rfl) ?_
    refine lv_goto (tgt := 15) hx hb dX12_common_5 (by decide) ?_
    have w9 : mm_gcd i_0 i_1 i_0 := (mm_gcd_0 h0 q8 (by decide))
    subst hAe
    rw [hQ]
    exact W.iret (v := i_0) hx hb hr (fun t ht hW => ⟨⟨i_0, (), rfl, ⟨h0, w9⟩, by rw [ht]; exact hP, hK.warm hW, hD⟩, hS.F ht⟩) hS.2.2 dX12_common_15

set_option maxHeartbeats 4000000 in
set_option maxRecDepth 100000 in
theorem M118_X12_common (l : Launch) (G : va_G) (cy : Nat → ClassId) (sz : Nat) (i_0 : Int32) (i_1 : Int32) (h0 : mm_rg i_0 1 30) (h1 : mm_rg i_1 1 10)  : mm_CI l yX12_common (mm_ws yX12_common cX12_common 2 (some .int)) ({ frames := 10, cells := 0, slots := 0, locals := 210 } : Room) G cy sz [] [.int i_0, .int i_1] (fun u : Unit => []) (fun (r : Int32) (u : Unit) => mm_rg r 1 10 ∧ mm_gcd i_0 i_1 r) 0 0 := by
  refine mm_begin (lv := [(0, .int i_0), (1, .int i_1)]) (by decide) (Nat.le_of_ble_eq_true rfl) rfl ?_
  intro p e s m below meth c A ls R args Q H locs hRe hQ hAe hx hb hr hlocks hml hown hnm hts hsz hA hS hP hK hD hZ hl
  have hRf : R.frames = 10 := by rw [hRe]
  have hRl : R.locals = 210 := by rw [hRe]
  have hRc : R.cells = 0 := by rw [hRe]
  have hRs : R.slots = 0 := by rw [hRe]
  refine lv_iload_n hx hb dX12_common_0 rfl (lv_at hl 1 rfl) ?_
  refine lv_if_ne (tgt := 8) hx hb dX12_common_1 (by decide) (fun c1 => ?_) (fun c1 => ?_)
  · refine lv_iload_n hx hb dX12_common_8 rfl (lv_at hl 1 rfl) ?_
    refine lv_iload_n hx hb dX12_common_9 rfl (lv_at hl 0 rfl) ?_
    refine lv_iload_n hx hb dX12_common_10 rfl (lv_at hl 1 rfl) ?_
    refine lv_irem hx hb dX12_common_11 (mm_nz h1 (by decide)) ?_
    refine lv_topi (fun v2 ev2 => ?_)
    have rv2 : mm_rg v2 0 9 := mm_rem ev2 h0 h1 (by decide) (by decide)
    refine mm_finir (va_runS (As := [.int i_1, .int v2]) (rest := []) ⟨hx, hb, hml, hown, hts⟩ (M116_X12_common l G cy H.size i_1 v2 h1 rv2) (va_cwS 2 hts (mm_gS mm_w706 mm_w707 mm_w5 mm_w708) rfl rfl rfl hs_X12_common ⟨by rw [hRf]; exact Nat.le_of_ble_eq_true rfl, by rw [hRl]; exact Nat.le_of_ble_eq_true rfl⟩) (mm_preS hK hZ hS hA hP hD [] rfl rfl) rfl rfl hl.1 rfl (lv_room (Nat.le_of_ble_eq_true rfl)) dX12_common_12 ⟨by rw [hRc]; exact Nat.le_of_ble_eq_true rfl, by rw [hRs]; exact Nat.le_of_ble_eq_true rfl⟩) hP hD hS hA [] rfl (fun _ => rfl) ?_
    clear hP hD hS
    clear H locs
    intro v3 _u H locs hw hP hD hS
    obtain ⟨w4, w5⟩ := hw
    have w6 : mm_gcd i_0 i_1 v3 := (mm_gcd_s w5 ev2 h0 h1 (by decide))
    subst hAe
    rw [hQ]
    exact W.iret (v := v3) hx hb hr (fun t ht hW => ⟨⟨v3, (), rfl, ⟨w4, w6⟩, by rw [ht]; exact hP, hK.warm hW, hD⟩, hS.F ht⟩) hS.2.2 dX12_common_15
  · exact mm_eqN c1.symm mm_k0 h1 (by decide)

set_option maxHeartbeats 4000000 in
set_option maxRecDepth 100000 in
theorem M119_X12_orderOf (l : Launch) (G : va_G) (cy : Nat → ClassId) (sz : Nat) (a_0 : Nat) (i_0 : Int32) (i_1 : Int32) (a_1 : Nat) (a_2 : Nat) (a_3 : Nat) (a_4 : Nat) (a_5 : Nat) (i_2 : Int32) (i_3 : Int32) (i_4 : Int32) (i_5 : Int32) (i_6 : Int32) (j_0 : Int64) (i_7 : Int32) (i_8 : Int32) (i_9 : Int32) (i_10 : Int32) (a_6 : Nat) (a_7 : Nat) (a_8 : Nat) (a_9 : Nat) (a_10 : Nat) (a_11 : Nat) (a_12 : Nat) (a_13 : Nat) (a_14 : Nat) (a_15 : Nat) (a_16 : Nat) (a_17 : Nat) (a_18 : Nat) (i_11 : Int32) (i_12 : Int32) (i_13 : Int32) (i_14 : Int32) (i_15 : Int32) (i_16 : Int32) (a_19 : Nat) (i_17 : Int32) (a_20 : Nat) (i_18 : Int32) (i_19 : Int32) (i_20 : Int32) (i_21 : Int32) (i_22 : Int32) (i_23 : Int32) (i_24 : Int32) (i_25 : Int32) (i_26 : Int32) (i_27 : Int32) (i_28 : Int32) (i_29 : Int32) (i_30 : Int32) (i_31 : Int32) (i_32 : Int32) (i_33 : Int32) (i_34 : Int32) (i_35 : Int32) (i_36 : Int32) (i_37 : Int32) (i_38 : Int32) (i_39 : Int32) (i_40 : Int32) (i_41 : Int32) (i_42 : Int32) (i_43 : Int32) (i_44 : Int32) (i_45 : Int32) (i_46 : Int32) (i_47 : Int32) (i_48 : Int32) (i_49 : Int32) (i_50 : Int32) (i_51 : Int32) (i_52 : Int32) (f_0 : Nat → Int32) (f_1 : Nat → Int32) (h0 : mm_rg i_0 0 2) (h1 : mm_rg i_18 0 601) (h2 : mm_rg i_19 0 601) (h3 : mm_rg i_20 0 601) (h4 : mm_rg i_21 0 601) (h5 : mm_rg i_22 0 601) (h6 : mm_rg i_23 0 10) (h7 : mm_rg i_24 0 99) (h8 : mm_rg i_25 0 9) (h9 : mm_rg i_26 0 3) (h10 : mm_rg i_27 0 6) (h11 : mm_rg i_28 0 30) (h12 : mm_rg i_29 0 10) (h13 : mm_rg i_30 0 99) (h14 : mm_rg i_31 0 9) (h15 : mm_rg i_32 0 3) (h16 : mm_rg i_33 0 6) (h17 : mm_rg i_34 0 30) (h18 : mm_rg i_35 0 10) (h19 : mm_rg i_36 0 99) (h20 : mm_rg i_37 0 9) (h21 : mm_rg i_38 0 3) (h22 : mm_rg i_39 0 6) (h23 : mm_rg i_40 0 30) (h24 : mm_rg i_41 0 10) (h25 : mm_rg i_42 0 99) (h26 : mm_rg i_43 0 9) (h27 : mm_rg i_44 0 3) (h28 : mm_rg i_45 0 6) (h29 : mm_rg i_46 0 30) (h30 : mm_rg i_47 0 10) (h31 : mm_rg i_48 0 99) (h32 : mm_rg i_49 0 9) (h33 : mm_rg i_50 0 3) (h34 : mm_rg i_51 0 6) (h35 : mm_rg i_52 0 30) (h36 : mm_ar f_0 0 7) (h37 : mm_ar f_1 0 9) (h38 : mm_rls f_0 f_1 0 i_25 i_26) (h39 : mm_tl i_18 i_26 i_27) (h40 : mm_rls f_0 f_1 1 i_31 i_32) (h41 : mm_tl i_19 i_32 i_33) (h42 : mm_rls f_0 f_1 2 i_37 i_38) (h43 : mm_tl i_20 i_38 i_39) (h44 : mm_rls f_0 f_1 3 i_43 i_44) (h45 : mm_tl i_21 i_44 i_45) (h46 : (i_0 : Int32).toInt < (i_26 : Int32).toInt)  : mm_CI l yX12_orderOf (mm_ws yX12_orderOf cX12_orderOf 4 (some .int)) ({ frames := 11, cells := 0, slots := 0, locals := 231 } : Room) G cy sz [(a_0, .inr (12, [.int i_1, .ref a_1, .ref a_2, .ref a_3, .ref a_4, .ref a_5, .int i_2, .int i_3, .int i_4, .int i_5, .int i_6, .long j_0, .int i_7, .int i_8, .int i_9, .int i_10, .ref a_6, .ref a_7, .ref a_8, .ref a_9, .ref a_10, .ref a_11, .ref a_12, .ref a_13, .ref a_14, .ref a_15, .ref a_16, .ref a_17, .ref a_18, .int i_11, .int i_12, .int i_13, .int i_14, .int i_15, .int i_16, .ref a_19, .int i_17, .ref a_20])), (a_6, .inl (cy 1, 5, .inl (mm_g [i_18, i_19, i_20, i_21, i_22]))), (a_7, .inl (cy 1, 30, .inl (mm_g [i_23, i_24, i_25, i_26, i_27, i_28, i_29, i_30, i_31, i_32, i_33, i_34, i_35, i_36, i_37, i_38, i_39, i_40, i_41, i_42, i_43, i_44, i_45, i_46, i_47, i_48, i_49, i_50, i_51, i_52]))), (a_9, .inl (cy 1, 15, .inl f_0)), (a_10, .inl (cy 1, 1050, .inl f_1))] [.ref a_0, .int i_0] (fun u : Unit => [(a_0, .inr (12, [.int i_1, .ref a_1, .ref a_2, .ref a_3, .ref a_4, .ref a_5, .int i_2, .int i_3, .int i_4, .int i_5, .int i_6, .long j_0, .int i_7, .int i_8, .int i_9, .int i_10, .ref a_6, .ref a_7, .ref a_8, .ref a_9, .ref a_10, .ref a_11, .ref a_12, .ref a_13, .ref a_14, .ref a_15, .ref a_16, .ref a_17, .ref a_18, .int i_11, .int i_12, .int i_13, .int i_14, .int i_15, .int i_16, .ref a_19, .int i_17, .ref a_20])), (a_6, .inl (cy 1, 5, .inl (mm_g [i_18, i_19, i_20, i_21, i_22]))), (a_7, .inl (cy 1, 30, .inl (mm_g [i_23, i_24, i_25, i_26, i_27, i_28, i_29, i_30, i_31, i_32, i_33, i_34, i_35, i_36, i_37, i_38, i_39, i_40, i_41, i_42, i_43, i_44, i_45, i_46, i_47, i_48, i_49, i_50, i_51, i_52]))), (a_9, .inl (cy 1, 15, .inl f_0)), (a_10, .inl (cy 1, 1050, .inl f_1))]) (fun (r : Int32) (u : Unit) => mm_rg r 1 30) 0 0 := by
  refine mm_begin (lv := [(0, .ref a_0), (1, .int i_0)]) (by decide) (Nat.le_of_ble_eq_true rfl) rfl ?_
  intro p e s m below meth c A ls R args Q H locs hRe hQ hAe hx hb hr hlocks hml hown hnm hts hsz hA hS hP hK hD hZ hl
  have hRf : R.frames = 11 := by rw [hRe]
  have hRl : R.locals = 231 := by rw [hRe]
  have hRc : R.cells = 0 := by rw [hRe]
  have hRs : R.slots = 0 := by rw [hRe]
  have q1 := mm_ltR (lo := 1) h46 h0 h9 (by decide)
  have q2 : mm_rg i_18 1 601 := mm_tl_3 h39 q1 h1 (by decide)
  refine lv_iconst (v := 1) hx hb dX12_orderOf_0 (by decide) ?_
  refine lv_istore_n (lv' := [(2, .int 1), (0, .ref a_0), (1, .int i_0)]) hx hb dX12_orderOf_1 rfl hl (by decide) rfl ?_
  clear hl
  clear ls
  intro ls hl
  refine lv_iconst (v := 0) hx hb dX12_orderOf_2 (by decide) ?_
  refine lv_istore_n (lv' := [(3, .int 0), (2, .int 1), (0, .ref a_0), (1, .int i_0)]) hx hb dX12_orderOf_3 rfl hl (by decide) rfl ?_
  clear hl
  clear ls
  intro ls hl
  have L4_239 : ∀ (n : Nat) (x4_3_237 : Int32) (x4_2_238 : Int32), mm_rg x4_3_237 0 10 → mm_rg x4_2_238 1 30 → mm_od f_0 f_1 i_0 x4_2_238 x4_3_237 → (10 - x4_3_237.toInt).toNat < n → ∀ (H : Heap) (locs : List Loc), va_P G vwCl [(a_0, .inr (12, [.int i_1, .ref a_1, .ref a_2, .ref a_3, .ref a_4, .ref a_5, .int i_2, .int i_3, .int i_4, .int i_5, .int i_6, .long j_0, .int i_7, .int i_8, .int i_9, .int i_10, .ref a_6, .ref a_7, .ref a_8, .ref a_9, .ref a_10, .ref a_11, .ref a_12, .ref a_13, .ref a_14, .ref a_15, .ref a_16, .ref a_17, .ref a_18, .int i_11, .int i_12, .int i_13, .int i_14, .int i_15, .int i_16, .ref a_19, .int i_17, .ref a_20])), (a_6, .inl (cy 1, 5, .inl (mm_g [i_18, i_19, i_20, i_21, i_22]))), (a_7, .inl (cy 1, 30, .inl (mm_g [i_23, i_24, i_25, i_26, i_27, i_28, i_29, i_30, i_31, i_32, i_33, i_34, i_35, i_36, i_37, i_38, i_39, i_40, i_41, i_42, i_43, i_44, i_45, i_46, i_47, i_48, i_49, i_50, i_51, i_52]))), (a_9, .inl (cy 1, 15, .inl f_0)), (a_10, .inl (cy 1, 1050, .inl f_1))] H → va_D A [(a_0, .inr (12, [.int i_1, .ref a_1, .ref a_2, .ref a_3, .ref a_4, .ref a_5, .int i_2, .int i_3, .int i_4, .int i_5, .int i_6, .long j_0, .int i_7, .int i_8, .int i_9, .int i_10, .ref a_6, .ref a_7, .ref a_8, .ref a_9, .ref a_10, .ref a_11, .ref a_12, .ref a_13, .ref a_14, .ref a_15, .ref a_16, .ref a_17, .ref a_18, .int i_11, .int i_12, .int i_13, .int i_14, .int i_15, .int i_16, .ref a_19, .int i_17, .ref a_20])), (a_6, .inl (cy 1, 5, .inl (mm_g [i_18, i_19, i_20, i_21, i_22]))), (a_7, .inl (cy 1, 30, .inl (mm_g [i_23, i_24, i_25, i_26, i_27, i_28, i_29, i_30, i_31, i_32, i_33, i_34, i_35, i_36, i_37, i_38, i_39, i_40, i_41, i_42, i_43, i_44, i_45, i_46, i_47, i_48, i_49, i_50, i_51, i_52]))), (a_9, .inl (cy 1, 15, .inl f_0)), (a_10, .inl (cy 1, 1050, .inl f_1))] → va_S A s.heap H locs → ∀ (ls : Array Slot), lv_has ls 4 [(3, .int x4_3_237), (2, .int x4_2_238), (0, .ref a_0), (1, .int i_0)] → W p l e R s m args below meth c H locs 0 0 Q (F0 m 4 ls []) := by
    intro n
    induction n with
    | zero => intro x4_3_237 x4_2_238 rx4_3_237 rx4_2_238 w239 hm; exact absurd hm (Nat.not_lt_zero _)
    | succ n ih4 =>
      intro x4_3_237 x4_2_238 rx4_3_237 rx4_2_238 w239 hm4 H locs hP hD hS ls hl
      refine lv_iload_n hx hb dX12_orderOf_4 rfl (lv_at hl 0 rfl) ?_
      refine lv_aload_n hx hb dX12_orderOf_5 rfl (lv_at hl 2 rfl) ?_
      refine mm_finir (va_runV (As := []) (rest := [.int x4_3_237]) ⟨hx, hb, hml, hown, hts⟩ (M100_X12_words l G cy H.size a_0 i_1 a_1 a_2 a_3 a_4 a_5 i_2 i_3 i_4 i_5 i_6 j_0 i_7 i_8 i_9 i_10 a_6 a_7 a_8 a_9 a_10 a_11 a_12 a_13 a_14 a_15 a_16 a_17 a_18 i_11 i_12 i_13 i_14 i_15 i_16 a_19 i_17 a_20 i_18 i_19 i_20 i_21 i_22 i_23 i_24 i_25 i_26 i_27 i_28 i_29 i_30 i_31 i_32 i_33 i_34 i_35 i_36 i_37 i_38 i_39 i_40 i_41 i_42 i_43 i_44 i_45 i_46 i_47 i_48 i_49 i_50 i_51 i_52 q2 h2 h3 h4 h5 h6 h7 h8 (mm_wk q1 (by decide)) h10 h11 h12 h13 h14 h15 h16 h17 h18 h19 h20 h21 h22 h23 h24 h25 h26 h27 h28 h29 h30 h31 h32 h33 h34 h35 h39 h41 h43 h45) (cwV 0 hts (mm_gV mm_w649 mm_w650 mm_w651 mm_w5 mm_w652) rfl rfl rfl hd_X12_words ⟨by rw [hRf]; exact Nat.le_of_ble_eq_true rfl, by rw [hRl]; exact Nat.le_of_ble_eq_true rfl⟩) (mm_preV hK hZ hS hA hP hD [0, 1, 2] rfl rfl 0 rfl rfl rfl) rfl rfl hl.1 rfl (lv_room (Nat.le_of_ble_eq_true rfl)) dX12_orderOf_6 ⟨by rw [hRc]; exact Nat.le_of_ble_eq_true rfl, by rw [hRs]; exact Nat.le_of_ble_eq_true rfl⟩) hP hD hS hA [0, 1, 2] rfl (fun _ => rfl) ?_
      clear hP hD hS
      clear H locs
      intro v241 _u H locs hw hP hD hS
      obtain ⟨w242, w243⟩ := hw
      have t244 : (v241 : Int32).toInt = (i_25 : Int32).toInt + 1 := w243
      refine lv_icmp_ge (tgt := 38) hx hb dX12_orderOf_9 (by decide) (fun c245 => ?_) (fun c245 => ?_)
      · have q246 := mm_leR (mm_le c245) w242 rx4_3_237
        refine lv_iload_n hx hb dX12_orderOf_38 rfl (lv_at hl 1 rfl) ?_
        subst hAe
        rw [hQ]
        exact W.iret (v := x4_2_238) hx hb hr (fun t ht hW => ⟨⟨x4_2_238, (), rfl, rx4_2_238, by rw [ht]; exact hP, hK.warm hW, hD⟩, hS.F ht⟩) hS.2.2 dX12_orderOf_39
      · have q247 := mm_ltL (h := 9) (mm_nle c245) rx4_3_237 w242 (by decide)
        refine lv_iload_n hx hb dX12_orderOf_12 rfl (lv_at hl 1 rfl) ?_
        refine lv_iload_n hx hb dX12_orderOf_13 rfl (lv_at hl 1 rfl) ?_
        refine lv_aload_n hx hb dX12_orderOf_14 rfl (lv_at hl 2 rfl) ?_
        refine lv_iload_n hx hb dX12_orderOf_15 rfl (lv_at hl 3 rfl) ?_
        refine lv_iload_n hx hb dX12_orderOf_16 rfl (lv_at hl 0 rfl) ?_
        refine mm_finir (va_runV (As := [.int i_0, .int x4_3_237]) (rest := [.int x4_2_238, .int x4_2_238]) ⟨hx, hb, hml, hown, hts⟩ (M106_X12_cycleOf l G cy H.size a_0 i_0 x4_3_237 i_1 a_1 a_2 a_3 a_4 a_5 i_2 i_3 i_4 i_5 i_6 j_0 i_7 i_8 i_9 i_10 a_6 a_7 a_8 a_9 a_10 a_11 a_12 a_13 a_14 a_15 a_16 a_17 a_18 i_11 i_12 i_13 i_14 i_15 i_16 a_19 i_17 a_20 f_0 f_1 h0 q247 h36 h37 (mm_rw_of h38 h46 (by have := t244; have := (mm_nle c245); omega) h0 q247 h8 (h36 _).2 (by decide))) (cwV 2 hts (mm_gV mm_w698 mm_w699 mm_w700 mm_w5 mm_w701) rfl rfl rfl hd_X12_cycleOf ⟨by rw [hRf]; exact Nat.le_of_ble_eq_true rfl, by rw [hRl]; exact Nat.le_of_ble_eq_true rfl⟩) (mm_preV hK hZ hS hA hP hD [0, 3, 4] rfl rfl 0 rfl rfl rfl) rfl rfl hl.1 rfl (lv_room (Nat.le_of_ble_eq_true rfl)) dX12_orderOf_17 ⟨by rw [hRc]; exact Nat.le_of_ble_eq_true rfl, by rw [hRs]; exact Nat.le_of_ble_eq_true rfl⟩) hP hD hS hA [0, 3, 4] rfl (fun _ => rfl) ?_
        clear hP hD hS
        clear H locs
        intro v248 _u H locs hw hP hD hS
        obtain ⟨w249, w250⟩ := hw
        refine mm_finir (va_runS (As := [.int x4_2_238, .int v248]) (rest := [.int x4_2_238]) ⟨hx, hb, hml, hown, hts⟩ (M118_X12_common l G cy H.size x4_2_238 v248 rx4_2_238 w249) (va_cwS 2 hts (mm_gS mm_w706 mm_w707 mm_w5 mm_w708) rfl rfl rfl hs_X12_common ⟨by rw [hRf]; exact Nat.le_of_ble_eq_true rfl, by rw [hRl]; exact Nat.le_of_ble_eq_true rfl⟩) (mm_preS hK hZ hS hA hP hD [] rfl rfl) rfl rfl hl.1 rfl (lv_room (Nat.le_of_ble_eq_true rfl)) dX12_orderOf_20 ⟨by rw [hRc]; exact Nat.le_of_ble_eq_true rfl, by rw [hRs]; exact Nat.le_of_ble_eq_true rfl⟩) hP hD hS hA [] rfl (fun _ => rfl) ?_
        clear hP hD hS
        clear H locs
        intro v251 _u H locs hw hP hD hS
        obtain ⟨w252, w253⟩ := hw
        refine lv_idiv hx hb dX12_orderOf_23 (mm_nz w252 (by decide)) ?_
        refine lv_topi (fun v254 ev254 => ?_)
        have rv254 : mm_rg v254 0 30 := mm_div ev254 rx4_2_238 w252 (by decide) (by decide)
        refine lv_aload_n hx hb dX12_orderOf_24 rfl (lv_at hl 2 rfl) ?_
        refine lv_iload_n hx hb dX12_orderOf_25 rfl (lv_at hl 3 rfl) ?_
        refine lv_iload_n hx hb dX12_orderOf_26 rfl (lv_at hl 0 rfl) ?_
        refine mm_finir (va_runV (As := [.int i_0, .int x4_3_237]) (rest := [.int v254]) ⟨hx, hb, hml, hown, hts⟩ (M106_X12_cycleOf l G cy H.size a_0 i_0 x4_3_237 i_1 a_1 a_2 a_3 a_4 a_5 i_2 i_3 i_4 i_5 i_6 j_0 i_7 i_8 i_9 i_10 a_6 a_7 a_8 a_9 a_10 a_11 a_12 a_13 a_14 a_15 a_16 a_17 a_18 i_11 i_12 i_13 i_14 i_15 i_16 a_19 i_17 a_20 f_0 f_1 h0 q247 h36 h37 (mm_rw_of h38 h46 (by have := t244; have := (mm_nle c245); omega) h0 q247 h8 (h36 _).2 (by decide))) (cwV 2 hts (mm_gV mm_w698 mm_w699 mm_w700 mm_w5 mm_w701) rfl rfl rfl hd_X12_cycleOf ⟨by rw [hRf]; exact Nat.le_of_ble_eq_true rfl, by rw [hRl]; exact Nat.le_of_ble_eq_true rfl⟩) (mm_preV hK hZ hS hA hP hD [0, 3, 4] rfl rfl 0 rfl rfl rfl) rfl rfl hl.1 rfl (lv_room (Nat.le_of_ble_eq_true rfl)) dX12_orderOf_27 ⟨by rw [hRc]; exact Nat.le_of_ble_eq_true rfl, by rw [hRs]; exact Nat.le_of_ble_eq_true rfl⟩) hP hD hS hA [0, 3, 4] rfl (fun _ => rfl) ?_
        clear hP hD hS
        clear H locs
        intro v255 _u H locs hw hP hD hS
        obtain ⟨w256, w257⟩ := hw
        refine lv_imul hx hb dX12_orderOf_30 ?_
        refine lv_topi (fun v258 ev258 => ?_)
        have rv258 : mm_rg v258 0 300 := mm_mul ev258 rv254 w256 (by decide) (by decide)
        have tv258 := mm_mulE ev258 (mm_wk (l2 := 0) (h2 := 30) rv254 (by decide)) (mm_wk (l2 := 0) (h2 := 10) w256 (by decide)) (by decide)
        refine lv_istore_n (lv' := [(2, .int v258), (3, .int x4_3_237), (0, .ref a_0), (1, .int i_0)]) hx hb dX12_orderOf_31 rfl hl (by decide) rfl ?_
        clear hl
        clear ls
        intro ls hl
        obtain ⟨v259, ev259⟩ : ∃ y : Int32, y = x4_3_237 + 1 := ⟨_, rfl⟩
        refine lv_iinc (v := v259) (lv' := [(3, .int v259), (2, .int v258), (0, .ref a_0), (1, .int i_0)]) hx hb dX12_orderOf_32 hl (k := 1) rfl (by rw [ev259]; rfl) (by decide) rfl ?_
        clear hl
        clear ls
        intro ls hl
        have rv259 : mm_rg v259 1 10 := mm_add ev259 q247 mm_k1 (by decide) (by decide)
        have tv259 := mm_addEc ev259 q247 mm_k1 (by decide) (k := 1) (by decide)
        refine lv_goto (tgt := 4) hx hb dX12_orderOf_35 (by decide) ?_
        have q260 : mm_rg v258 1 30 := mm_od_rg (mm_od_s w239 w250 w257 ev254 tv258 w253 tv259 rx4_2_238 w252 q247 (by decide)) h38 h46 (by have := tv259; have := (by have := t244; have := (mm_nle c245); omega); omega) h0 h8 q247 (h36 _).2 (by decide)
        exact ih4 v259 v258 (mm_wk rv259 (by decide)) q260 (mm_od_s w239 w250 w257 ev254 tv258 w253 tv259 rx4_2_238 w252 q247 (by decide)) (mm_mu hm4 tv259 (by decide) (rv259).2 (by decide)) H locs hP hD hS ls (lv_sub hl [0, 1, 2, 3] rfl)
  exact L4_239 _ 0 1 (mm_wk mm_k0 (by decide)) (mm_wk mm_k1 (by decide)) (mm_od_0 _ _ _) (Nat.lt_succ_self _) H locs hP hD hS ls (lv_sub hl [0, 1, 2, 3] rfl)

set_option maxHeartbeats 4000000 in
set_option maxRecDepth 100000 in
theorem M120_X12_isBook (l : Launch) (G : va_G) (cy : Nat → ClassId) (sz : Nat) (a_0 : Nat) (i_0 : Int32) (a_1 : Nat) (a_2 : Nat) (a_3 : Nat) (a_4 : Nat) (a_5 : Nat) (i_1 : Int32) (i_2 : Int32) (i_3 : Int32) (i_4 : Int32) (i_5 : Int32) (j_0 : Int64) (i_6 : Int32) (i_7 : Int32) (i_8 : Int32) (i_9 : Int32) (a_6 : Nat) (a_7 : Nat) (a_8 : Nat) (a_9 : Nat) (a_10 : Nat) (a_11 : Nat) (a_12 : Nat) (a_13 : Nat) (a_14 : Nat) (a_15 : Nat) (a_16 : Nat) (a_17 : Nat) (a_18 : Nat) (i_10 : Int32) (i_11 : Int32) (i_12 : Int32) (i_13 : Int32) (i_14 : Int32) (i_15 : Int32) (a_19 : Nat) (i_16 : Int32) (a_20 : Nat) (i_17 : Int32) (i_18 : Int32) (i_19 : Int32) (i_20 : Int32) (i_21 : Int32) (h0 : mm_rg i_17 0 601) (h1 : mm_rg i_18 0 601) (h2 : mm_rg i_19 0 601) (h3 : mm_rg i_20 0 601) (h4 : mm_rg i_21 0 601)  : mm_CI l yX12_isBook (mm_ws yX12_isBook cX12_isBook 1 (some .boolean)) ({ frames := 0, cells := 0, slots := 0, locals := 0 } : Room) G cy sz [(a_0, .inr (12, [.int i_0, .ref a_1, .ref a_2, .ref a_3, .ref a_4, .ref a_5, .int i_1, .int i_2, .int i_3, .int i_4, .int i_5, .long j_0, .int i_6, .int i_7, .int i_8, .int i_9, .ref a_6, .ref a_7, .ref a_8, .ref a_9, .ref a_10, .ref a_11, .ref a_12, .ref a_13, .ref a_14, .ref a_15, .ref a_16, .ref a_17, .ref a_18, .int i_10, .int i_11, .int i_12, .int i_13, .int i_14, .int i_15, .ref a_19, .int i_16, .ref a_20])), (a_6, .inl (cy 1, 5, .inl (mm_g [i_17, i_18, i_19, i_20, i_21])))] [.ref a_0] (fun u : Unit => [(a_0, .inr (12, [.int i_0, .ref a_1, .ref a_2, .ref a_3, .ref a_4, .ref a_5, .int i_1, .int i_2, .int i_3, .int i_4, .int i_5, .long j_0, .int i_6, .int i_7, .int i_8, .int i_9, .ref a_6, .ref a_7, .ref a_8, .ref a_9, .ref a_10, .ref a_11, .ref a_12, .ref a_13, .ref a_14, .ref a_15, .ref a_16, .ref a_17, .ref a_18, .int i_10, .int i_11, .int i_12, .int i_13, .int i_14, .int i_15, .ref a_19, .int i_16, .ref a_20])), (a_6, .inl (cy 1, 5, .inl (mm_g [i_17, i_18, i_19, i_20, i_21])))]) (fun (r : Int32) (u : Unit) => ((0 = r) ∨ (1 = r))) 0 0 := by
  refine mm_begin (lv := [(0, .ref a_0)]) (by decide) (Nat.le_of_ble_eq_true rfl) rfl ?_
  intro p e s m below meth c A ls R args Q H locs hRe hQ hAe hx hb hr hlocks hml hown hnm hts hsz hA hS hP hK hD hZ hl
  have hRf : R.frames = 0 := by rw [hRe]
  have hRl : R.locals = 0 := by rw [hRe]
  have hRc : R.cells = 0 := by rw [hRe]
  have hRs : R.slots = 0 := by rw [hRe]
  refine lv_aload_n hx hb dX12_isBook_0 rfl (lv_at hl 0 rfl) ?_
  refine va_get (D := G) (ci := 12) (v := .ref a_6) (C := RX12) (T := TX12) (N := 38) hx hb hts (mm_i inlX12) hown hK.1 hP 0 rfl rfl 16 (by decide) (mm_h hts mm_w148) (fun _ h9 => h9) rfl dX12_isBook_1 ?_
  refine lv_iconst (v := 0) hx hb dX12_isBook_4 (by decide) ?_
  refine va_iald hx hb hK.1 hP 1 1 rfl rfl (mm_in mm_k0 (by decide)) dX12_isBook_5 ?_
  rw [show (mm_g [i_17, i_18, i_19, i_20, i_21]) (0 : Int32).toNatClampNeg = i_17 from mm_ge 0 (by decide) rfl]
  refine lv_if_le (tgt := 13) hx hb dX12_isBook_6 (by decide) (fun c1 => ?_) (fun c1 => ?_)
  · have q2 := mm_leL (mm_le c1) h0 mm_k0
    refine lv_iconst (v := 0) hx hb dX12_isBook_13 (by decide) ?_
    subst hAe
    rw [hQ]
    exact W.zret (v := 0) hx hb hr rfl (fun t ht hW => ⟨⟨0, (), rfl, (Or.inl rfl), by rw [ht]; exact hP, hK.warm hW, hD⟩, hS.F ht⟩) hS.2.2 dX12_isBook_14
  · have q3 := mm_ltR (lo := 1) (mm_nle c1) mm_k0 h0 (by decide)
    refine lv_iconst (v := 1) hx hb dX12_isBook_9 (by decide) ?_
    refine lv_goto (tgt := 14) hx hb dX12_isBook_10 (by decide) ?_
    subst hAe
    rw [hQ]
    exact W.zret (v := 1) hx hb hr rfl (fun t ht hW => ⟨⟨1, (), rfl, (Or.inr rfl), by rw [ht]; exact hP, hK.warm hW, hD⟩, hS.F ht⟩) hS.2.2 dX12_isBook_14

set_option maxHeartbeats 4000000 in
set_option maxRecDepth 100000 in
theorem M121_X12_words (l : Launch) (G : va_G) (cy : Nat → ClassId) (sz : Nat) (a_0 : Nat) (i_0 : Int32) (a_1 : Nat) (a_2 : Nat) (a_3 : Nat) (a_4 : Nat) (a_5 : Nat) (i_1 : Int32) (i_2 : Int32) (i_3 : Int32) (i_4 : Int32) (i_5 : Int32) (j_0 : Int64) (i_6 : Int32) (i_7 : Int32) (i_8 : Int32) (i_9 : Int32) (a_6 : Nat) (a_7 : Nat) (a_8 : Nat) (a_9 : Nat) (a_10 : Nat) (a_11 : Nat) (a_12 : Nat) (a_13 : Nat) (a_14 : Nat) (a_15 : Nat) (a_16 : Nat) (a_17 : Nat) (a_18 : Nat) (i_10 : Int32) (i_11 : Int32) (i_12 : Int32) (i_13 : Int32) (i_14 : Int32) (i_15 : Int32) (a_19 : Nat) (i_16 : Int32) (a_20 : Nat) (i_17 : Int32) (i_18 : Int32) (i_19 : Int32) (i_20 : Int32) (i_21 : Int32) (i_22 : Int32) (i_23 : Int32) (i_24 : Int32) (i_25 : Int32) (i_26 : Int32) (i_27 : Int32) (i_28 : Int32) (i_29 : Int32) (i_30 : Int32) (i_31 : Int32) (i_32 : Int32) (i_33 : Int32) (i_34 : Int32) (i_35 : Int32) (i_36 : Int32) (i_37 : Int32) (i_38 : Int32) (i_39 : Int32) (i_40 : Int32) (i_41 : Int32) (i_42 : Int32) (i_43 : Int32) (i_44 : Int32) (i_45 : Int32) (i_46 : Int32) (i_47 : Int32) (i_48 : Int32) (i_49 : Int32) (i_50 : Int32) (i_51 : Int32) (h0 : mm_rg i_17 0 601) (h1 : mm_rg i_18 0 601) (h2 : mm_rg i_19 0 601) (h3 : mm_rg i_20 0 601) (h4 : mm_rg i_21 0 601) (h5 : mm_rg i_22 0 10) (h6 : mm_rg i_23 0 99) (h7 : mm_rg i_24 0 9) (h8 : mm_rg i_25 0 3) (h9 : mm_rg i_26 0 6) (h10 : mm_rg i_27 0 30) (h11 : mm_rg i_28 0 10) (h12 : mm_rg i_29 0 99) (h13 : mm_rg i_30 0 9) (h14 : mm_rg i_31 0 3) (h15 : mm_rg i_32 0 6) (h16 : mm_rg i_33 0 30) (h17 : mm_rg i_34 0 10) (h18 : mm_rg i_35 0 99) (h19 : mm_rg i_36 0 9) (h20 : mm_rg i_37 0 3) (h21 : mm_rg i_38 0 6) (h22 : mm_rg i_39 0 30) (h23 : mm_rg i_40 0 10) (h24 : mm_rg i_41 0 99) (h25 : mm_rg i_42 0 9) (h26 : mm_rg i_43 0 3) (h27 : mm_rg i_44 0 6) (h28 : mm_rg i_45 0 30) (h29 : mm_rg i_46 0 10) (h30 : mm_rg i_47 0 99) (h31 : mm_rg i_48 0 9) (h32 : mm_rg i_49 0 3) (h33 : mm_rg i_50 0 6) (h34 : mm_rg i_51 0 30) (h35 : mm_tl i_17 i_25 i_26) (h36 : mm_tl i_18 i_31 i_32) (h37 : mm_tl i_19 i_37 i_38) (h38 : mm_tl i_20 i_43 i_44)  : mm_CI l yX12_words (mm_ws yX12_words cX12_words 1 (some .int)) ({ frames := 1, cells := 0, slots := 0, locals := 20 } : Room) G cy sz [(a_0, .inr (12, [.int i_0, .ref a_1, .ref a_2, .ref a_3, .ref a_4, .ref a_5, .int i_1, .int i_2, .int i_3, .int i_4, .int i_5, .long j_0, .int i_6, .int i_7, .int i_8, .int i_9, .ref a_6, .ref a_7, .ref a_8, .ref a_9, .ref a_10, .ref a_11, .ref a_12, .ref a_13, .ref a_14, .ref a_15, .ref a_16, .ref a_17, .ref a_18, .int i_10, .int i_11, .int i_12, .int i_13, .int i_14, .int i_15, .ref a_19, .int i_16, .ref a_20])), (a_6, .inl (cy 1, 5, .inl (mm_g [i_17, i_18, i_19, i_20, i_21]))), (a_7, .inl (cy 1, 30, .inl (mm_g [i_22, i_23, i_24, i_25, i_26, i_27, i_28, i_29, i_30, i_31, i_32, i_33, i_34, i_35, i_36, i_37, i_38, i_39, i_40, i_41, i_42, i_43, i_44, i_45, i_46, i_47, i_48, i_49, i_50, i_51])))] [.ref a_0] (fun u : Unit => [(a_0, .inr (12, [.int i_0, .ref a_1, .ref a_2, .ref a_3, .ref a_4, .ref a_5, .int i_1, .int i_2, .int i_3, .int i_4, .int i_5, .long j_0, .int i_6, .int i_7, .int i_8, .int i_9, .ref a_6, .ref a_7, .ref a_8, .ref a_9, .ref a_10, .ref a_11, .ref a_12, .ref a_13, .ref a_14, .ref a_15, .ref a_16, .ref a_17, .ref a_18, .int i_10, .int i_11, .int i_12, .int i_13, .int i_14, .int i_15, .ref a_19, .int i_16, .ref a_20])), (a_6, .inl (cy 1, 5, .inl (mm_g [i_17, i_18, i_19, i_20, i_21]))), (a_7, .inl (cy 1, 30, .inl (mm_g [i_22, i_23, i_24, i_25, i_26, i_27, i_28, i_29, i_30, i_31, i_32, i_33, i_34, i_35, i_36, i_37, i_38, i_39, i_40, i_41, i_42, i_43, i_44, i_45, i_46, i_47, i_48, i_49, i_50, i_51])))]) (fun (r : Int32) (u : Unit) => mm_rg r 0 10) 0 0 := by
  refine mm_begin (lv := [(0, .ref a_0)]) (by decide) (Nat.le_of_ble_eq_true rfl) rfl ?_
  intro p e s m below meth c A ls R args Q H locs hRe hQ hAe hx hb hr hlocks hml hown hnm hts hsz hA hS hP hK hD hZ hl
  have hRf : R.frames = 1 := by rw [hRe]
  have hRl : R.locals = 20 := by rw [hRe]
  have hRc : R.cells = 0 := by rw [hRe]
  have hRs : R.slots = 0 := by rw [hRe]
  refine lv_aload_n hx hb dX12_words_0 rfl (lv_at hl 0 rfl) ?_
  refine mm_finir (va_runV (As := []) (rest := []) ⟨hx, hb, hml, hown, hts⟩ (M120_X12_isBook l G cy H.size a_0 i_0 a_1 a_2 a_3 a_4 a_5 i_1 i_2 i_3 i_4 i_5 j_0 i_6 i_7 i_8 i_9 a_6 a_7 a_8 a_9 a_10 a_11 a_12 a_13 a_14 a_15 a_16 a_17 a_18 i_10 i_11 i_12 i_13 i_14 i_15 a_19 i_16 a_20 i_17 i_18 i_19 i_20 i_21 h0 h1 h2 h3 h4) (cwV 0 hts (mm_gV mm_w653 mm_w654 mm_w655 mm_w5 mm_w656) rfl rfl rfl hd_X12_isBook ⟨by rw [hRf]; exact Nat.le_of_ble_eq_true rfl, by rw [hRl]; exact Nat.le_of_ble_eq_true rfl⟩) (mm_preV hK hZ hS hA hP hD [0, 1] rfl rfl 0 rfl rfl rfl) rfl rfl hl.1 rfl (lv_room (Nat.le_of_ble_eq_true rfl)) dX12_words_1 ⟨by rw [hRc]; exact Nat.le_of_ble_eq_true rfl, by rw [hRs]; exact Nat.le_of_ble_eq_true rfl⟩) hP hD hS hA [0, 1] rfl (fun _ => rfl) ?_
  clear hP hD hS
  clear H locs
  intro v1 _u H locs hw hP hD hS
  rcases hw with rfl | rfl
  · refine lv_if_eq (tgt := 16) hx hb dX12_words_4 (by decide) (fun c2 => ?_) (fun c2 => ?_)
    · refine lv_iconst (v := 0) hx hb dX12_words_16 (by decide) ?_
      subst hAe
      rw [hQ]
      exact W.iret (v := 0) hx hb hr (fun t ht hW => ⟨⟨0, (), rfl, (mm_wk mm_k0 (by decide)), by rw [ht]; exact hP, hK.warm hW, hD⟩, hS.F ht⟩) hS.2.2 dX12_words_17
    · have q3 := mm_neL (lo := 1) (mm_ne c2) mm_k0 mm_k0 (by decide) (by decide)
      exact mm_no q3 (by decide)
  · refine lv_if_eq (tgt := 16) hx hb dX12_words_4 (by decide) (fun c4 => ?_) (fun c4 => ?_)
    · exact mm_eqN c4.symm mm_k0 mm_k1 (by decide)
    · refine lv_aload_n hx hb dX12_words_7 rfl (lv_at hl 0 rfl) ?_
      refine mm_finir (va_runV (As := []) (rest := []) ⟨hx, hb, hml, hown, hts⟩ (M92_X12_senses l G cy H.size a_0 i_0 a_1 a_2 a_3 a_4 a_5 i_1 i_2 i_3 i_4 i_5 j_0 i_6 i_7 i_8 i_9 a_6 a_7 a_8 a_9 a_10 a_11 a_12 a_13 a_14 a_15 a_16 a_17 a_18 i_10 i_11 i_12 i_13 i_14 i_15 a_19 i_16 a_20 i_22 i_23 i_24 i_25 i_26 i_27 i_28 i_29 i_30 i_31 i_32 i_33 i_34 i_35 i_36 i_37 i_38 i_39 i_40 i_41 i_42 i_43 i_44 i_45 i_46 i_47 i_48 i_49 i_50 i_51 h5 h6 h7 h8 h9 h10 h11 h12 h13 h14 h15 h16 h17 h18 h19 h20 h21 h22 h23 h24 h25 h26 h27 h28 h29 h30 h31 h32 h33 h34) (cwV 0 hts (mm_gV mm_w588 mm_w589 mm_w590 mm_w5 mm_w591) rfl rfl rfl hd_X12_senses ⟨by rw [hRf]; exact Nat.le_of_ble_eq_true rfl, by rw [hRl]; exact Nat.le_of_ble_eq_true rfl⟩) (mm_preV hK hZ hS hA hP hD [0, 2] rfl rfl 0 rfl rfl rfl) rfl rfl hl.1 rfl (lv_room (Nat.le_of_ble_eq_true rfl)) dX12_words_8 ⟨by rw [hRc]; exact Nat.le_of_ble_eq_true rfl, by rw [hRs]; exact Nat.le_of_ble_eq_true rfl⟩) hP hD hS hA [0, 2] rfl (fun _ => rfl) ?_
      clear hP hD hS
      clear H locs
      intro v5 _u H locs hw hP hD hS
      subst hw
      refine lv_iconst (v := 1) hx hb dX12_words_11 (by decide) ?_
      refine lv_iadd hx hb dX12_words_12 ?_
      refine lv_topi (fun v6 ev6 => ?_)
      have rv6 : mm_rg v6 1 10 := mm_add ev6 h7 mm_k1 (by decide) (by decide)
      have tv6 := mm_addEc ev6 h7 mm_k1 (by decide) (k := 1) (by decide)
      refine lv_goto (tgt := 17) hx hb dX12_words_13 (by decide) ?_
      subst hAe
      rw [hQ]
      exact W.iret (v := v6) hx hb hr (fun t ht hW => ⟨⟨v6, (), rfl, (mm_wk rv6 (by decide)), by rw [ht]; exact hP, hK.warm hW, hD⟩, hS.F ht⟩) hS.2.2 dX12_words_17

set_option maxHeartbeats 4000000 in
set_option maxRecDepth 100000 in
theorem M122_X12_means0 (l : Launch) (G : va_G) (cy : Nat → ClassId) (sz : Nat) (a_0 : Nat) (i_0 : Int32) (i_1 : Int32) (i_2 : Int32) (i_3 : Int32) (a_1 : Nat) (a_2 : Nat) (a_3 : Nat) (a_4 : Nat) (a_5 : Nat) (i_4 : Int32) (i_5 : Int32) (i_6 : Int32) (i_7 : Int32) (i_8 : Int32) (j_0 : Int64) (i_9 : Int32) (i_10 : Int32) (i_11 : Int32) (i_12 : Int32) (a_6 : Nat) (a_7 : Nat) (a_8 : Nat) (a_9 : Nat) (a_10 : Nat) (a_11 : Nat) (a_12 : Nat) (a_13 : Nat) (a_14 : Nat) (a_15 : Nat) (a_16 : Nat) (a_17 : Nat) (a_18 : Nat) (i_13 : Int32) (i_14 : Int32) (i_15 : Int32) (i_16 : Int32) (i_17 : Int32) (i_18 : Int32) (a_19 : Nat) (i_19 : Int32) (a_20 : Nat) (f_0 : Nat → Int32) (f_1 : Nat → Int32) (h0 : mm_rg i_0 0 2) (h1 : mm_rg i_1 0 1100000000) (h2 : mm_rg i_2 0 9) (h3 : mm_ar f_0 0 9) (h4 : mm_ar f_1 0 210) (h5 : mm_f1 f_1 i_0)  : mm_CI l yX12_means0 (mm_ws yX12_means0 cX12_means0 4 (some .int)) ({ frames := 0, cells := 0, slots := 0, locals := 0 } : Room) G cy sz [(a_0, .inr (12, [.int i_3, .ref a_1, .ref a_2, .ref a_3, .ref a_4, .ref a_5, .int i_4, .int i_5, .int i_6, .int i_7, .int i_8, .long j_0, .int i_9, .int i_10, .int i_11, .int i_12, .ref a_6, .ref a_7, .ref a_8, .ref a_9, .ref a_10, .ref a_11, .ref a_12, .ref a_13, .ref a_14, .ref a_15, .ref a_16, .ref a_17, .ref a_18, .int i_13, .int i_14, .int i_15, .int i_16, .int i_17, .int i_18, .ref a_19, .int i_19, .ref a_20])), (a_15, .inl (cy 1, 7200, .inl f_0)), (a_16, .inl (cy 1, 3, .inl f_1))] [.ref a_0, .int i_0, .int i_1, .int i_2] (fun u : Unit => [(a_0, .inr (12, [.int i_3, .ref a_1, .ref a_2, .ref a_3, .ref a_4, .ref a_5, .int i_4, .int i_5, .int i_6, .int i_7, .int i_8, .long j_0, .int i_9, .int i_10, .int i_11, .int i_12, .ref a_6, .ref a_7, .ref a_8, .ref a_9, .ref a_10, .ref a_11, .ref a_12, .ref a_13, .ref a_14, .ref a_15, .ref a_16, .ref a_17, .ref a_18, .int i_13, .int i_14, .int i_15, .int i_16, .int i_17, .int i_18, .ref a_19, .int i_19, .ref a_20])), (a_15, .inl (cy 1, 7200, .inl f_0)), (a_16, .inl (cy 1, 3, .inl f_1))]) (fun (r : Int32) (u : Unit) => mm_rg r 0 9 ∧ mm_m0 f_0 f_1 i_0 i_1 i_2 r) 0 0 := by
  refine mm_begin (lv := [(0, .ref a_0), (1, .int i_0), (2, .int i_1), (3, .int i_2)]) (by decide) (Nat.le_of_ble_eq_true rfl) rfl ?_
  intro p e s m below meth c A ls R args Q H locs hRe hQ hAe hx hb hr hlocks hml hown hnm hts hsz hA hS hP hK hD hZ hl
  have hRf : R.frames = 0 := by rw [hRe]
  have hRl : R.locals = 0 := by rw [hRe]
  have hRc : R.cells = 0 := by rw [hRe]
  have hRs : R.slots = 0 := by rw [hRe]
  refine lv_aload_n hx hb dX12_means0_0 rfl (lv_at hl 0 rfl) ?_
  refine va_get (D := G) (ci := 12) (v := .ref a_15) (C := RX12) (T := TX12) (N := 38) hx hb hts (mm_i inlX12) hown hK.1 hP 0 rfl rfl 25 (by decide) (mm_h hts mm_w157) (fun _ h9 => h9) rfl dX12_means0_1 ?_
  refine lv_sipush (v := 2400) hx hb dX12_means0_4 (by decide) ?_
  refine lv_iload_n hx hb dX12_means0_7 rfl (lv_at hl 1 rfl) ?_
  refine lv_imul hx hb dX12_means0_8 ?_
  refine lv_topi (fun v1 ev1 => ?_)
  have rv1 : mm_rg v1 0 4800 := mm_mul ev1 mm_k2400 h0 (by decide) (by decide)
  have tv1 := mm_mulEc ev1 mm_k2400 h0 (by decide) (k := 2400) (by decide)
  refine lv_bipush (v := 10) hx hb dX12_means0_9 (by decide) ?_
  refine lv_iload_n hx hb dX12_means0_11 rfl (lv_at hl 2 rfl) ?_
  refine lv_aload_n hx hb dX12_means0_12 rfl (lv_at hl 0 rfl) ?_
  refine va_get (D := G) (ci := 12) (v := .ref a_16) (C := RX12) (T := TX12) (N := 38) hx hb hts (mm_i inlX12) hown hK.1 hP 0 rfl rfl 26 (by decide) (mm_h hts mm_w158) (fun _ h9 => h9) rfl dX12_means0_13 ?_
  refine lv_iload_n hx hb dX12_means0_16 rfl (lv_at hl 1 rfl) ?_
  refine va_iald hx hb hK.1 hP 2 1 rfl rfl (mm_in h0 (by decide)) dX12_means0_17 ?_
  refine lv_topi (fun v2 ev2 => ?_)
  have rv2 : mm_rg v2 0 210 := mm_eqv ev2 (h4 _)
  have q3 : mm_rg v2 1 210 := mm_f1_ld h5 ev2 rv2
  refine lv_irem hx hb dX12_means0_18 (mm_nz q3 (by decide)) ?_
  refine lv_topi (fun v4 ev4 => ?_)
  have rv4 : mm_rg v4 0 209 := mm_rem ev4 h1 q3 (by decide) (by decide)
  refine lv_imul hx hb dX12_means0_19 ?_
  refine lv_topi (fun v5 ev5 => ?_)
  have rv5 : mm_rg v5 0 2090 := mm_mul ev5 mm_k10 rv4 (by decide) (by decide)
  have tv5 := mm_mulEc ev5 mm_k10 rv4 (by decide) (k := 10) (by decide)
  refine lv_iadd hx hb dX12_means0_20 ?_
  refine lv_topi (fun v6 ev6 => ?_)
  have rv6 : mm_rg v6 0 6890 := mm_add ev6 rv1 rv5 (by decide) (by decide)
  have tv6 := mm_addE ev6 rv1 rv5 (by decide)
  refine lv_iload_n hx hb dX12_means0_21 rfl (lv_at hl 3 rfl) ?_
  refine lv_iadd hx hb dX12_means0_22 ?_
  refine lv_topi (fun v7 ev7 => ?_)
  have rv7 : mm_rg v7 0 6899 := mm_add ev7 rv6 h2 (by decide) (by decide)
  have tv7 := mm_addE ev7 rv6 h2 (by decide)
  refine va_iald hx hb hK.1 hP 1 1 rfl rfl (mm_in rv7 (by decide)) dX12_means0_23 ?_
  refine lv_topi (fun v8 ev8 => ?_)
  have rv8 : mm_rg v8 0 9 := mm_eqv ev8 (h3 _)
  have w9 : mm_m0 f_0 f_1 i_0 i_1 i_2 v8 := (mm_m0_of ev8 ev4 ev2 (by have := tv7; have := tv6; have := tv5; have := tv1; omega) h0 h1 h2 q3 (by decide))
  subst hAe
  rw [hQ]
  exact W.iret (v := v8) hx hb hr (fun t ht hW => ⟨⟨v8, (), rfl, ⟨rv8, w9⟩, by rw [ht]; exact hP, hK.warm hW, hD⟩, hS.F ht⟩) hS.2.2 dX12_means0_24

set_option maxHeartbeats 4000000 in
set_option maxRecDepth 100000 in
theorem M123_X12_isRound (l : Launch) (G : va_G) (cy : Nat → ClassId) (sz : Nat) (a_0 : Nat) (i_0 : Int32) (i_1 : Int32) (i_2 : Int32) (a_1 : Nat) (a_2 : Nat) (a_3 : Nat) (a_4 : Nat) (a_5 : Nat) (i_3 : Int32) (i_4 : Int32) (i_5 : Int32) (i_6 : Int32) (i_7 : Int32) (j_0 : Int64) (i_8 : Int32) (i_9 : Int32) (i_10 : Int32) (i_11 : Int32) (a_6 : Nat) (a_7 : Nat) (a_8 : Nat) (a_9 : Nat) (a_10 : Nat) (a_11 : Nat) (a_12 : Nat) (a_13 : Nat) (a_14 : Nat) (a_15 : Nat) (a_16 : Nat) (a_17 : Nat) (a_18 : Nat) (i_12 : Int32) (i_13 : Int32) (i_14 : Int32) (i_15 : Int32) (i_16 : Int32) (i_17 : Int32) (a_19 : Nat) (i_18 : Int32) (a_20 : Nat) (i_19 : Int32) (i_20 : Int32) (i_21 : Int32) (i_22 : Int32) (i_23 : Int32) (i_24 : Int32) (i_25 : Int32) (i_26 : Int32) (i_27 : Int32) (i_28 : Int32) (i_29 : Int32) (i_30 : Int32) (i_31 : Int32) (i_32 : Int32) (i_33 : Int32) (i_34 : Int32) (i_35 : Int32) (i_36 : Int32) (i_37 : Int32) (i_38 : Int32) (i_39 : Int32) (i_40 : Int32) (i_41 : Int32) (i_42 : Int32) (i_43 : Int32) (i_44 : Int32) (i_45 : Int32) (i_46 : Int32) (i_47 : Int32) (i_48 : Int32) (i_49 : Int32) (i_50 : Int32) (i_51 : Int32) (i_52 : Int32) (i_53 : Int32) (f_0 : Nat → Int32) (f_1 : Nat → Int32) (h0 : mm_rg i_0 0 2) (h1 : mm_rg i_1 1 210) (h2 : mm_rg i_19 0 601) (h3 : mm_rg i_20 0 601) (h4 : mm_rg i_21 0 601) (h5 : mm_rg i_22 0 601) (h6 : mm_rg i_23 0 601) (h7 : mm_rg i_24 0 10) (h8 : mm_rg i_25 0 99) (h9 : mm_rg i_26 0 9) (h10 : mm_rg i_27 0 3) (h11 : mm_rg i_28 0 6) (h12 : mm_rg i_29 0 30) (h13 : mm_rg i_30 0 10) (h14 : mm_rg i_31 0 99) (h15 : mm_rg i_32 0 9) (h16 : mm_rg i_33 0 3) (h17 : mm_rg i_34 0 6) (h18 : mm_rg i_35 0 30) (h19 : mm_rg i_36 0 10) (h20 : mm_rg i_37 0 99) (h21 : mm_rg i_38 0 9) (h22 : mm_rg i_39 0 3) (h23 : mm_rg i_40 0 6) (h24 : mm_rg i_41 0 30) (h25 : mm_rg i_42 0 10) (h26 : mm_rg i_43 0 99) (h27 : mm_rg i_44 0 9) (h28 : mm_rg i_45 0 3) (h29 : mm_rg i_46 0 6) (h30 : mm_rg i_47 0 30) (h31 : mm_rg i_48 0 10) (h32 : mm_rg i_49 0 99) (h33 : mm_rg i_50 0 9) (h34 : mm_rg i_51 0 3) (h35 : mm_rg i_52 0 6) (h36 : mm_rg i_53 0 30) (h37 : mm_ar f_0 0 9) (h38 : mm_ar f_1 0 210) (h39 : mm_tl i_19 i_27 i_28) (h40 : mm_tl i_20 i_33 i_34) (h41 : mm_tl i_21 i_39 i_40) (h42 : mm_tl i_22 i_45 i_46) (h43 : mm_f1 f_1 i_0)  : mm_CI l yX12_isRound (mm_ws yX12_isRound cX12_isRound 5 (some .boolean)) ({ frames := 2, cells := 0, slots := 0, locals := 40 } : Room) G cy sz [(a_0, .inr (12, [.int i_2, .ref a_1, .ref a_2, .ref a_3, .ref a_4, .ref a_5, .int i_3, .int i_4, .int i_5, .int i_6, .int i_7, .long j_0, .int i_8, .int i_9, .int i_10, .int i_11, .ref a_6, .ref a_7, .ref a_8, .ref a_9, .ref a_10, .ref a_11, .ref a_12, .ref a_13, .ref a_14, .ref a_15, .ref a_16, .ref a_17, .ref a_18, .int i_12, .int i_13, .int i_14, .int i_15, .int i_16, .int i_17, .ref a_19, .int i_18, .ref a_20])), (a_6, .inl (cy 1, 5, .inl (mm_g [i_19, i_20, i_21, i_22, i_23]))), (a_7, .inl (cy 1, 30, .inl (mm_g [i_24, i_25, i_26, i_27, i_28, i_29, i_30, i_31, i_32, i_33, i_34, i_35, i_36, i_37, i_38, i_39, i_40, i_41, i_42, i_43, i_44, i_45, i_46, i_47, i_48, i_49, i_50, i_51, i_52, i_53]))), (a_15, .inl (cy 1, 7200, .inl f_0)), (a_16, .inl (cy 1, 3, .inl f_1))] [.ref a_0, .int i_0, .int i_1] (fun u : Unit => [(a_0, .inr (12, [.int i_2, .ref a_1, .ref a_2, .ref a_3, .ref a_4, .ref a_5, .int i_3, .int i_4, .int i_5, .int i_6, .int i_7, .long j_0, .int i_8, .int i_9, .int i_10, .int i_11, .ref a_6, .ref a_7, .ref a_8, .ref a_9, .ref a_10, .ref a_11, .ref a_12, .ref a_13, .ref a_14, .ref a_15, .ref a_16, .ref a_17, .ref a_18, .int i_12, .int i_13, .int i_14, .int i_15, .int i_16, .int i_17, .ref a_19, .int i_18, .ref a_20])), (a_6, .inl (cy 1, 5, .inl (mm_g [i_19, i_20, i_21, i_22, i_23]))), (a_7, .inl (cy 1, 30, .inl (mm_g [i_24, i_25, i_26, i_27, i_28, i_29, i_30, i_31, i_32, i_33, i_34, i_35, i_36, i_37, i_38, i_39, i_40, i_41, i_42, i_43, i_44, i_45, i_46, i_47, i_48, i_49, i_50, i_51, i_52, i_53]))), (a_15, .inl (cy 1, 7200, .inl f_0)), (a_16, .inl (cy 1, 3, .inl f_1))]) (fun (r : Int32) (u : Unit) => ((0 = r ∧ mm_nr f_1 i_0 i_1) ∨ (1 = r))) 0 0 := by
  refine mm_begin (lv := [(0, .ref a_0), (1, .int i_0), (2, .int i_1)]) (by decide) (Nat.le_of_ble_eq_true rfl) rfl ?_
  intro p e s m below meth c A ls R args Q H locs hRe hQ hAe hx hb hr hlocks hml hown hnm hts hsz hA hS hP hK hD hZ hl
  have hRf : R.frames = 2 := by rw [hRe]
  have hRl : R.locals = 40 := by rw [hRe]
  have hRc : R.cells = 0 := by rw [hRe]
  have hRs : R.slots = 0 := by rw [hRe]
  refine lv_iconst (v := 0) hx hb dX12_isRound_0 (by decide) ?_
  refine lv_istore_n (lv' := [(3, .int 0), (0, .ref a_0), (1, .int i_0), (2, .int i_1)]) hx hb dX12_isRound_1 rfl hl (by decide) rfl ?_
  clear hl
  clear ls
  intro ls hl
  have L2_3022 : ∀ (n : Nat) (x2_3_3022 : Int32), mm_rg x2_3_3022 0 210 → (210 - x2_3_3022.toInt).toNat < n → ∀ (H : Heap) (locs : List Loc), va_P G vwCl [(a_0, .inr (12, [.int i_2, .ref a_1, .ref a_2, .ref a_3, .ref a_4, .ref a_5, .int i_3, .int i_4, .int i_5, .int i_6, .int i_7, .long j_0, .int i_8, .int i_9, .int i_10, .int i_11, .ref a_6, .ref a_7, .ref a_8, .ref a_9, .ref a_10, .ref a_11, .ref a_12, .ref a_13, .ref a_14, .ref a_15, .ref a_16, .ref a_17, .ref a_18, .int i_12, .int i_13, .int i_14, .int i_15, .int i_16, .int i_17, .ref a_19, .int i_18, .ref a_20])), (a_6, .inl (cy 1, 5, .inl (mm_g [i_19, i_20, i_21, i_22, i_23]))), (a_7, .inl (cy 1, 30, .inl (mm_g [i_24, i_25, i_26, i_27, i_28, i_29, i_30, i_31, i_32, i_33, i_34, i_35, i_36, i_37, i_38, i_39, i_40, i_41, i_42, i_43, i_44, i_45, i_46, i_47, i_48, i_49, i_50, i_51, i_52, i_53]))), (a_15, .inl (cy 1, 7200, .inl f_0)), (a_16, .inl (cy 1, 3, .inl f_1))] H → va_D A [(a_0, .inr (12, [.int i_2, .ref a_1, .ref a_2, .ref a_3, .ref a_4, .ref a_5, .int i_3, .int i_4, .int i_5, .int i_6, .int i_7, .long j_0, .int i_8, .int i_9, .int i_10, .int i_11, .ref a_6, .ref a_7, .ref a_8, .ref a_9, .ref a_10, .ref a_11, .ref a_12, .ref a_13, .ref a_14, .ref a_15, .ref a_16, .ref a_17, .ref a_18, .int i_12, .int i_13, .int i_14, .int i_15, .int i_16, .int i_17, .ref a_19, .int i_18, .ref a_20])), (a_6, .inl (cy 1, 5, .inl (mm_g [i_19, i_20, i_21, i_22, i_23]))), (a_7, .inl (cy 1, 30, .inl (mm_g [i_24, i_25, i_26, i_27, i_28, i_29, i_30, i_31, i_32, i_33, i_34, i_35, i_36, i_37, i_38, i_39, i_40, i_41, i_42, i_43, i_44, i_45, i_46, i_47, i_48, i_49, i_50, i_51, i_52, i_53]))), (a_15, .inl (cy 1, 7200, .inl f_0)), (a_16, .inl (cy 1, 3, .inl f_1))] → va_S A s.heap H locs → ∀ (ls : Array Slot), lv_has ls 5 [(3, .int x2_3_3022), (0, .ref a_0), (1, .int i_0), (2, .int i_1)] → W p l e R s m args below meth c H locs 0 0 Q (F0 m 2 ls []) := by
    intro n
    induction n with
    | zero => intro x2_3_3022 rx2_3_3022 hm; exact absurd hm (Nat.not_lt_zero _)
    | succ n ih2 =>
      intro x2_3_3022 rx2_3_3022 hm2 H locs hP hD hS ls hl
      refine lv_iload_n hx hb dX12_isRound_2 rfl (lv_at hl 0 rfl) ?_
      refine lv_aload_n hx hb dX12_isRound_3 rfl (lv_at hl 1 rfl) ?_
      refine va_get (D := G) (ci := 12) (v := .ref a_16) (C := RX12) (T := TX12) (N := 38) hx hb hts (mm_i inlX12) hown hK.1 hP 0 rfl rfl 26 (by decide) (mm_h hts mm_w158) (fun _ h9 => h9) rfl dX12_isRound_4 ?_
      refine lv_iload_n hx hb dX12_isRound_7 rfl (lv_at hl 2 rfl) ?_
      refine va_iald hx hb hK.1 hP 4 1 rfl rfl (mm_in h0 (by decide)) dX12_isRound_8 ?_
      refine lv_topi (fun v3024 ev3024 => ?_)
      have rv3024 : mm_rg v3024 0 210 := mm_eqv ev3024 (h38 _)
      have q3025 : mm_rg v3024 1 210 := mm_f1_ld h43 ev3024 rv3024
      refine lv_icmp_ge (tgt := 59) hx hb dX12_isRound_9 (by decide) (fun c3026 => ?_) (fun c3026 => ?_)
      · have q3027 := mm_leR (mm_le c3026) q3025 rx2_3_3022
        refine lv_iconst (v := 1) hx hb dX12_isRound_59 (by decide) ?_
        subst hAe
        rw [hQ]
        exact W.zret (v := 1) hx hb hr rfl (fun t ht hW => ⟨⟨1, (), rfl, (Or.inr rfl), by rw [ht]; exact hP, hK.warm hW, hD⟩, hS.F ht⟩) hS.2.2 dX12_isRound_60
      · have q3028 := mm_ltL (h := 209) (mm_nle c3026) rx2_3_3022 q3025 (by decide)
        refine lv_iconst (v := 0) hx hb dX12_isRound_12 (by decide) ?_
        refine lv_istore (lv' := [(4, .int 0), (3, .int x2_3_3022), (0, .ref a_0), (1, .int i_0), (2, .int i_1)]) hx hb dX12_isRound_13 hl (by decide) rfl ?_
        clear hl
        clear ls
        intro ls hl
        have L15_3196 : ∀ (n : Nat) (x15_4_3196 : Int32), mm_rg x15_4_3196 0 10 → (10 - x15_4_3196.toInt).toNat < n → ∀ (H : Heap) (locs : List Loc), va_P G vwCl [(a_0, .inr (12, [.int i_2, .ref a_1, .ref a_2, .ref a_3, .ref a_4, .ref a_5, .int i_3, .int i_4, .int i_5, .int i_6, .int i_7, .long j_0, .int i_8, .int i_9, .int i_10, .int i_11, .ref a_6, .ref a_7, .ref a_8, .ref a_9, .ref a_10, .ref a_11, .ref a_12, .ref a_13, .ref a_14, .ref a_15, .ref a_16, .ref a_17, .ref a_18, .int i_12, .int i_13, .int i_14, .int i_15, .int i_16, .int i_17, .ref a_19, .int i_18, .ref a_20])), (a_6, .inl (cy 1, 5, .inl (mm_g [i_19, i_20, i_21, i_22, i_23]))), (a_7, .inl (cy 1, 30, .inl (mm_g [i_24, i_25, i_26, i_27, i_28, i_29, i_30, i_31, i_32, i_33, i_34, i_35, i_36, i_37, i_38, i_39, i_40, i_41, i_42, i_43, i_44, i_45, i_46, i_47, i_48, i_49, i_50, i_51, i_52, i_53]))), (a_15, .inl (cy 1, 7200, .inl f_0)), (a_16, .inl (cy 1, 3, .inl f_1))] H → va_D A [(a_0, .inr (12, [.int i_2, .ref a_1, .ref a_2, .ref a_3, .ref a_4, .ref a_5, .int i_3, .int i_4, .int i_5, .int i_6, .int i_7, .long j_0, .int i_8, .int i_9, .int i_10, .int i_11, .ref a_6, .ref a_7, .ref a_8, .ref a_9, .ref a_10, .ref a_11, .ref a_12, .ref a_13, .ref a_14, .ref a_15, .ref a_16, .ref a_17, .ref a_18, .int i_12, .int i_13, .int i_14, .int i_15, .int i_16, .int i_17, .ref a_19, .int i_18, .ref a_20])), (a_6, .inl (cy 1, 5, .inl (mm_g [i_19, i_20, i_21, i_22, i_23]))), (a_7, .inl (cy 1, 30, .inl (mm_g [i_24, i_25, i_26, i_27, i_28, i_29, i_30, i_31, i_32, i_33, i_34, i_35, i_36, i_37, i_38, i_39, i_40, i_41, i_42, i_43, i_44, i_45, i_46, i_47, i_48, i_49, i_50, i_51, i_52, i_53]))), (a_15, .inl (cy 1, 7200, .inl f_0)), (a_16, .inl (cy 1, 3, .inl f_1))] → va_S A s.heap H locs → ∀ (ls : Array Slot), lv_has ls 5 [(4, .int x15_4_3196), (3, .int x2_3_3022), (0, .ref a_0), (1, .int i_0), (2, .int i_1)] → W p l e R s m args below meth c H locs 0 0 Q (F0 m 15 ls []) := by
          intro n
          induction n with
          | zero => intro x15_4_3196 rx15_4_3196 hm; exact absurd hm (Nat.not_lt_zero _)
          | succ n ih15 =>
            intro x15_4_3196 rx15_4_3196 hm15 H locs hP hD hS ls hl
            refine lv_iload hx hb dX12_isRound_15 (lv_at hl 0 rfl) ?_
            refine lv_aload_n hx hb dX12_isRound_17 rfl (lv_at hl 2 rfl) ?_
            refine mm_finir (va_runV (As := []) (rest := [.int x15_4_3196]) ⟨hx, hb, hml, hown, hts⟩ (M121_X12_words l G cy H.size a_0 i_2 a_1 a_2 a_3 a_4 a_5 i_3 i_4 i_5 i_6 i_7 j_0 i_8 i_9 i_10 i_11 a_6 a_7 a_8 a_9 a_10 a_11 a_12 a_13 a_14 a_15 a_16 a_17 a_18 i_12 i_13 i_14 i_15 i_16 i_17 a_19 i_18 a_20 i_19 i_20 i_21 i_22 i_23 i_24 i_25 i_26 i_27 i_28 i_29 i_30 i_31 i_32 i_33 i_34 i_35 i_36 i_37 i_38 i_39 i_40 i_41 i_42 i_43 i_44 i_45 i_46 i_47 i_48 i_49 i_50 i_51 i_52 i_53 h2 h3 h4 h5 h6 h7 h8 h9 h10 h11 h12 h13 h14 h15 h16 h17 h18 h19 h20 h21 h22 h23 h24 h25 h26 h27 h28 h29 h30 h31 h32 h33 h34 h35 h36 h39 h40 h41 h42) (cwV 0 hts (mm_gV mm_w649 mm_w650 mm_w651 mm_w5 mm_w652) rfl rfl rfl hd_X12_words ⟨by rw [hRf]; exact Nat.le_of_ble_eq_true rfl, by rw [hRl]; exact Nat.le_of_ble_eq_true rfl⟩) (mm_preV hK hZ hS hA hP hD [0, 1, 2] rfl rfl 0 rfl rfl rfl) rfl rfl hl.1 rfl (lv_room (Nat.le_of_ble_eq_true rfl)) dX12_isRound_18 ⟨by rw [hRc]; exact Nat.le_of_ble_eq_true rfl, by rw [hRs]; exact Nat.le_of_ble_eq_true rfl⟩) hP hD hS hA [0, 1, 2] rfl (fun _ => rfl) ?_
            clear hP hD hS
            clear H locs
            intro v3198 _u H locs hw hP hD hS
            have w3199 := hw
            refine lv_icmp_ge (tgt := 53) hx hb dX12_isRound_21 (by decide) (fun c3200 => ?_) (fun c3200 => ?_)
            · obtain ⟨v3201, ev3201⟩ : ∃ y : Int32, y = x2_3_3022 + 1 := ⟨_, rfl⟩
              refine lv_iinc (v := v3201) (lv' := [(3, .int v3201), (4, .int x15_4_3196), (0, .ref a_0), (1, .int i_0), (2, .int i_1)]) hx hb dX12_isRound_53 hl (k := 1) rfl (by rw [ev3201]; rfl) (by decide) rfl ?_
              clear hl
              clear ls
              intro ls hl
              have rv3201 : mm_rg v3201 1 210 := mm_add ev3201 q3028 mm_k1 (by decide) (by decide)
              have tv3201 := mm_addEc ev3201 q3028 mm_k1 (by decide) (k := 1) (by decide)
              refine lv_goto (tgt := 2) hx hb dX12_isRound_56 (by decide) ?_
              exact ih2 v3201 (mm_wk rv3201 (by decide)) (mm_mu hm2 tv3201 (by decide) (rv3201).2 (by decide)) H locs hP hD hS ls (lv_sub hl [0, 2, 3, 4] rfl)
            · have q3202 := mm_ltL (h := 9) (mm_nle c3200) rx15_4_3196 w3199 (by decide)
              have q3203 := mm_ltR (lo := 1) (mm_nle c3200) rx15_4_3196 w3199 (by decide)
              refine lv_aload_n hx hb dX12_isRound_24 rfl (lv_at hl 2 rfl) ?_
              refine lv_iload_n hx hb dX12_isRound_25 rfl (lv_at hl 3 rfl) ?_
              refine lv_iload_n hx hb dX12_isRound_26 rfl (lv_at hl 1 rfl) ?_
              refine lv_iload hx hb dX12_isRound_27 (lv_at hl 0 rfl) ?_
              refine mm_finir (va_runV (As := [.int i_0, .int x2_3_3022, .int x15_4_3196]) (rest := []) ⟨hx, hb, hml, hown, hts⟩ (M122_X12_means0 l G cy H.size a_0 i_0 x2_3_3022 x15_4_3196 i_2 a_1 a_2 a_3 a_4 a_5 i_3 i_4 i_5 i_6 i_7 j_0 i_8 i_9 i_10 i_11 a_6 a_7 a_8 a_9 a_10 a_11 a_12 a_13 a_14 a_15 a_16 a_17 a_18 i_12 i_13 i_14 i_15 i_16 i_17 a_19 i_18 a_20 f_0 f_1 h0 (mm_wk q3028 (by decide)) q3202 h37 h38 h43) (cwV 3 hts (mm_gV mm_w713 mm_w714 mm_w715 mm_w5 mm_w716) rfl rfl rfl hd_X12_means0 ⟨by rw [hRf]; exact Nat.le_of_ble_eq_true rfl, by rw [hRl]; exact Nat.le_of_ble_eq_true rfl⟩) (mm_preV hK hZ hS hA hP hD [0, 3, 4] rfl rfl 0 rfl rfl rfl) rfl rfl hl.1 rfl (lv_room (Nat.le_of_ble_eq_true rfl)) dX12_isRound_29 ⟨by rw [hRc]; exact Nat.le_of_ble_eq_true rfl, by rw [hRs]; exact Nat.le_of_ble_eq_true rfl⟩) hP hD hS hA [0, 3, 4] rfl (fun _ => rfl) ?_
              clear hP hD hS
              clear H locs
              intro v3204 _u H locs hw hP hD hS
              obtain ⟨w3205, w3206⟩ := hw
              refine lv_aload_n hx hb dX12_isRound_32 rfl (lv_at hl 2 rfl) ?_
              refine lv_iload_n hx hb dX12_isRound_33 rfl (lv_at hl 3 rfl) ?_
              refine lv_iload_n hx hb dX12_isRound_34 rfl (lv_at hl 1 rfl) ?_
              refine lv_iload_n hx hb dX12_isRound_35 rfl (lv_at hl 4 rfl) ?_
              refine lv_iadd hx hb dX12_isRound_36 ?_
              refine lv_topi (fun v3207 ev3207 => ?_)
              have rv3207 : mm_rg v3207 1 419 := mm_add ev3207 q3028 h1 (by decide) (by decide)
              have tv3207 := mm_addE ev3207 q3028 h1 (by decide)
              refine lv_iload hx hb dX12_isRound_37 (lv_at hl 0 rfl) ?_
              refine mm_finir (va_runV (As := [.int i_0, .int v3207, .int x15_4_3196]) (rest := [.int v3204]) ⟨hx, hb, hml, hown, hts⟩ (M122_X12_means0 l G cy H.size a_0 i_0 v3207 x15_4_3196 i_2 a_1 a_2 a_3 a_4 a_5 i_3 i_4 i_5 i_6 i_7 j_0 i_8 i_9 i_10 i_11 a_6 a_7 a_8 a_9 a_10 a_11 a_12 a_13 a_14 a_15 a_16 a_17 a_18 i_12 i_13 i_14 i_15 i_16 i_17 a_19 i_18 a_20 f_0 f_1 h0 (mm_wk rv3207 (by decide)) q3202 h37 h38 h43) (cwV 3 hts (mm_gV mm_w713 mm_w714 mm_w715 mm_w5 mm_w716) rfl rfl rfl hd_X12_means0 ⟨by rw [hRf]; exact Nat.le_of_ble_eq_true rfl, by rw [hRl]; exact Nat.le_of_ble_eq_true rfl⟩) (mm_preV hK hZ hS hA hP hD [0, 3, 4] rfl rfl 0 rfl rfl rfl) rfl rfl hl.1 rfl (lv_room (Nat.le_of_ble_eq_true rfl)) dX12_isRound_39 ⟨by rw [hRc]; exact Nat.le_of_ble_eq_true rfl, by rw [hRs]; exact Nat.le_of_ble_eq_true rfl⟩) hP hD hS hA [0, 3, 4] rfl (fun _ => rfl) ?_
              clear hP hD hS
              clear H locs
              intro v3208 _u H locs hw hP hD hS
              obtain ⟨w3209, w3210⟩ := hw
              refine lv_icmp_eq (tgt := 47) hx hb dX12_isRound_42 (by decide) (fun c3211 => ?_) (fun c3211 => ?_)
              · obtain ⟨v3212, ev3212⟩ : ∃ y : Int32, y = x15_4_3196 + 1 := ⟨_, rfl⟩
                refine lv_iinc (v := v3212) (lv' := [(4, .int v3212), (3, .int x2_3_3022), (0, .ref a_0), (1, .int i_0), (2, .int i_1)]) hx hb dX12_isRound_47 hl (k := 0) rfl (by rw [ev3212]; rfl) (by decide) rfl ?_
                clear hl
                clear ls
                intro ls hl
                have rv3212 : mm_rg v3212 1 10 := mm_add ev3212 q3202 mm_k1 (by decide) (by decide)
                have tv3212 := mm_addEc ev3212 q3202 mm_k1 (by decide) (k := 1) (by decide)
                refine lv_goto (tgt := 15) hx hb dX12_isRound_50 (by decide) ?_
                exact ih15 v3212 (mm_wk rv3212 (by decide)) (mm_mu hm15 tv3212 (by decide) (rv3212).2 (by decide)) H locs hP hD hS ls (lv_sub hl [0, 1, 2, 3, 4] rfl)
              · refine lv_iconst (v := 0) hx hb dX12_isRound_45 (by decide) ?_
                have w3213 : mm_nr f_1 i_0 i_1 := (mm_nr_of w3206 w3210 (mm_ne c3211) tv3207 q3028 h1 trivial)
                subst hAe
                rw [hQ]
                exact W.zret (v := 0) hx hb hr rfl (fun t ht hW => ⟨⟨0, (), rfl, (Or.inl ⟨rfl, w3213⟩), by rw [ht]; exact hP, hK.warm hW, hD⟩, hS.F ht⟩) hS.2.2 dX12_isRound_46
        exact L15_3196 _ 0 (mm_wk mm_k0 (by decide)) (Nat.lt_succ_self _) H locs hP hD hS ls (lv_sub hl [0, 1, 2, 3, 4] rfl)
  exact L2_3022 _ 0 (mm_wk mm_k0 (by decide)) (Nat.lt_succ_self _) H locs hP hD hS ls (lv_sub hl [0, 1, 2, 3] rfl)

