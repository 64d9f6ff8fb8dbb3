theorem dX12_isWording_0 : decode cX12_isWording 0 = .ok (.iconst 0, 1) := by decide +kernel
theorem dX12_isWording_1 : decode cX12_isWording 1 = .ok (.istore 5, 2) := by decide +kernel
theorem dX12_isWording_3 : decode cX12_isWording 3 = .ok (.iload 5, 2) := by decide +kernel
theorem dX12_isWording_5 : decode cX12_isWording 5 = .ok (.iload_n 3, 1) := by decide +kernel
theorem dX12_isWording_6 : decode cX12_isWording 6 = .ok (.if_icmp .ge 29, 3) := by decide +kernel
theorem dX12_isWording_9 : decode cX12_isWording 9 = .ok (.aload_n 0, 1) := by decide +kernel
theorem dX12_isWording_10 : decode cX12_isWording 10 = .ok (.iload_n 1, 1) := by decide +kernel
theorem dX12_isWording_11 : decode cX12_isWording 11 = .ok (.iload_n 2, 1) := by decide +kernel
theorem dX12_isWording_12 : decode cX12_isWording 12 = .ok (.iload 5, 2) := by decide +kernel
theorem dX12_isWording_14 : decode cX12_isWording 14 = .ok (.iadd, 1) := by decide +kernel
theorem dX12_isWording_15 : decode cX12_isWording 15 = .ok (.aload_n 0, 1) := by decide +kernel
theorem dX12_isWording_16 : decode cX12_isWording 16 = .ok (.invokevirtual 308, 3) := by decide +kernel
theorem dX12_isWording_19 : decode cX12_isWording 19 = .ok (.invokevirtual 311, 3) := by decide +kernel
theorem dX12_isWording_22 : decode cX12_isWording 22 = .ok (.iload 4, 2) := by decide +kernel
theorem dX12_isWording_24 : decode cX12_isWording 24 = .ok (.if_icmp .eq 5, 3) := by decide +kernel
theorem dX12_isWording_27 : decode cX12_isWording 27 = .ok (.iconst 0, 1) := by decide +kernel
theorem dX12_isWording_28 : decode cX12_isWording 28 = .ok (.ireturn, 1) := by decide +kernel
theorem dX12_isWording_29 : decode cX12_isWording 29 = .ok (.iinc 5 1, 3) := by decide +kernel
theorem dX12_isWording_32 : decode cX12_isWording 32 = .ok (.goto (-29), 3) := by decide +kernel
theorem dX12_isWording_35 : decode cX12_isWording 35 = .ok (.iconst 1, 1) := by decide +kernel
theorem dX12_isWording_36 : decode cX12_isWording 36 = .ok (.ireturn, 1) := by decide +kernel
theorem dX12_isWords_0 : decode cX12_isWords 0 = .ok (.aload_n 0, 1) := by decide +kernel
theorem dX12_isWords_1 : decode cX12_isWords 1 = .ok (.iload_n 1, 1) := by decide +kernel
theorem dX12_isWords_2 : decode cX12_isWords 2 = .ok (.iload_n 2, 1) := by decide +kernel
theorem dX12_isWords_3 : decode cX12_isWords 3 = .ok (.invokevirtual 323, 3) := by decide +kernel
theorem dX12_isWords_6 : decode cX12_isWords 6 = .ok (.ifCond .eq 28, 3) := by decide +kernel
theorem dX12_isWords_9 : decode cX12_isWords 9 = .ok (.iload_n 3, 1) := by decide +kernel
theorem dX12_isWords_10 : decode cX12_isWords 10 = .ok (.i2l, 1) := by decide +kernel
theorem dX12_isWords_11 : decode cX12_isWords 11 = .ok (.lconst 1, 1) := by decide +kernel
theorem dX12_isWords_12 : decode cX12_isWords 12 = .ok (.ldc2_w 410, 3) := by decide +kernel
theorem dX12_isWords_15 : decode cX12_isWords 15 = .ok (.invokestatic 82, 3) := by decide +kernel
theorem dX12_isWords_18 : decode cX12_isWords 18 = .ok (.ifCond .eq 16, 3) := by decide +kernel
theorem dX12_isWords_21 : decode cX12_isWords 21 = .ok (.iload 4, 2) := by decide +kernel
theorem dX12_isWords_23 : decode cX12_isWords 23 = .ok (.i2l, 1) := by decide +kernel
theorem dX12_isWords_24 : decode cX12_isWords 24 = .ok (.invokestatic 341, 3) := by decide +kernel
theorem dX12_isWords_27 : decode cX12_isWords 27 = .ok (.ifCond .eq 7, 3) := by decide +kernel
theorem dX12_isWords_30 : decode cX12_isWords 30 = .ok (.iconst 1, 1) := by decide +kernel
theorem dX12_isWords_31 : decode cX12_isWords 31 = .ok (.goto 4, 3) := by decide +kernel
theorem dX12_isWords_34 : decode cX12_isWords 34 = .ok (.iconst 0, 1) := by decide +kernel
theorem dX12_isWords_35 : decode cX12_isWords 35 = .ok (.ireturn, 1) := by decide +kernel
theorem dX12_lands_0 : decode cX12_lands 0 = .ok (.aload_n 0, 1) := by decide +kernel
theorem dX12_lands_1 : decode cX12_lands 1 = .ok (.iconst 0, 1) := by decide +kernel
theorem dX12_lands_2 : decode cX12_lands 2 = .ok (.putfield 77, 3) := by decide +kernel
theorem dX12_lands_5 : decode cX12_lands 5 = .ok (.aload_n 0, 1) := by decide +kernel
theorem dX12_lands_6 : decode cX12_lands 6 = .ok (.iload_n 1, 1) := by decide +kernel
theorem dX12_lands_7 : decode cX12_lands 7 = .ok (.aload_n 0, 1) := by decide +kernel
theorem dX12_lands_8 : decode cX12_lands 8 = .ok (.invokevirtual 251, 3) := by decide +kernel
theorem dX12_lands_11 : decode cX12_lands 11 = .ok (.ifCond .eq 14, 3) := by decide +kernel
theorem dX12_lands_14 : decode cX12_lands 14 = .ok (.iload_n 2, 1) := by decide +kernel
theorem dX12_lands_15 : decode cX12_lands 15 = .ok (.invokestatic 268, 3) := by decide +kernel
theorem dX12_lands_18 : decode cX12_lands 18 = .ok (.ifCond .eq 7, 3) := by decide +kernel
theorem dX12_lands_21 : decode cX12_lands 21 = .ok (.iconst 1, 1) := by decide +kernel
theorem dX12_lands_22 : decode cX12_lands 22 = .ok (.goto 4, 3) := by decide +kernel
theorem dX12_lands_25 : decode cX12_lands 25 = .ok (.iconst 0, 1) := by decide +kernel
theorem dX12_lands_26 : decode cX12_lands 26 = .ok (.invokevirtual 393, 3) := by decide +kernel
theorem dX12_lands_29 : decode cX12_lands 29 = .ok (.istore_n 3, 1) := by decide +kernel
theorem dX12_lands_30 : decode cX12_lands 30 = .ok (.iload_n 3, 1) := by decide +kernel
theorem dX12_lands_31 : decode cX12_lands 31 = .ok (.ifCond .eq 5, 3) := by decide +kernel
theorem dX12_lands_34 : decode cX12_lands 34 = .ok (.iload_n 3, 1) := by decide +kernel
theorem dX12_lands_35 : decode cX12_lands 35 = .ok (.ireturn, 1) := by decide +kernel
theorem dX12_lands_36 : decode cX12_lands 36 = .ok (.aload_n 0, 1) := by decide +kernel
theorem dX12_lands_37 : decode cX12_lands 37 = .ok (.invokevirtual 326, 3) := by decide +kernel
theorem dX12_lands_40 : decode cX12_lands 40 = .ok (.iconst 0, 1) := by decide +kernel
theorem dX12_lands_41 : decode cX12_lands 41 = .ok (.istore 4, 2) := by decide +kernel
theorem dX12_lands_43 : decode cX12_lands 43 = .ok (.iconst 0, 1) := by decide +kernel
theorem dX12_lands_44 : decode cX12_lands 44 = .ok (.istore 5, 2) := by decide +kernel
theorem dX12_lands_46 : decode cX12_lands 46 = .ok (.iload 5, 2) := by decide +kernel
theorem dX12_lands_48 : decode cX12_lands 48 = .ok (.aload_n 0, 1) := by decide +kernel
theorem dX12_lands_49 : decode cX12_lands 49 = .ok (.getfield 34, 3) := by decide +kernel
theorem dX12_lands_52 : decode cX12_lands 52 = .ok (.iconst 3, 1) := by decide +kernel
theorem dX12_lands_53 : decode cX12_lands 53 = .ok (.iaload, 1) := by decide +kernel
theorem dX12_lands_54 : decode cX12_lands 54 = .ok (.if_icmp .ge 33, 3) := by decide +kernel
theorem dX12_lands_57 : decode cX12_lands 57 = .ok (.iload 4, 2) := by decide +kernel
theorem dX12_lands_59 : decode cX12_lands 59 = .ok (.aload_n 0, 1) := by decide +kernel
theorem dX12_lands_60 : decode cX12_lands 60 = .ok (.iload_n 1, 1) := by decide +kernel
theorem dX12_lands_61 : decode cX12_lands 61 = .ok (.iload 5, 2) := by decide +kernel
theorem dX12_lands_63 : decode cX12_lands 63 = .ok (.iload_n 2, 1) := by decide +kernel
theorem dX12_lands_64 : decode cX12_lands 64 = .ok (.invokevirtual 378, 3) := by decide +kernel
theorem dX12_lands_67 : decode cX12_lands 67 = .ok (.ifCond .eq 10, 3) := by decide +kernel
theorem dX12_lands_70 : decode cX12_lands 70 = .ok (.iconst 1, 1) := by decide +kernel
theorem dX12_lands_71 : decode cX12_lands 71 = .ok (.iload 5, 2) := by decide +kernel
theorem dX12_lands_73 : decode cX12_lands 73 = .ok (.ishl, 1) := by decide +kernel
theorem dX12_lands_74 : decode cX12_lands 74 = .ok (.goto 4, 3) := by decide +kernel
theorem dX12_lands_77 : decode cX12_lands 77 = .ok (.iconst 0, 1) := by decide +kernel
theorem dX12_lands_78 : decode cX12_lands 78 = .ok (.ior, 1) := by decide +kernel
theorem dX12_lands_79 : decode cX12_lands 79 = .ok (.istore 4, 2) := by decide +kernel
theorem dX12_lands_81 : decode cX12_lands 81 = .ok (.iinc 5 1, 3) := by decide +kernel
theorem dX12_lands_84 : decode cX12_lands 84 = .ok (.goto (-38), 3) := by decide +kernel
theorem dX12_lands_87 : decode cX12_lands 87 = .ok (.iload 4, 2) := by decide +kernel
theorem dX12_lands_89 : decode cX12_lands 89 = .ok (.ireturn, 1) := by decide +kernel
theorem dX12_leaves_0 : decode cX12_leaves 0 = .ok (.aload_n 0, 1) := by decide +kernel
theorem dX12_leaves_1 : decode cX12_leaves 1 = .ok (.iconst 0, 1) := by decide +kernel
theorem dX12_leaves_2 : decode cX12_leaves 2 = .ok (.putfield 77, 3) := by decide +kernel
theorem dX12_leaves_5 : decode cX12_leaves 5 = .ok (.aload_n 0, 1) := by decide +kernel
theorem dX12_leaves_6 : decode cX12_leaves 6 = .ok (.iload_n 1, 1) := by decide +kernel
theorem dX12_leaves_7 : decode cX12_leaves 7 = .ok (.aload_n 0, 1) := by decide +kernel
theorem dX12_leaves_8 : decode cX12_leaves 8 = .ok (.iload_n 2, 1) := by decide +kernel
theorem dX12_leaves_9 : decode cX12_leaves 9 = .ok (.invokevirtual 265, 3) := by decide +kernel
theorem dX12_leaves_12 : decode cX12_leaves 12 = .ok (.invokevirtual 393, 3) := by decide +kernel
theorem dX12_leaves_15 : decode cX12_leaves 15 = .ok (.istore_n 3, 1) := by decide +kernel
theorem dX12_leaves_16 : decode cX12_leaves 16 = .ok (.iload_n 3, 1) := by decide +kernel
theorem dX12_leaves_17 : decode cX12_leaves 17 = .ok (.ifCond .eq 5, 3) := by decide +kernel
theorem dX12_leaves_20 : decode cX12_leaves 20 = .ok (.iload_n 3, 1) := by decide +kernel
theorem dX12_leaves_21 : decode cX12_leaves 21 = .ok (.ireturn, 1) := by decide +kernel
theorem dX12_leaves_22 : decode cX12_leaves 22 = .ok (.aload_n 0, 1) := by decide +kernel
theorem dX12_leaves_23 : decode cX12_leaves 23 = .ok (.iload_n 1, 1) := by decide +kernel
theorem dX12_leaves_24 : decode cX12_leaves 24 = .ok (.iload_n 2, 1) := by decide +kernel
theorem dX12_leaves_25 : decode cX12_leaves 25 = .ok (.invokevirtual 397, 3) := by decide +kernel
theorem dX12_leaves_28 : decode cX12_leaves 28 = .ok (.aload_n 0, 1) := by decide +kernel
theorem dX12_leaves_29 : decode cX12_leaves 29 = .ok (.getfield 387, 3) := by decide +kernel
theorem dX12_leaves_32 : decode cX12_leaves 32 = .ok (.ireturn, 1) := by decide +kernel
theorem dX12_rowsFrom_0 : decode cX12_rowsFrom 0 = .ok (.iload_n 1, 1) := by decide +kernel
theorem dX12_rowsFrom_1 : decode cX12_rowsFrom 1 = .ok (.aload_n 0, 1) := by decide +kernel
theorem dX12_rowsFrom_2 : decode cX12_rowsFrom 2 = .ok (.getfield 296, 3) := by decide +kernel
theorem dX12_rowsFrom_5 : decode cX12_rowsFrom 5 = .ok (.if_icmp .ne 64, 3) := by decide +kernel
theorem dX12_rowsFrom_8 : decode cX12_rowsFrom 8 = .ok (.aload_n 0, 1) := by decide +kernel
theorem dX12_rowsFrom_9 : decode cX12_rowsFrom 9 = .ok (.iload_n 2, 1) := by decide +kernel
theorem dX12_rowsFrom_10 : decode cX12_rowsFrom 10 = .ok (.iload_n 3, 1) := by decide +kernel
theorem dX12_rowsFrom_11 : decode cX12_rowsFrom 11 = .ok (.iload 4, 2) := by decide +kernel
theorem dX12_rowsFrom_13 : decode cX12_rowsFrom 13 = .ok (.iload 5, 2) := by decide +kernel
theorem dX12_rowsFrom_15 : decode cX12_rowsFrom 15 = .ok (.invokevirtual 400, 3) := by decide +kernel
theorem dX12_rowsFrom_18 : decode cX12_rowsFrom 18 = .ok (.ifCond .ne 4, 3) := by decide +kernel
theorem dX12_rowsFrom_21 : decode cX12_rowsFrom 21 = .ok (.return_, 1) := by decide +kernel
theorem dX12_rowsFrom_22 : decode cX12_rowsFrom 22 = .ok (.iconst 0, 1) := by decide +kernel
theorem dX12_rowsFrom_23 : decode cX12_rowsFrom 23 = .ok (.istore 6, 2) := by decide +kernel
theorem dX12_rowsFrom_25 : decode cX12_rowsFrom 25 = .ok (.iload 6, 2) := by decide +kernel
theorem dX12_rowsFrom_27 : decode cX12_rowsFrom 27 = .ok (.iload_n 1, 1) := by decide +kernel
theorem dX12_rowsFrom_28 : decode cX12_rowsFrom 28 = .ok (.if_icmp .ge 30, 3) := by decide +kernel
theorem dX12_rowsFrom_31 : decode cX12_rowsFrom 31 = .ok (.aload_n 0, 1) := by decide +kernel
theorem dX12_rowsFrom_32 : decode cX12_rowsFrom 32 = .ok (.getfield 403, 3) := by decide +kernel
theorem dX12_rowsFrom_35 : decode cX12_rowsFrom 35 = .ok (.ifCond .ne 23, 3) := by decide +kernel
theorem dX12_rowsFrom_38 : decode cX12_rowsFrom 38 = .ok (.aload_n 0, 1) := by decide +kernel
theorem dX12_rowsFrom_39 : decode cX12_rowsFrom 39 = .ok (.getfield 74, 3) := by decide +kernel
theorem dX12_rowsFrom_42 : decode cX12_rowsFrom 42 = .ok (.iload 6, 2) := by decide +kernel
theorem dX12_rowsFrom_44 : decode cX12_rowsFrom 44 = .ok (.aload_n 0, 1) := by decide +kernel
theorem dX12_rowsFrom_45 : decode cX12_rowsFrom 45 = .ok (.getfield 68, 3) := by decide +kernel
theorem dX12_rowsFrom_48 : decode cX12_rowsFrom 48 = .ok (.iload 6, 2) := by decide +kernel
theorem dX12_rowsFrom_50 : decode cX12_rowsFrom 50 = .ok (.iaload, 1) := by decide +kernel
theorem dX12_rowsFrom_51 : decode cX12_rowsFrom 51 = .ok (.iastore, 1) := by decide +kernel
theorem dX12_rowsFrom_52 : decode cX12_rowsFrom 52 = .ok (.iinc 6 1, 3) := by decide +kernel
theorem dX12_rowsFrom_55 : decode cX12_rowsFrom 55 = .ok (.goto (-30), 3) := by decide +kernel
theorem dX12_rowsFrom_58 : decode cX12_rowsFrom 58 = .ok (.aload_n 0, 1) := by decide +kernel
theorem dX12_rowsFrom_59 : decode cX12_rowsFrom 59 = .ok (.dup, 1) := by decide +kernel
theorem dX12_rowsFrom_60 : decode cX12_rowsFrom 60 = .ok (.getfield 403, 3) := by decide +kernel
theorem dX12_rowsFrom_63 : decode cX12_rowsFrom 63 = .ok (.iconst 1, 1) := by decide +kernel
theorem dX12_rowsFrom_64 : decode cX12_rowsFrom 64 = .ok (.iadd, 1) := by decide +kernel
theorem dX12_rowsFrom_65 : decode cX12_rowsFrom 65 = .ok (.putfield 403, 3) := by decide +kernel
theorem dX12_rowsFrom_68 : decode cX12_rowsFrom 68 = .ok (.return_, 1) := by decide +kernel
theorem mm_kl7 : mm_rl 7 7 7 := ⟨by decide, by decide⟩
theorem hd_X12_isWording : yX12_isWording.cls = RX12 ∧ yX12_isWording.cls ≠ "java/lang/invoke/MethodHandle" ∧ yX12_isWording.cls ≠ "java/lang/invoke/VarHandle" ∧ (parseMethodDescriptor yX12_isWording.desc).map (fun d => d.parameters.length) = some 4 := by decide +kernel
set_option maxHeartbeats 4000000 in
set_option maxRecDepth 100000 in
theorem M208_X12_leaves (l : Launch) (G : va_G) (cy : Nat → ClassId) (sz : Nat) (a_0 : Nat) (i_0 : Int32) (i_1 : Int32) (i_2 : Int32) (a_1 : Nat) (a_2 : Nat) (a_3 : Nat) (a_4 : Nat) (a_5 : Nat) (i_3 : Int32) (i_4 : Int32) (i_5 : Int32) (i_6 : Int32) (i_7 : Int32) (j_0 : Int64) (i_8 : Int32) (i_9 : Int32) (i_10 : Int32) (i_11 : Int32) (a_6 : Nat) (a_7 : Nat) (a_8 : Nat) (a_9 : Nat) (a_10 : Nat) (a_11 : Nat) (a_12 : Nat) (a_13 : Nat) (a_14 : Nat) (a_15 : Nat) (a_16 : Nat) (a_17 : Nat) (a_18 : Nat) (i_12 : Int32) (i_13 : Int32) (i_14 : Int32) (i_15 : Int32) (i_16 : Int32) (i_17 : Int32) (a_19 : Nat) (i_18 : Int32) (a_20 : Nat) (f_0 : Nat → Int32) (f_1 : Nat → Int32) (f_2 : Nat → Int64) (i_19 : Int32) (i_20 : Int32) (i_21 : Int32) (i_22 : Int32) (i_23 : Int32) (i_24 : Int32) (i_25 : Int32) (i_26 : Int32) (i_27 : Int32) (i_28 : Int32) (i_29 : Int32) (i_30 : Int32) (i_31 : Int32) (i_32 : Int32) (i_33 : Int32) (i_34 : Int32) (i_35 : Int32) (i_36 : Int32) (i_37 : Int32) (i_38 : Int32) (i_39 : Int32) (i_40 : Int32) (i_41 : Int32) (i_42 : Int32) (i_43 : Int32) (i_44 : Int32) (i_45 : Int32) (i_46 : Int32) (i_47 : Int32) (i_48 : Int32) (i_49 : Int32) (i_50 : Int32) (i_51 : Int32) (i_52 : Int32) (i_53 : Int32) (f_3 : Nat → Int32) (f_4 : Nat → Int32) (f_5 : Nat → Int32) (f_6 : Nat → Int32) (f_7 : Nat → Int32) (f_8 : Nat → Int32) (f_9 : Nat → Int32) (f_10 : Nat → Int32) (f_11 : Nat → Int32) (f_12 : Nat → Int32) (f_13 : Nat → Int32) (h0 : mm_rg i_12 0 8) (h1 : mm_ar f_0 (-1) 3) (h2 : mm_ar f_1 0 60) (h3 : mm_rg i_19 0 601) (h4 : mm_rg i_20 0 601) (h5 : mm_rg i_21 0 601) (h6 : mm_rg i_22 0 601) (h7 : mm_rg i_23 0 601) (h8 : mm_rg i_24 0 10) (h9 : mm_rg i_25 0 99) (h10 : mm_rg i_26 0 9) (h11 : mm_rg i_27 0 3) (h12 : mm_rg i_28 0 6) (h13 : mm_rg i_29 0 30) (h14 : mm_rg i_30 0 10) (h15 : mm_rg i_31 0 99) (h16 : mm_rg i_32 0 9) (h17 : mm_rg i_33 0 3) (h18 : mm_rg i_34 0 6) (h19 : mm_rg i_35 0 30) (h20 : mm_rg i_36 0 10) (h21 : mm_rg i_37 0 99) (h22 : mm_rg i_38 0 9) (h23 : mm_rg i_39 0 3) (h24 : mm_rg i_40 0 6) (h25 : mm_rg i_41 0 30) (h26 : mm_rg i_42 0 10) (h27 : mm_rg i_43 0 99) (h28 : mm_rg i_44 0 9) (h29 : mm_rg i_45 0 3) (h30 : mm_rg i_46 0 6) (h31 : mm_rg i_47 0 30) (h32 : mm_rg i_48 0 10) (h33 : mm_rg i_49 0 99) (h34 : mm_rg i_50 0 9) (h35 : mm_rg i_51 0 3) (h36 : mm_rg i_52 0 6) (h37 : mm_rg i_53 0 30) (h38 : mm_ar f_3 0 99) (h39 : mm_ar f_4 0 7) (h40 : mm_ar f_5 0 9) (h41 : mm_ar f_6 0 8) (h42 : mm_ar f_7 0 9) (h43 : mm_ar f_8 (-1) 99) (h44 : mm_ar f_9 0 9) (h45 : mm_ar f_10 0 210) (h46 : mm_ar f_11 0 210) (h47 : mm_ar f_12 0 9) (h48 : mm_ar f_13 0 1) (h49 : mm_rls f_4 f_5 0 i_26 i_27) (h50 : mm_txs f_6 f_7 0 i_26 i_28) (h51 : mm_acs f_8 0 i_26 i_27 i_29) (h52 : mm_tl i_19 i_27 i_28) (h53 : mm_rls f_4 f_5 1 i_32 i_33) (h54 : mm_txs f_6 f_7 1 i_32 i_34) (h55 : mm_acs f_8 1 i_32 i_33 i_35) (h56 : mm_tl i_20 i_33 i_34) (h57 : mm_rls f_4 f_5 2 i_38 i_39) (h58 : mm_txs f_6 f_7 2 i_38 i_40) (h59 : mm_acs f_8 2 i_38 i_39 i_41) (h60 : mm_tl i_21 i_39 i_40) (h61 : mm_rls f_4 f_5 3 i_44 i_45) (h62 : mm_txs f_6 f_7 3 i_44 i_46) (h63 : mm_acs f_8 3 i_44 i_45 i_47) (h64 : mm_tl i_22 i_45 i_46)  : mm_CI l yX12_leaves (mm_ws yX12_leaves cX12_leaves 4 (some .int)) ({ frames := 16, cells := 0, slots := 0, locals := 347 } : Room) G cy sz [(a_0, .inr (12, [.int i_2, .ref a_1, .ref a_2, .ref a_3, .ref a_4, .ref a_5, .int i_3, .int i_4, .int i_5, .int i_6, .int i_7, .long j_0, .int i_8, .int i_9, .int i_10, .int i_11, .ref a_6, .ref a_7, .ref a_8, .ref a_9, .ref a_10, .ref a_11, .ref a_12, .ref a_13, .ref a_14, .ref a_15, .ref a_16, .ref a_17, .ref a_18, .int i_12, .int i_13, .int i_14, .int i_15, .int i_16, .int i_17, .ref a_19, .int i_18, .ref a_20])), (a_1, .inl (cy 1, 4, .inl f_0)), (a_2, .inl (cy 1, 4, .inl f_1)), (a_3, .inl (cy 2, 240, .inr (.inl f_2))), (a_6, .inl (cy 1, 5, .inl (mm_g [i_19, i_20, i_21, i_22, i_23]))), (a_7, .inl (cy 1, 30, .inl (mm_g [i_24, i_25, i_26, i_27, i_28, i_29, i_30, i_31, i_32, i_33, i_34, i_35, i_36, i_37, i_38, i_39, i_40, i_41, i_42, i_43, i_44, i_45, i_46, i_47, i_48, i_49, i_50, i_51, i_52, i_53]))), (a_8, .inl (cy 1, 90, .inl f_3)), (a_9, .inl (cy 1, 15, .inl f_4)), (a_10, .inl (cy 1, 1050, .inl f_5)), (a_11, .inl (cy 1, 30, .inl f_6)), (a_12, .inl (cy 1, 240, .inl f_7)), (a_13, .inl (cy 1, 450, .inl f_8)), (a_15, .inl (cy 1, 7200, .inl f_9)), (a_16, .inl (cy 1, 3, .inl f_10)), (a_17, .inl (cy 1, 3, .inl f_11)), (a_18, .inl (cy 1, 8, .inl f_12)), (a_19, .inl (cy 3, 240, .inl f_13))] [.ref a_0, .int i_0, .int i_1] (fun u : Int32 × Int32 × Int32 × Int32 × Int32 × Int32 × (Nat → Int32) × (Nat → Int32) × (Nat → Int32) × (Nat → Int32) × (Nat → Int32) => [(a_0, .inr (12, [.int 0, .ref a_1, .ref a_2, .ref a_3, .ref a_4, .ref a_5, .int i_3, .int i_4, .int i_5, .int i_6, .int i_7, .long j_0, .int i_8, .int i_9, .int i_10, .int i_11, .ref a_6, .ref a_7, .ref a_8, .ref a_9, .ref a_10, .ref a_11, .ref a_12, .ref a_13, .ref a_14, .ref a_15, .ref a_16, .ref a_17, .ref a_18, .int u.1, .int u.2.1, .int u.2.2.1, .int u.2.2.2.1, .int u.2.2.2.2.1, .int u.2.2.2.2.2.1, .ref a_19, .int i_18, .ref a_20])), (a_1, .inl (cy 1, 4, .inl f_0)), (a_2, .inl (cy 1, 4, .inl f_1)), (a_3, .inl (cy 2, 240, .inr (.inl f_2))), (a_6, .inl (cy 1, 5, .inl (mm_g [i_19, i_20, i_21, i_22, i_23]))), (a_7, .inl (cy 1, 30, .inl (mm_g [i_24, i_25, i_26, i_27, i_28, i_29, i_30, i_31, i_32, i_33, i_34, i_35, i_36, i_37, i_38, i_39, i_40, i_41, i_42, i_43, i_44, i_45, i_46, i_47, i_48, i_49, i_50, i_51, i_52, i_53]))), (a_8, .inl (cy 1, 90, .inl f_3)), (a_9, .inl (cy 1, 15, .inl f_4)), (a_10, .inl (cy 1, 1050, .inl f_5)), (a_11, .inl (cy 1, 30, .inl f_6)), (a_12, .inl (cy 1, 240, .inl f_7)), (a_13, .inl (cy 1, 450, .inl f_8)), (a_15, .inl (cy 1, 7200, .inl u.2.2.2.2.2.2.1)), (a_16, .inl (cy 1, 3, .inl u.2.2.2.2.2.2.2.1)), (a_17, .inl (cy 1, 3, .inl u.2.2.2.2.2.2.2.2.1)), (a_18, .inl (cy 1, 8, .inl u.2.2.2.2.2.2.2.2.2.1)), (a_19, .inl (cy 3, 240, .inl u.2.2.2.2.2.2.2.2.2.2))]) (fun (r : Int32) (u : Int32 × Int32 × Int32 × Int32 × Int32 × Int32 × (Nat → Int32) × (Nat → Int32) × (Nat → Int32) × (Nat → Int32) × (Nat → Int32)) => mm_rg u.1 0 8 ∧ mm_ar u.2.2.2.2.2.2.1 0 9 ∧ mm_ar u.2.2.2.2.2.2.2.1 0 210 ∧ mm_ar u.2.2.2.2.2.2.2.2.1 0 210 ∧ mm_ar u.2.2.2.2.2.2.2.2.2.1 0 9 ∧ mm_ar u.2.2.2.2.2.2.2.2.2.2 0 1 ∧ True) 0 0 := by
  refine mm_begin (lv := [(0, .ref a_0), (1, .int i_0), (2, .int i_1)]) (by decide) (Nat.le_of_ble_eq_true rfl) rfl ?_
  intro p e s m below meth c A ls R args Q H locs hRe hQ hAe hx hb hr hlocks hml hown hnm hts hsz hA hS hP hK hD hZ hl
  have hRf : R.frames = 16 := by rw [hRe]
  have hRl : R.locals = 347 := by rw [hRe]
  have hRc : R.cells = 0 := by rw [hRe]
  have hRs : R.slots = 0 := by rw [hRe]
  refine lv_aload_n hx hb dX12_leaves_0 rfl (lv_at hl 0 rfl) ?_
  refine lv_iconst (v := 0) hx hb dX12_leaves_1 (by decide) ?_
  refine va_put (D := G) (ci := 12) (v := .int 0) (ty := tyX12 0) (C := RX12) (T := TX12) (N := 38) hx hb hts (mm_i inlX12) tyX12 tyX12_ok nmX12 hown hK.1 hP hD hS 0 rfl rfl 0 (by decide) (mm_h hts mm_w177) (fun _ h9 => h9) rfl (tyX12_ok 0 (by decide)) rfl rfl (Nat.le_of_ble_eq_true rfl) dX12_leaves_2 ?_
  clear hP hD hS
  clear H locs
  intro H locs (hP : va_P G vwCl [(a_0, .inr (12, [.int 0, .ref a_1, .ref a_2, .ref a_3, .ref a_4, .ref a_5, .int i_3, .int i_4, .int i_5, .int i_6, .int i_7, .long j_0, .int i_8, .int i_9, .int i_10, .int i_11, .ref a_6, .ref a_7, .ref a_8, .ref a_9, .ref a_10, .ref a_11, .ref a_12, .ref a_13, .ref a_14, .ref a_15, .ref a_16, .ref a_17, .ref a_18, .int i_12, .int i_13, .int i_14, .int i_15, .int i_16, .int i_17, .ref a_19, .int i_18, .ref a_20])), (a_1, .inl (cy 1, 4, .inl f_0)), (a_2, .inl (cy 1, 4, .inl f_1)), (a_3, .inl (cy 2, 240, .inr (.inl f_2))), (a_6, .inl (cy 1, 5, .inl (mm_g [i_19, i_20, i_21, i_22, i_23]))), (a_7, .inl (cy 1, 30, .inl (mm_g [i_24, i_25, i_26, i_27, i_28, i_29, i_30, i_31, i_32, i_33, i_34, i_35, i_36, i_37, i_38, i_39, i_40, i_41, i_42, i_43, i_44, i_45, i_46, i_47, i_48, i_49, i_50, i_51, i_52, i_53]))), (a_8, .inl (cy 1, 90, .inl f_3)), (a_9, .inl (cy 1, 15, .inl f_4)), (a_10, .inl (cy 1, 1050, .inl f_5)), (a_11, .inl (cy 1, 30, .inl f_6)), (a_12, .inl (cy 1, 240, .inl f_7)), (a_13, .inl (cy 1, 450, .inl f_8)), (a_15, .inl (cy 1, 7200, .inl f_9)), (a_16, .inl (cy 1, 3, .inl f_10)), (a_17, .inl (cy 1, 3, .inl f_11)), (a_18, .inl (cy 1, 8, .inl f_12)), (a_19, .inl (cy 3, 240, .inl f_13))] H) (hD : va_D A [(a_0, .inr (12, [.int 0, .ref a_1, .ref a_2, .ref a_3, .ref a_4, .ref a_5, .int i_3, .int i_4, .int i_5, .int i_6, .int i_7, .long j_0, .int i_8, .int i_9, .int i_10, .int i_11, .ref a_6, .ref a_7, .ref a_8, .ref a_9, .ref a_10, .ref a_11, .ref a_12, .ref a_13, .ref a_14, .ref a_15, .ref a_16, .ref a_17, .ref a_18, .int i_12, .int i_13, .int i_14, .int i_15, .int i_16, .int i_17, .ref a_19, .int i_18, .ref a_20])), (a_1, .inl (cy 1, 4, .inl f_0)), (a_2, .inl (cy 1, 4, .inl f_1)), (a_3, .inl (cy 2, 240, .inr (.inl f_2))), (a_6, .inl (cy 1, 5, .inl (mm_g [i_19, i_20, i_21, i_22, i_23]))), (a_7, .inl (cy 1, 30, .inl (mm_g [i_24, i_25, i_26, i_27, i_28, i_29, i_30, i_31, i_32, i_33, i_34, i_35, i_36, i_37, i_38, i_39, i_40, i_41, i_42, i_43, i_44, i_45, i_46, i_47, i_48, i_49, i_50, i_51, i_52, i_53]))), (a_8, .inl (cy 1, 90, .inl f_3)), (a_9, .inl (cy 1, 15, .inl f_4)), (a_10, .inl (cy 1, 1050, .inl f_5)), (a_11, .inl (cy 1, 30, .inl f_6)), (a_12, .inl (cy 1, 240, .inl f_7)), (a_13, .inl (cy 1, 450, .inl f_8)), (a_15, .inl (cy 1, 7200, .inl f_9)), (a_16, .inl (cy 1, 3, .inl f_10)), (a_17, .inl (cy 1, 3, .inl f_11)), (a_18, .inl (cy 1, 8, .inl f_12)), (a_19, .inl (cy 3, 240, .inl f_13))]) hS
  refine lv_aload_n hx hb dX12_leaves_5 rfl (lv_at hl 0 rfl) ?_
  refine lv_iload_n hx hb dX12_leaves_6 rfl (lv_at hl 1 rfl) ?_
  refine lv_aload_n hx hb dX12_leaves_7 rfl (lv_at hl 0 rfl) ?_
  refine lv_iload_n hx hb dX12_leaves_8 rfl (lv_at hl 2 rfl) ?_
  refine mm_finir (va_runV (As := [.int i_1]) (rest := [.int i_0, .ref a_0]) ⟨hx, hb, hml, hown, hts⟩ (M98_X12_isLand l G cy H.size a_0 i_1 0 a_1 a_2 a_3 a_4 a_5 i_3 i_4 i_5 i_6 i_7 j_0 i_8 i_9 i_10 i_11 a_6 a_7 a_8 a_9 a_10 a_11 a_12 a_13 a_14 a_15 a_16 a_17 a_18 i_12 i_13 i_14 i_15 i_16 i_17 a_19 i_18 a_20 i_24 i_25 i_26 i_27 i_28 i_29 i_30 i_31 i_32 i_33 i_34 i_35 i_36 i_37 i_38 i_39 i_40 i_41 i_42 i_43 i_44 i_45 i_46 i_47 i_48 i_49 i_50 i_51 i_52 i_53 h8 h9 h10 h11 h12 h13 h14 h15 h16 h17 h18 h19 h20 h21 h22 h23 h24 h25 h26 h27 h28 h29 h30 h31 h32 h33 h34 h35 h36 h37) (cwV 1 hts (mm_gV mm_w641 mm_w642 mm_w643 mm_w5 mm_w644) rfl rfl rfl hd_X12_isLand ⟨by rw [hRf]; exact Nat.le_of_ble_eq_true rfl, by rw [hRl]; exact Nat.le_of_ble_eq_true rfl⟩) (mm_preV hK hZ hS hA hP hD [0, 5] rfl rfl 0 rfl rfl rfl) rfl rfl hl.1 rfl (lv_room (Nat.le_of_ble_eq_true rfl)) dX12_leaves_9 ⟨by rw [hRc]; exact Nat.le_of_ble_eq_true rfl, by rw [hRs]; exact Nat.le_of_ble_eq_true rfl⟩) hP hD hS hA [0, 5] rfl (fun _ => rfl) ?_
  clear hP hD hS
  clear H locs
  intro v1 _u H locs hw hP hD hS
  rcases hw with rfl | ⟨rfl, w2, w3⟩
  · refine mm_finir (va_runV (As := [.int i_0, .int 0]) (rest := []) ⟨hx, hb, hml, hown, hts⟩ (M198_X12_whyNot l G cy H.size a_0 i_0 ) (cwV 2 hts (mm_gV mm_w1265 mm_w1266 mm_w1267 mm_w5 mm_w1268) rfl rfl rfl hd_X12_whyNot ⟨by rw [hRf]; exact Nat.le_of_ble_eq_true rfl, by rw [hRl]; exact Nat.le_of_ble_eq_true rfl⟩) (mm_preV hK hZ hS hA hP hD [] rfl rfl 0 rfl rfl rfl) rfl rfl hl.1 rfl (lv_room (Nat.le_of_ble_eq_true rfl)) dX12_leaves_12 ⟨by rw [hRc]; exact Nat.le_of_ble_eq_true rfl, by rw [hRs]; exact Nat.le_of_ble_eq_true rfl⟩) hP hD hS hA [] rfl (fun _ => rfl) ?_
    clear hP hD hS
    clear H locs
    intro v4 _u H locs hw hP hD hS
    subst hw
    refine lv_istore_n (lv' := [(3, .int (-2)), (0, .ref a_0), (1, .int i_0), (2, .int i_1)]) hx hb dX12_leaves_15 rfl hl (by decide) rfl ?_
    clear hl
    clear ls
    intro ls hl
    refine lv_iload_n hx hb dX12_leaves_16 rfl (lv_at hl 0 rfl) ?_
    refine lv_if_eq (tgt := 22) hx hb dX12_leaves_17 (by decide) (fun c5 => ?_) (fun c5 => ?_)
    · exact mm_eqN c5 mm_km2 mm_k0 (by decide)
    · refine lv_iload_n hx hb dX12_leaves_20 rfl (lv_at hl 0 rfl) ?_
      subst hAe
      rw [hQ]
      exact W.iret (v := (-2)) hx hb hr (fun t ht hW => ⟨⟨(-2), (i_12, i_13, i_14, i_15, i_16, i_17, f_9, f_10, f_11, f_12, f_13), rfl, ⟨h0, h44, h45, h46, h47, h48, trivial⟩, by rw [ht]; exact hP, hK.warm hW, hD⟩, hS.F ht⟩) hS.2.2 dX12_leaves_21
  · have q6 := mm_ltR (lo := 1) w3 w2 h11 (by decide)
    have q7 : mm_rg i_19 1 601 := mm_tl_3 h52 q6 h3 (by decide)
    refine mm_finir (va_runV (As := [.int i_0, .int 1]) (rest := []) ⟨hx, hb, hml, hown, hts⟩ (M200_X12_whyNot l G cy H.size a_0 i_0 0 a_1 a_2 a_3 a_4 a_5 i_3 i_4 i_5 i_6 i_7 j_0 i_8 i_9 i_10 i_11 a_6 a_7 a_8 a_9 a_10 a_11 a_12 a_13 a_14 a_15 a_16 a_17 a_18 i_12 i_13 i_14 i_15 i_16 i_17 a_19 i_18 a_20 f_0 f_1 f_2 i_24 i_25 i_26 i_27 i_28 i_29 i_30 i_31 i_32 i_33 i_34 i_35 i_36 i_37 i_38 i_39 i_40 i_41 i_42 i_43 i_44 i_45 i_46 i_47 i_48 i_49 i_50 i_51 i_52 i_53 h1 h2 h8 h9 h10 (mm_wk q6 (by decide)) h12 h13 h14 h15 h16 h17 h18 h19 h20 h21 h22 h23 h24 h25 h26 h27 h28 h29 h30 h31 h32 h33 h34 h35 h36 h37) (cwV 2 hts (mm_gV mm_w1265 mm_w1266 mm_w1267 mm_w5 mm_w1268) rfl rfl rfl hd_X12_whyNot ⟨by rw [hRf]; exact Nat.le_of_ble_eq_true rfl, by rw [hRl]; exact Nat.le_of_ble_eq_true rfl⟩) (mm_preV hK hZ hS hA hP hD [0, 1, 2, 3, 5] rfl rfl 0 rfl rfl rfl) rfl rfl hl.1 rfl (lv_room (Nat.le_of_ble_eq_true rfl)) dX12_leaves_12 ⟨by rw [hRc]; exact Nat.le_of_ble_eq_true rfl, by rw [hRs]; exact Nat.le_of_ble_eq_true rfl⟩) hP hD hS hA [0, 1, 2, 3, 5] rfl (fun _ => rfl) ?_
    clear hP hD hS
    clear H locs
    intro v8 _u H locs hw hP hD hS
    rcases hw with rfl | ⟨rfl, w9⟩ | ⟨rfl, w10, w11⟩
    · refine lv_istore_n (lv' := [(3, .int (-2)), (0, .ref a_0), (1, .int i_0), (2, .int i_1)]) hx hb dX12_leaves_15 rfl hl (by decide) rfl ?_
      clear hl
      clear ls
      intro ls hl
      refine lv_iload_n hx hb dX12_leaves_16 rfl (lv_at hl 0 rfl) ?_
      refine lv_if_eq (tgt := 22) hx hb dX12_leaves_17 (by decide) (fun c12 => ?_) (fun c12 => ?_)
      · exact mm_eqN c12 mm_km2 mm_k0 (by decide)
      · refine lv_iload_n hx hb dX12_leaves_20 rfl (lv_at hl 0 rfl) ?_
        subst hAe
        rw [hQ]
        exact W.iret (v := (-2)) hx hb hr (fun t ht hW => ⟨⟨(-2), (i_12, i_13, i_14, i_15, i_16, i_17, f_9, f_10, f_11, f_12, f_13), rfl, ⟨h0, h44, h45, h46, h47, h48, trivial⟩, by rw [ht]; exact hP, hK.warm hW, hD⟩, hS.F ht⟩) hS.2.2 dX12_leaves_21
    · refine lv_istore_n (lv' := [(3, .int (-6)), (0, .ref a_0), (1, .int i_0), (2, .int i_1)]) hx hb dX12_leaves_15 rfl hl (by decide) rfl ?_
      clear hl
      clear ls
      intro ls hl
      refine lv_iload_n hx hb dX12_leaves_16 rfl (lv_at hl 0 rfl) ?_
      refine lv_if_eq (tgt := 22) hx hb dX12_leaves_17 (by decide) (fun c13 => ?_) (fun c13 => ?_)
      · exact mm_eqN c13 mm_km6 mm_k0 (by decide)
      · refine lv_iload_n hx hb dX12_leaves_20 rfl (lv_at hl 0 rfl) ?_
        subst hAe
        rw [hQ]
        exact W.iret (v := (-6)) hx hb hr (fun t ht hW => ⟨⟨(-6), (i_12, i_13, i_14, i_15, i_16, i_17, f_9, f_10, f_11, f_12, f_13), rfl, ⟨h0, h44, h45, h46, h47, h48, trivial⟩, by rw [ht]; exact hP, hK.warm hW, hD⟩, hS.F ht⟩) hS.2.2 dX12_leaves_21
    · refine lv_istore_n (lv' := [(3, .int 0), (0, .ref a_0), (1, .int i_0), (2, .int i_1)]) hx hb dX12_leaves_15 rfl hl (by decide) rfl ?_
      clear hl
      clear ls
      intro ls hl
      refine lv_iload_n hx hb dX12_leaves_16 rfl (lv_at hl 0 rfl) ?_
      refine lv_if_eq (tgt := 22) hx hb dX12_leaves_17 (by decide) (fun c14 => ?_) (fun c14 => ?_)
      · refine lv_aload_n hx hb dX12_leaves_22 rfl (lv_at hl 1 rfl) ?_
        refine lv_iload_n hx hb dX12_leaves_23 rfl (lv_at hl 2 rfl) ?_
        refine lv_iload_n hx hb dX12_leaves_24 rfl (lv_at hl 3 rfl) ?_
        refine mm_finv (va_runV (As := [.int i_0, .int i_1]) (rest := []) ⟨hx, hb, hml, hown, hts⟩ (M206_X12_laysAsk l G cy H.size a_0 i_0 i_1 0 a_1 a_2 a_3 a_4 a_5 i_3 i_4 i_5 i_6 i_7 j_0 i_8 i_9 i_10 i_11 a_6 a_7 a_8 a_9 a_10 a_11 a_12 a_13 a_14 a_15 a_16 a_17 a_18 i_12 i_13 i_14 i_15 i_16 i_17 a_19 i_18 a_20 f_1 f_2 i_19 i_20 i_21 i_22 i_23 i_24 i_25 i_26 i_27 i_28 i_29 i_30 i_31 i_32 i_33 i_34 i_35 i_36 i_37 i_38 i_39 i_40 i_41 i_42 i_43 i_44 i_45 i_46 i_47 i_48 i_49 i_50 i_51 i_52 i_53 f_3 f_4 f_5 f_6 f_7 f_8 f_9 f_10 f_11 f_12 f_13 w10 w2 h0 h2 (mm_wk q7 (by decide)) h4 h5 h6 h7 h8 h9 h10 (mm_wk q6 (by decide)) h12 h13 h14 h15 h16 h17 h18 h19 h20 h21 h22 h23 h24 h25 h26 h27 h28 h29 h30 h31 h32 h33 h34 h35 h36 h37 h38 h39 h40 h41 h42 h43 h44 h45 h46 h47 h48 h49 h50 h51 h52 h53 h54 h55 h56 h57 h58 h59 h60 h61 h62 h63 h64 w3 w11) (cwV 2 hts (mm_gV mm_w1317 mm_w1318 mm_w1319 mm_w5 mm_w1320) rfl rfl rfl hd_X12_laysAsk ⟨by rw [hRf]; exact Nat.le_of_ble_eq_true rfl, by rw [hRl]; exact Nat.le_of_ble_eq_true rfl⟩) (mm_preV hK hZ hS hA hP hD [0, 2, 3, 4, 5, 6, 7, 8, 9, 10, 11, 12, 13, 14, 15, 16] rfl rfl 0 rfl rfl rfl) rfl rfl hl.1 rfl (lv_room (Nat.le_of_ble_eq_true rfl)) dX12_leaves_25 ⟨by rw [hRc]; exact Nat.le_of_ble_eq_true rfl, by rw [hRs]; exact Nat.le_of_ble_eq_true rfl⟩) hP hD hS hA (fun u : Int32 × Int32 × Int32 × Int32 × Int32 × Int32 × (Nat → Int32) × (Nat → Int32) × (Nat → Int32) × (Nat → Int32) × (Nat → Int32) => [(a_0, .inr (12, [.int 0, .ref a_1, .ref a_2, .ref a_3, .ref a_4, .ref a_5, .int i_3, .int i_4, .int i_5, .int i_6, .int i_7, .long j_0, .int i_8, .int i_9, .int i_10, .int i_11, .ref a_6, .ref a_7, .ref a_8, .ref a_9, .ref a_10, .ref a_11, .ref a_12, .ref a_13, .ref a_14, .ref a_15, .ref a_16, .ref a_17, .ref a_18, .int u.1, .int u.2.1, .int u.2.2.1, .int u.2.2.2.1, .int u.2.2.2.2.1, .int u.2.2.2.2.2.1, .ref a_19, .int i_18, .ref a_20])), (a_1, .inl (cy 1, 4, .inl f_0)), (a_2, .inl (cy 1, 4, .inl f_1)), (a_3, .inl (cy 2, 240, .inr (.inl f_2))), (a_6, .inl (cy 1, 5, .inl (mm_g [i_19, i_20, i_21, i_22, i_23]))), (a_7, .inl (cy 1, 30, .inl (mm_g [i_24, i_25, i_26, i_27, i_28, i_29, i_30, i_31, i_32, i_33, i_34, i_35, i_36, i_37, i_38, i_39, i_40, i_41, i_42, i_43, i_44, i_45, i_46, i_47, i_48, i_49, i_50, i_51, i_52, i_53]))), (a_8, .inl (cy 1, 90, .inl f_3)), (a_9, .inl (cy 1, 15, .inl f_4)), (a_10, .inl (cy 1, 1050, .inl f_5)), (a_11, .inl (cy 1, 30, .inl f_6)), (a_12, .inl (cy 1, 240, .inl f_7)), (a_13, .inl (cy 1, 450, .inl f_8)), (a_15, .inl (cy 1, 7200, .inl u.2.2.2.2.2.2.1)), (a_16, .inl (cy 1, 3, .inl u.2.2.2.2.2.2.2.1)), (a_17, .inl (cy 1, 3, .inl u.2.2.2.2.2.2.2.2.1)), (a_18, .inl (cy 1, 8, .inl u.2.2.2.2.2.2.2.2.2.1)), (a_19, .inl (cy 3, 240, .inl u.2.2.2.2.2.2.2.2.2.2))]) [0, 2, 3, 4, 5, 6, 7, 8, 9, 10, 11, 12, 13, 14, 15, 16] [1] (n := 17) (fun _ => rfl) (by decide +kernel) (by decide +kernel) rfl (fun _ => rfl) (wr := [(a_1, .inl (cy 1, 4, .inl f_0))]) rfl (fun _ => rfl) (fun _ => @rfl _ ([a_0, a_2, a_3, a_6, a_7, a_8, a_9, a_10, a_11, a_12, a_13, a_15, a_16, a_17, a_18, a_19] : List Nat)) ?_
        clear hP hD hS
        clear H locs
        intro u
        obtain ⟨n15, n16, n17, n18, n19, n20, n21, n22, n23, n24, n25⟩ := u
        intro H locs hw (hP : va_P G vwCl [(a_0, .inr (12, [.int 0, .ref a_1, .ref a_2, .ref a_3, .ref a_4, .ref a_5, .int i_3, .int i_4, .int i_5, .int i_6, .int i_7, .long j_0, .int i_8, .int i_9, .int i_10, .int i_11, .ref a_6, .ref a_7, .ref a_8, .ref a_9, .ref a_10, .ref a_11, .ref a_12, .ref a_13, .ref a_14, .ref a_15, .ref a_16, .ref a_17, .ref a_18, .int n15, .int n16, .int n17, .int n18, .int n19, .int n20, .ref a_19, .int i_18, .ref a_20])), (a_1, .inl (cy 1, 4, .inl f_0)), (a_2, .inl (cy 1, 4, .inl f_1)), (a_3, .inl (cy 2, 240, .inr (.inl f_2))), (a_6, .inl (cy 1, 5, .inl (mm_g [i_19, i_20, i_21, i_22, i_23]))), (a_7, .inl (cy 1, 30, .inl (mm_g [i_24, i_25, i_26, i_27, i_28, i_29, i_30, i_31, i_32, i_33, i_34, i_35, i_36, i_37, i_38, i_39, i_40, i_41, i_42, i_43, i_44, i_45, i_46, i_47, i_48, i_49, i_50, i_51, i_52, i_53]))), (a_8, .inl (cy 1, 90, .inl f_3)), (a_9, .inl (cy 1, 15, .inl f_4)), (a_10, .inl (cy 1, 1050, .inl f_5)), (a_11, .inl (cy 1, 30, .inl f_6)), (a_12, .inl (cy 1, 240, .inl f_7)), (a_13, .inl (cy 1, 450, .inl f_8)), (a_15, .inl (cy 1, 7200, .inl n21)), (a_16, .inl (cy 1, 3, .inl n22)), (a_17, .inl (cy 1, 3, .inl n23)), (a_18, .inl (cy 1, 8, .inl n24)), (a_19, .inl (cy 3, 240, .inl n25))] H) (hD : va_D A [(a_0, .inr (12, [.int 0, .ref a_1, .ref a_2, .ref a_3, .ref a_4, .ref a_5, .int i_3, .int i_4, .int i_5, .int i_6, .int i_7, .long j_0, .int i_8, .int i_9, .int i_10, .int i_11, .ref a_6, .ref a_7, .ref a_8, .ref a_9, .ref a_10, .ref a_11, .ref a_12, .ref a_13, .ref a_14, .ref a_15, .ref a_16, .ref a_17, .ref a_18, .int n15, .int n16, .int n17, .int n18, .int n19, .int n20, .ref a_19, .int i_18, .ref a_20])), (a_1, .inl (cy 1, 4, .inl f_0)), (a_2, .inl (cy 1, 4, .inl f_1)), (a_3, .inl (cy 2, 240, .inr (.inl f_2))), (a_6, .inl (cy 1, 5, .inl (mm_g [i_19, i_20, i_21, i_22, i_23]))), (a_7, .inl (cy 1, 30, .inl (mm_g [i_24, i_25, i_26, i_27, i_28, i_29, i_30, i_31, i_32, i_33, i_34, i_35, i_36, i_37, i_38, i_39, i_40, i_41, i_42, i_43, i_44, i_45, i_46, i_47, i_48, i_49, i_50, i_51, i_52, i_53]))), (a_8, .inl (cy 1, 90, .inl f_3)), (a_9, .inl (cy 1, 15, .inl f_4)), (a_10, .inl (cy 1, 1050, .inl f_5)), (a_11, .inl (cy 1, 30, .inl f_6)), (a_12, .inl (cy 1, 240, .inl f_7)), (a_13, .inl (cy 1, 450, .inl f_8)), (a_15, .inl (cy 1, 7200, .inl n21)), (a_16, .inl (cy 1, 3, .inl n22)), (a_17, .inl (cy 1, 3, .inl n23)), (a_18, .inl (cy 1, 8, .inl n24)), (a_19, .inl (cy 3, 240, .inl n25))]) hS
        obtain ⟨w26, w27, w28, w29, w30, w31, w32⟩ := hw
        refine lv_aload_n hx hb dX12_leaves_28 rfl (lv_at hl 1 rfl) ?_
        refine va_get (D := G) (ci := 12) (v := .int n20) (C := RX12) (T := TX12) (N := 38) hx hb hts (mm_i inlX12) hown hK.1 hP 0 rfl rfl 34 (by decide) (mm_h hts mm_w1321) (fun _ h9 => h9) rfl dX12_leaves_29 ?_
        subst hAe
        rw [hQ]
        exact W.iret (v := n20) hx hb hr (fun t ht hW => ⟨⟨n20, (n15, n16, n17, n18, n19, n20, n21, n22, n23, n24, n25), rfl, ⟨w26, w28, w29, w30, w31, w32, trivial⟩, by rw [ht]; exact hP, hK.warm hW, hD⟩, hS.F ht⟩) hS.2.2 dX12_leaves_32
      · have q33 := mm_neL (lo := 1) (mm_ne c14) mm_k0 mm_k0 (by decide) (by decide)
        exact mm_no q33 (by decide)

set_option maxHeartbeats 4000000 in
set_option maxRecDepth 100000 in
theorem M209_X12_lands (l : Launch) (G : va_G) (cy : Nat → ClassId) (sz : Nat) (a_0 : Nat) (i_0 : Int32) (i_1 : Int32) (i_2 : Int32) (a_1 : Nat) (a_2 : Nat) (a_3 : Nat) (a_4 : Nat) (a_5 : Nat) (i_3 : Int32) (i_4 : Int32) (i_5 : Int32) (i_6 : Int32) (i_7 : Int32) (j_0 : Int64) (i_8 : Int32) (i_9 : Int32) (i_10 : Int32) (i_11 : Int32) (a_6 : Nat) (a_7 : Nat) (a_8 : Nat) (a_9 : Nat) (a_10 : Nat) (a_11 : Nat) (a_12 : Nat) (a_13 : Nat) (a_14 : Nat) (a_15 : Nat) (a_16 : Nat) (a_17 : Nat) (a_18 : Nat) (i_12 : Int32) (i_13 : Int32) (i_14 : Int32) (i_15 : Int32) (i_16 : Int32) (i_17 : Int32) (a_19 : Nat) (i_18 : Int32) (a_20 : Nat) (f_0 : Nat → Int32) (f_1 : Nat → Int32) (f_2 : Nat → Int64) (i_19 : Int32) (i_20 : Int32) (i_21 : Int32) (i_22 : Int32) (i_23 : Int32) (i_24 : Int32) (i_25 : Int32) (i_26 : Int32) (i_27 : Int32) (i_28 : Int32) (i_29 : Int32) (i_30 : Int32) (i_31 : Int32) (i_32 : Int32) (i_33 : Int32) (i_34 : Int32) (i_35 : Int32) (i_36 : Int32) (i_37 : Int32) (i_38 : Int32) (i_39 : Int32) (i_40 : Int32) (i_41 : Int32) (i_42 : Int32) (i_43 : Int32) (i_44 : Int32) (i_45 : Int32) (i_46 : Int32) (i_47 : Int32) (i_48 : Int32) (i_49 : Int32) (i_50 : Int32) (i_51 : Int32) (i_52 : Int32) (i_53 : Int32) (f_3 : Nat → Int32) (f_4 : Nat → Int32) (f_5 : Nat → Int32) (f_6 : Nat → Int32) (f_7 : Nat → Int32) (f_8 : Nat → Int32) (f_9 : Nat → Int32) (f_10 : Nat → Int32) (f_11 : Nat → Int32) (f_12 : Nat → Int32) (h0 : mm_rg i_12 0 8) (h1 : mm_ar f_0 (-1) 3) (h2 : mm_ar f_1 0 60) (h3 : mm_rg i_19 0 601) (h4 : mm_rg i_20 0 601) (h5 : mm_rg i_21 0 601) (h6 : mm_rg i_22 0 601) (h7 : mm_rg i_23 0 601) (h8 : mm_rg i_24 0 10) (h9 : mm_rg i_25 0 99) (h10 : mm_rg i_26 0 9) (h11 : mm_rg i_27 0 3) (h12 : mm_rg i_28 0 6) (h13 : mm_rg i_29 0 30) (h14 : mm_rg i_30 0 10) (h15 : mm_rg i_31 0 99) (h16 : mm_rg i_32 0 9) (h17 : mm_rg i_33 0 3) (h18 : mm_rg i_34 0 6) (h19 : mm_rg i_35 0 30) (h20 : mm_rg i_36 0 10) (h21 : mm_rg i_37 0 99) (h22 : mm_rg i_38 0 9) (h23 : mm_rg i_39 0 3) (h24 : mm_rg i_40 0 6) (h25 : mm_rg i_41 0 30) (h26 : mm_rg i_42 0 10) (h27 : mm_rg i_43 0 99) (h28 : mm_rg i_44 0 9) (h29 : mm_rg i_45 0 3) (h30 : mm_rg i_46 0 6) (h31 : mm_rg i_47 0 30) (h32 : mm_rg i_48 0 10) (h33 : mm_rg i_49 0 99) (h34 : mm_rg i_50 0 9) (h35 : mm_rg i_51 0 3) (h36 : mm_rg i_52 0 6) (h37 : mm_rg i_53 0 30) (h38 : mm_ar f_3 0 99) (h39 : mm_ar f_4 0 7) (h40 : mm_ar f_5 0 9) (h41 : mm_ar f_6 0 8) (h42 : mm_ar f_7 0 9) (h43 : mm_ar f_8 (-1) 99) (h44 : mm_ar f_9 0 9) (h45 : mm_ar f_10 0 210) (h46 : mm_ar f_11 0 210) (h47 : mm_ar f_12 0 9) (h48 : mm_rls f_4 f_5 0 i_26 i_27) (h49 : mm_txs f_6 f_7 0 i_26 i_28) (h50 : mm_acs f_8 0 i_26 i_27 i_29) (h51 : mm_tl i_19 i_27 i_28) (h52 : mm_rls f_4 f_5 1 i_32 i_33) (h53 : mm_txs f_6 f_7 1 i_32 i_34) (h54 : mm_acs f_8 1 i_32 i_33 i_35) (h55 : mm_tl i_20 i_33 i_34) (h56 : mm_rls f_4 f_5 2 i_38 i_39) (h57 : mm_txs f_6 f_7 2 i_38 i_40) (h58 : mm_acs f_8 2 i_38 i_39 i_41) (h59 : mm_tl i_21 i_39 i_40) (h60 : mm_rls f_4 f_5 3 i_44 i_45) (h61 : mm_txs f_6 f_7 3 i_44 i_46) (h62 : mm_acs f_8 3 i_44 i_45 i_47) (h63 : mm_tl i_22 i_45 i_46)  : mm_CI l yX12_lands (mm_ws yX12_lands cX12_lands 6 (some .int)) ({ frames := 14, cells := 0, slots := 0, locals := 300 } : Room) G cy sz [(a_0, .inr (12, [.int i_2, .ref a_1, .ref a_2, .ref a_3, .ref a_4, .ref a_5, .int i_3, .int i_4, .int i_5, .int i_6, .int i_7, .long j_0, .int i_8, .int i_9, .int i_10, .int i_11, .ref a_6, .ref a_7, .ref a_8, .ref a_9, .ref a_10, .ref a_11, .ref a_12, .ref a_13, .ref a_14, .ref a_15, .ref a_16, .ref a_17, .ref a_18, .int i_12, .int i_13, .int i_14, .int i_15, .int i_16, .int i_17, .ref a_19, .int i_18, .ref a_20])), (a_1, .inl (cy 1, 4, .inl f_0)), (a_2, .inl (cy 1, 4, .inl f_1)), (a_3, .inl (cy 2, 240, .inr (.inl f_2))), (a_6, .inl (cy 1, 5, .inl (mm_g [i_19, i_20, i_21, i_22, i_23]))), (a_7, .inl (cy 1, 30, .inl (mm_g [i_24, i_25, i_26, i_27, i_28, i_29, i_30, i_31, i_32, i_33, i_34, i_35, i_36, i_37, i_38, i_39, i_40, i_41, i_42, i_43, i_44, i_45, i_46, i_47, i_48, i_49, i_50, i_51, i_52, i_53]))), (a_8, .inl (cy 1, 90, .inl f_3)), (a_9, .inl (cy 1, 15, .inl f_4)), (a_10, .inl (cy 1, 1050, .inl f_5)), (a_11, .inl (cy 1, 30, .inl f_6)), (a_12, .inl (cy 1, 240, .inl f_7)), (a_13, .inl (cy 1, 450, .inl f_8)), (a_15, .inl (cy 1, 7200, .inl f_9)), (a_16, .inl (cy 1, 3, .inl f_10)), (a_17, .inl (cy 1, 3, .inl f_11)), (a_18, .inl (cy 1, 8, .inl f_12))] [.ref a_0, .int i_0, .int i_1] (fun u : Int32 × Int32 × Int32 × (Nat → Int32) × (Nat → Int32) × (Nat → Int32) × (Nat → Int32) => [(a_0, .inr (12, [.int 0, .ref a_1, .ref a_2, .ref a_3, .ref a_4, .ref a_5, .int i_3, .int i_4, .int i_5, .int i_6, .int i_7, .long j_0, .int i_8, .int i_9, .int i_10, .int i_11, .ref a_6, .ref a_7, .ref a_8, .ref a_9, .ref a_10, .ref a_11, .ref a_12, .ref a_13, .ref a_14, .ref a_15, .ref a_16, .ref a_17, .ref a_18, .int u.1, .int u.2.1, .int u.2.2.1, .int i_15, .int i_16, .int i_17, .ref a_19, .int i_18, .ref a_20])), (a_1, .inl (cy 1, 4, .inl f_0)), (a_2, .inl (cy 1, 4, .inl f_1)), (a_3, .inl (cy 2, 240, .inr (.inl f_2))), (a_6, .inl (cy 1, 5, .inl (mm_g [i_19, i_20, i_21, i_22, i_23]))), (a_7, .inl (cy 1, 30, .inl (mm_g [i_24, i_25, i_26, i_27, i_28, i_29, i_30, i_31, i_32, i_33, i_34, i_35, i_36, i_37, i_38, i_39, i_40, i_41, i_42, i_43, i_44, i_45, i_46, i_47, i_48, i_49, i_50, i_51, i_52, i_53]))), (a_8, .inl (cy 1, 90, .inl f_3)), (a_9, .inl (cy 1, 15, .inl f_4)), (a_10, .inl (cy 1, 1050, .inl f_5)), (a_11, .inl (cy 1, 30, .inl f_6)), (a_12, .inl (cy 1, 240, .inl f_7)), (a_13, .inl (cy 1, 450, .inl f_8)), (a_15, .inl (cy 1, 7200, .inl u.2.2.2.1)), (a_16, .inl (cy 1, 3, .inl u.2.2.2.2.1)), (a_17, .inl (cy 1, 3, .inl u.2.2.2.2.2.1)), (a_18, .inl (cy 1, 8, .inl u.2.2.2.2.2.2))]) (fun (r : Int32) (u : Int32 × Int32 × Int32 × (Nat → Int32) × (Nat → Int32) × (Nat → Int32) × (Nat → Int32)) => mm_rg u.1 0 8 ∧ mm_ar u.2.2.2.1 0 9 ∧ mm_ar u.2.2.2.2.1 0 210 ∧ mm_ar u.2.2.2.2.2.1 0 210 ∧ mm_ar u.2.2.2.2.2.2 0 9 ∧ mm_rg r (-6) 7) 0 0 := by
  refine mm_begin (lv := [(0, .ref a_0), (1, .int i_0), (2, .int i_1)]) (by decide) (Nat.le_of_ble_eq_true rfl) rfl ?_
  intro p e s m below meth c A ls R args Q H locs hRe hQ hAe hx hb hr hlocks hml hown hnm hts hsz hA hS hP hK hD hZ hl
  have hRf : R.frames = 14 := by rw [hRe]
  have hRl : R.locals = 300 := by rw [hRe]
  have hRc : R.cells = 0 := by rw [hRe]
  have hRs : R.slots = 0 := by rw [hRe]
  refine lv_aload_n hx hb dX12_lands_0 rfl (lv_at hl 0 rfl) ?_
  refine lv_iconst (v := 0) hx hb dX12_lands_1 (by decide) ?_
  refine va_put (D := G) (ci := 12) (v := .int 0) (ty := tyX12 0) (C := RX12) (T := TX12) (N := 38) hx hb hts (mm_i inlX12) tyX12 tyX12_ok nmX12 hown hK.1 hP hD hS 0 rfl rfl 0 (by decide) (mm_h hts mm_w177) (fun _ h9 => h9) rfl (tyX12_ok 0 (by decide)) rfl rfl (Nat.le_of_ble_eq_true rfl) dX12_lands_2 ?_
  clear hP hD hS
  clear H locs
  intro H locs (hP : va_P G vwCl [(a_0, .inr (12, [.int 0, .ref a_1, .ref a_2, .ref a_3, .ref a_4, .ref a_5, .int i_3, .int i_4, .int i_5, .int i_6, .int i_7, .long j_0, .int i_8, .int i_9, .int i_10, .int i_11, .ref a_6, .ref a_7, .ref a_8, .ref a_9, .ref a_10, .ref a_11, .ref a_12, .ref a_13, .ref a_14, .ref a_15, .ref a_16, .ref a_17, .ref a_18, .int i_12, .int i_13, .int i_14, .int i_15, .int i_16, .int i_17, .ref a_19, .int i_18, .ref a_20])), (a_1, .inl (cy 1, 4, .inl f_0)), (a_2, .inl (cy 1, 4, .inl f_1)), (a_3, .inl (cy 2, 240, .inr (.inl f_2))), (a_6, .inl (cy 1, 5, .inl (mm_g [i_19, i_20, i_21, i_22, i_23]))), (a_7, .inl (cy 1, 30, .inl (mm_g [i_24, i_25, i_26, i_27, i_28, i_29, i_30, i_31, i_32, i_33, i_34, i_35, i_36, i_37, i_38, i_39, i_40, i_41, i_42, i_43, i_44, i_45, i_46, i_47, i_48, i_49, i_50, i_51, i_52, i_53]))), (a_8, .inl (cy 1, 90, .inl f_3)), (a_9, .inl (cy 1, 15, .inl f_4)), (a_10, .inl (cy 1, 1050, .inl f_5)), (a_11, .inl (cy 1, 30, .inl f_6)), (a_12, .inl (cy 1, 240, .inl f_7)), (a_13, .inl (cy 1, 450, .inl f_8)), (a_15, .inl (cy 1, 7200, .inl f_9)), (a_16, .inl (cy 1, 3, .inl f_10)), (a_17, .inl (cy 1, 3, .inl f_11)), (a_18, .inl (cy 1, 8, .inl f_12))] H) (hD : va_D A [(a_0, .inr (12, [.int 0, .ref a_1, .ref a_2, .ref a_3, .ref a_4, .ref a_5, .int i_3, .int i_4, .int i_5, .int i_6, .int i_7, .long j_0, .int i_8, .int i_9, .int i_10, .int i_11, .ref a_6, .ref a_7, .ref a_8, .ref a_9, .ref a_10, .ref a_11, .ref a_12, .ref a_13, .ref a_14, .ref a_15, .ref a_16, .ref a_17, .ref a_18, .int i_12, .int i_13, .int i_14, .int i_15, .int i_16, .int i_17, .ref a_19, .int i_18, .ref a_20])), (a_1, .inl (cy 1, 4, .inl f_0)), (a_2, .inl (cy 1, 4, .inl f_1)), (a_3, .inl (cy 2, 240, .inr (.inl f_2))), (a_6, .inl (cy 1, 5, .inl (mm_g [i_19, i_20, i_21, i_22, i_23]))), (a_7, .inl (cy 1, 30, .inl (mm_g [i_24, i_25, i_26, i_27, i_28, i_29, i_30, i_31, i_32, i_33, i_34, i_35, i_36, i_37, i_38, i_39, i_40, i_41, i_42, i_43, i_44, i_45, i_46, i_47, i_48, i_49, i_50, i_51, i_52, i_53]))), (a_8, .inl (cy 1, 90, .inl f_3)), (a_9, .inl (cy 1, 15, .inl f_4)), (a_10, .inl (cy 1, 1050, .inl f_5)), (a_11, .inl (cy 1, 30, .inl f_6)), (a_12, .inl (cy 1, 240, .inl f_7)), (a_13, .inl (cy 1, 450, .inl f_8)), (a_15, .inl (cy 1, 7200, .inl f_9)), (a_16, .inl (cy 1, 3, .inl f_10)), (a_17, .inl (cy 1, 3, .inl f_11)), (a_18, .inl (cy 1, 8, .inl f_12))]) hS
  refine lv_aload_n hx hb dX12_lands_5 rfl (lv_at hl 0 rfl) ?_
  refine lv_iload_n hx hb dX12_lands_6 rfl (lv_at hl 1 rfl) ?_
  refine lv_aload_n hx hb dX12_lands_7 rfl (lv_at hl 0 rfl) ?_
  refine mm_finir (va_runV (As := []) (rest := [.int i_0, .ref a_0]) ⟨hx, hb, hml, hown, hts⟩ (M120_X12_isBook l G cy H.size a_0 0 a_1 a_2 a_3 a_4 a_5 i_3 i_4 i_5 i_6 i_7 j_0 i_8 i_9 i_10 i_11 a_6 a_7 a_8 a_9 a_10 a_11 a_12 a_13 a_14 a_15 a_16 a_17 a_18 i_12 i_13 i_14 i_15 i_16 i_17 a_19 i_18 a_20 i_19 i_20 i_21 i_22 i_23 h3 h4 h5 h6 h7) (cwV 0 hts (mm_gV mm_w653 mm_w654 mm_w655 mm_w5 mm_w656) rfl rfl rfl hd_X12_isBook ⟨by rw [hRf]; exact Nat.le_of_ble_eq_true rfl, by rw [hRl]; exact Nat.le_of_ble_eq_true rfl⟩) (mm_preV hK hZ hS hA hP hD [0, 4] rfl rfl 0 rfl rfl rfl) rfl rfl hl.1 rfl (lv_room (Nat.le_of_ble_eq_true rfl)) dX12_lands_8 ⟨by rw [hRc]; exact Nat.le_of_ble_eq_true rfl, by rw [hRs]; exact Nat.le_of_ble_eq_true rfl⟩) hP hD hS hA [0, 4] rfl (fun _ => rfl) ?_
  clear hP hD hS
  clear H locs
  intro v1 _u H locs hw hP hD hS
  rcases hw with rfl | rfl
  · refine lv_if_eq (tgt := 25) hx hb dX12_lands_11 (by decide) (fun c2 => ?_) (fun c2 => ?_)
    · refine lv_iconst (v := 0) hx hb dX12_lands_25 (by decide) ?_
      refine mm_finir (va_runV (As := [.int i_0, .int 0]) (rest := []) ⟨hx, hb, hml, hown, hts⟩ (M198_X12_whyNot l G cy H.size a_0 i_0 ) (cwV 2 hts (mm_gV mm_w1265 mm_w1266 mm_w1267 mm_w5 mm_w1268) rfl rfl rfl hd_X12_whyNot ⟨by rw [hRf]; exact Nat.le_of_ble_eq_true rfl, by rw [hRl]; exact Nat.le_of_ble_eq_true rfl⟩) (mm_preV hK hZ hS hA hP hD [] rfl rfl 0 rfl rfl rfl) rfl rfl hl.1 rfl (lv_room (Nat.le_of_ble_eq_true rfl)) dX12_lands_26 ⟨by rw [hRc]; exact Nat.le_of_ble_eq_true rfl, by rw [hRs]; exact Nat.le_of_ble_eq_true rfl⟩) hP hD hS hA [] rfl (fun _ => rfl) ?_
      clear hP hD hS
      clear H locs
      intro v3 _u H locs hw hP hD hS
      subst hw
      refine lv_istore_n (lv' := [(3, .int (-2)), (0, .ref a_0), (1, .int i_0), (2, .int i_1)]) hx hb dX12_lands_29 rfl hl (by decide) rfl ?_
      clear hl
      clear ls
      intro ls hl
      refine lv_iload_n hx hb dX12_lands_30 rfl (lv_at hl 0 rfl) ?_
      refine lv_if_eq (tgt := 36) hx hb dX12_lands_31 (by decide) (fun c4 => ?_) (fun c4 => ?_)
      · exact mm_eqN c4 mm_km2 mm_k0 (by decide)
      · refine lv_iload_n hx hb dX12_lands_34 rfl (lv_at hl 0 rfl) ?_
        subst hAe
        rw [hQ]
        exact W.iret (v := (-2)) hx hb hr (fun t ht hW => ⟨⟨(-2), (i_12, i_13, i_14, f_9, f_10, f_11, f_12), rfl, ⟨h0, h44, h45, h46, h47, (mm_wk mm_km2 (by decide))⟩, by rw [ht]; exact hP, hK.warm hW, hD⟩, hS.F ht⟩) hS.2.2 dX12_lands_35
    · have q5 := mm_neL (lo := 1) (mm_ne c2) mm_k0 mm_k0 (by decide) (by decide)
      exact mm_no q5 (by decide)
  · refine lv_if_eq (tgt := 25) hx hb dX12_lands_11 (by decide) (fun c6 => ?_) (fun c6 => ?_)
    · exact mm_eqN c6.symm mm_k0 mm_k1 (by decide)
    · refine lv_iload_n hx hb dX12_lands_14 rfl (lv_at hl 2 rfl) ?_
      refine mm_finir (va_runS (As := [.int i_1]) (rest := [.int i_0, .ref a_0]) ⟨hx, hb, hml, hown, hts⟩ (M103_X12_isDay l G cy H.size i_1 ) (va_cwS 1 hts (mm_gS mm_w682 mm_w683 mm_w5 mm_w684) rfl rfl rfl hs_X12_isDay ⟨by rw [hRf]; exact Nat.le_of_ble_eq_true rfl, by rw [hRl]; exact Nat.le_of_ble_eq_true rfl⟩) (mm_preS hK hZ hS hA hP hD [] rfl rfl) rfl rfl hl.1 rfl (lv_room (Nat.le_of_ble_eq_true rfl)) dX12_lands_15 ⟨by rw [hRc]; exact Nat.le_of_ble_eq_true rfl, by rw [hRs]; exact Nat.le_of_ble_eq_true rfl⟩) hP hD hS hA [] rfl (fun _ => rfl) ?_
      clear hP hD hS
      clear H locs
      intro v7 _u H locs hw hP hD hS
      rcases hw with rfl | ⟨rfl, w8⟩
      · refine lv_if_eq (tgt := 25) hx hb dX12_lands_18 (by decide) (fun c9 => ?_) (fun c9 => ?_)
        · refine lv_iconst (v := 0) hx hb dX12_lands_25 (by decide) ?_
          refine mm_finir (va_runV (As := [.int i_0, .int 0]) (rest := []) ⟨hx, hb, hml, hown, hts⟩ (M198_X12_whyNot l G cy H.size a_0 i_0 ) (cwV 2 hts (mm_gV mm_w1265 mm_w1266 mm_w1267 mm_w5 mm_w1268) rfl rfl rfl hd_X12_whyNot ⟨by rw [hRf]; exact Nat.le_of_ble_eq_true rfl, by rw [hRl]; exact Nat.le_of_ble_eq_true rfl⟩) (mm_preV hK hZ hS hA hP hD [] rfl rfl 0 rfl rfl rfl) rfl rfl hl.1 rfl (lv_room (Nat.le_of_ble_eq_true rfl)) dX12_lands_26 ⟨by rw [hRc]; exact Nat.le_of_ble_eq_true rfl, by rw [hRs]; exact Nat.le_of_ble_eq_true rfl⟩) hP hD hS hA [] rfl (fun _ => rfl) ?_
          clear hP hD hS
          clear H locs
          intro v10 _u H locs hw hP hD hS
          subst hw
          refine lv_istore_n (lv' := [(3, .int (-2)), (0, .ref a_0), (1, .int i_0), (2, .int i_1)]) hx hb dX12_lands_29 rfl hl (by decide) rfl ?_
          clear hl
          clear ls
          intro ls hl
          refine lv_iload_n hx hb dX12_lands_30 rfl (lv_at hl 0 rfl) ?_
          refine lv_if_eq (tgt := 36) hx hb dX12_lands_31 (by decide) (fun c11 => ?_) (fun c11 => ?_)
          · exact mm_eqN c11 mm_km2 mm_k0 (by decide)
          · refine lv_iload_n hx hb dX12_lands_34 rfl (lv_at hl 0 rfl) ?_
            subst hAe
            rw [hQ]
            exact W.iret (v := (-2)) hx hb hr (fun t ht hW => ⟨⟨(-2), (i_12, i_13, i_14, f_9, f_10, f_11, f_12), rfl, ⟨h0, h44, h45, h46, h47, (mm_wk mm_km2 (by decide))⟩, by rw [ht]; exact hP, hK.warm hW, hD⟩, hS.F ht⟩) hS.2.2 dX12_lands_35
        · have q12 := mm_neL (lo := 1) (mm_ne c9) mm_k0 mm_k0 (by decide) (by decide)
          exact mm_no q12 (by decide)
      · refine lv_if_eq (tgt := 25) hx hb dX12_lands_18 (by decide) (fun c13 => ?_) (fun c13 => ?_)
        · exact mm_eqN c13.symm mm_k0 mm_k1 (by decide)
        · refine lv_iconst (v := 1) hx hb dX12_lands_21 (by decide) ?_
          refine lv_goto (tgt := 26) hx hb dX12_lands_22 (by decide) ?_
          refine mm_finir (va_runV (As := [.int i_0, .int 1]) (rest := []) ⟨hx, hb, hml, hown, hts⟩ (M200_X12_whyNot l G cy H.size a_0 i_0 0 a_1 a_2 a_3 a_4 a_5 i_3 i_4 i_5 i_6 i_7 j_0 i_8 i_9 i_10 i_11 a_6 a_7 a_8 a_9 a_10 a_11 a_12 a_13 a_14 a_15 a_16 a_17 a_18 i_12 i_13 i_14 i_15 i_16 i_17 a_19 i_18 a_20 f_0 f_1 f_2 i_24 i_25 i_26 i_27 i_28 i_29 i_30 i_31 i_32 i_33 i_34 i_35 i_36 i_37 i_38 i_39 i_40 i_41 i_42 i_43 i_44 i_45 i_46 i_47 i_48 i_49 i_50 i_51 i_52 i_53 h1 h2 h8 h9 h10 h11 h12 h13 h14 h15 h16 h17 h18 h19 h20 h21 h22 h23 h24 h25 h26 h27 h28 h29 h30 h31 h32 h33 h34 h35 h36 h37) (cwV 2 hts (mm_gV mm_w1265 mm_w1266 mm_w1267 mm_w5 mm_w1268) rfl rfl rfl hd_X12_whyNot ⟨by rw [hRf]; exact Nat.le_of_ble_eq_true rfl, by rw [hRl]; exact Nat.le_of_ble_eq_true rfl⟩) (mm_preV hK hZ hS hA hP hD [0, 1, 2, 3, 5] rfl rfl 0 rfl rfl rfl) rfl rfl hl.1 rfl (lv_room (Nat.le_of_ble_eq_true rfl)) dX12_lands_26 ⟨by rw [hRc]; exact Nat.le_of_ble_eq_true rfl, by rw [hRs]; exact Nat.le_of_ble_eq_true rfl⟩) hP hD hS hA [0, 1, 2, 3, 5] rfl (fun _ => rfl) ?_
          clear hP hD hS
          clear H locs
          intro v14 _u H locs hw hP hD hS
          rcases hw with rfl | ⟨rfl, w15⟩ | ⟨rfl, w16, w17⟩
          · refine lv_istore_n (lv' := [(3, .int (-2)), (0, .ref a_0), (1, .int i_0), (2, .int i_1)]) hx hb dX12_lands_29 rfl hl (by decide) rfl ?_
            clear hl
            clear ls
            intro ls hl
            refine lv_iload_n hx hb dX12_lands_30 rfl (lv_at hl 0 rfl) ?_
            refine lv_if_eq (tgt := 36) hx hb dX12_lands_31 (by decide) (fun c18 => ?_) (fun c18 => ?_)
            · exact mm_eqN c18 mm_km2 mm_k0 (by decide)
            · refine lv_iload_n hx hb dX12_lands_34 rfl (lv_at hl 0 rfl) ?_
              subst hAe
              rw [hQ]
              exact W.iret (v := (-2)) hx hb hr (fun t ht hW => ⟨⟨(-2), (i_12, i_13, i_14, f_9, f_10, f_11, f_12), rfl, ⟨h0, h44, h45, h46, h47, (mm_wk mm_km2 (by decide))⟩, by rw [ht]; exact hP, hK.warm hW, hD⟩, hS.F ht⟩) hS.2.2 dX12_lands_35
          · refine lv_istore_n (lv' := [(3, .int (-6)), (0, .ref a_0), (1, .int i_0), (2, .int i_1)]) hx hb dX12_lands_29 rfl hl (by decide) rfl ?_
            clear hl
            clear ls
            intro ls hl
            refine lv_iload_n hx hb dX12_lands_30 rfl (lv_at hl 0 rfl) ?_
            refine lv_if_eq (tgt := 36) hx hb dX12_lands_31 (by decide) (fun c19 => ?_) (fun c19 => ?_)
            · exact mm_eqN c19 mm_km6 mm_k0 (by decide)
            · refine lv_iload_n hx hb dX12_lands_34 rfl (lv_at hl 0 rfl) ?_
              subst hAe
              rw [hQ]
              exact W.iret (v := (-6)) hx hb hr (fun t ht hW => ⟨⟨(-6), (i_12, i_13, i_14, f_9, f_10, f_11, f_12), rfl, ⟨h0, h44, h45, h46, h47, (mm_wk mm_km6 (by decide))⟩, by rw [ht]; exact hP, hK.warm hW, hD⟩, hS.F ht⟩) hS.2.2 dX12_lands_35
          · refine lv_istore_n (lv' := [(3, .int 0), (0, .ref a_0), (1, .int i_0), (2, .int i_1)]) hx hb dX12_lands_29 rfl hl (by decide) rfl ?_
            clear hl
            clear ls
            intro ls hl
            refine lv_iload_n hx hb dX12_lands_30 rfl (lv_at hl 0 rfl) ?_
            refine lv_if_eq (tgt := 36) hx hb dX12_lands_31 (by decide) (fun c20 => ?_) (fun c20 => ?_)
            · refine lv_aload_n hx hb dX12_lands_36 rfl (lv_at hl 1 rfl) ?_
              refine mm_finv (va_runV (As := []) (rest := []) ⟨hx, hb, hml, hown, hts⟩ (M125_X12_lays l G cy H.size a_0 0 a_1 a_2 a_3 a_4 a_5 i_3 i_4 i_5 i_6 i_7 j_0 i_8 i_9 i_10 i_11 a_6 a_7 a_8 a_9 a_10 a_11 a_12 a_13 a_14 a_15 a_16 a_17 a_18 i_12 i_13 i_14 i_15 i_16 i_17 a_19 i_18 a_20 i_19 i_20 i_21 i_22 i_23 i_24 i_25 i_26 i_27 i_28 i_29 i_30 i_31 i_32 i_33 i_34 i_35 i_36 i_37 i_38 i_39 i_40 i_41 i_42 i_43 i_44 i_45 i_46 i_47 i_48 i_49 i_50 i_51 i_52 i_53 f_4 f_5 f_8 f_9 f_10 f_11 h3 h4 h5 h6 h7 h8 h9 h10 h11 h12 h13 h14 h15 h16 h17 h18 h19 h20 h21 h22 h23 h24 h25 h26 h27 h28 h29 h30 h31 h32 h33 h34 h35 h36 h37 h39 h40 h43 h44 h45 h46 h48 h50 h51 h52 h54 h55 h56 h58 h59 h60 h62 h63) (cwV 0 hts (mm_gV mm_w686 mm_w687 mm_w688 mm_w5 mm_w689) rfl rfl rfl hd_X12_lays ⟨by rw [hRf]; exact Nat.le_of_ble_eq_true rfl, by rw [hRl]; exact Nat.le_of_ble_eq_true rfl⟩) (mm_preV hK hZ hS hA hP hD [0, 4, 5, 7, 8, 11, 12, 13, 14] rfl rfl 0 rfl rfl rfl) rfl rfl hl.1 rfl (lv_room (Nat.le_of_ble_eq_true rfl)) dX12_lands_37 ⟨by rw [hRc]; exact Nat.le_of_ble_eq_true rfl, by rw [hRs]; exact Nat.le_of_ble_eq_true rfl⟩) hP hD hS hA (fun u : (Nat → Int32) × (Nat → Int32) × (Nat → Int32) => [(a_0, .inr (12, [.int 0, .ref a_1, .ref a_2, .ref a_3, .ref a_4, .ref a_5, .int i_3, .int i_4, .int i_5, .int i_6, .int i_7, .long j_0, .int i_8, .int i_9, .int i_10, .int i_11, .ref a_6, .ref a_7, .ref a_8, .ref a_9, .ref a_10, .ref a_11, .ref a_12, .ref a_13, .ref a_14, .ref a_15, .ref a_16, .ref a_17, .ref a_18, .int i_12, .int i_13, .int i_14, .int i_15, .int i_16, .int i_17, .ref a_19, .int i_18, .ref a_20])), (a_1, .inl (cy 1, 4, .inl f_0)), (a_2, .inl (cy 1, 4, .inl f_1)), (a_3, .inl (cy 2, 240, .inr (.inl f_2))), (a_6, .inl (cy 1, 5, .inl (mm_g [i_19, i_20, i_21, i_22, i_23]))), (a_7, .inl (cy 1, 30, .inl (mm_g [i_24, i_25, i_26, i_27, i_28, i_29, i_30, i_31, i_32, i_33, i_34, i_35, i_36, i_37, i_38, i_39, i_40, i_41, i_42, i_43, i_44, i_45, i_46, i_47, i_48, i_49, i_50, i_51, i_52, i_53]))), (a_8, .inl (cy 1, 90, .inl f_3)), (a_9, .inl (cy 1, 15, .inl f_4)), (a_10, .inl (cy 1, 1050, .inl f_5)), (a_11, .inl (cy 1, 30, .inl f_6)), (a_12, .inl (cy 1, 240, .inl f_7)), (a_13, .inl (cy 1, 450, .inl f_8)), (a_15, .inl (cy 1, 7200, .inl u.1)), (a_16, .inl (cy 1, 3, .inl u.2.1)), (a_17, .inl (cy 1, 3, .inl u.2.2)), (a_18, .inl (cy 1, 8, .inl f_12))]) [0, 4, 5, 7, 8, 11, 12, 13, 14] [1, 2, 3, 6, 9, 10, 15] (n := 16) (fun _ => rfl) (by decide +kernel) (by decide +kernel) rfl (fun _ => rfl) (wr := [(a_1, .inl (cy 1, 4, .inl f_0)), (a_2, .inl (cy 1, 4, .inl f_1)), (a_3, .inl (cy 2, 240, .inr (.inl f_2))), (a_8, .inl (cy 1, 90, .inl f_3)), (a_11, .inl (cy 1, 30, .inl f_6)), (a_12, .inl (cy 1, 240, .inl f_7)), (a_18, .inl (cy 1, 8, .inl f_12))]) rfl (fun _ => rfl) (fun _ => @rfl _ ([a_0, a_6, a_7, a_9, a_10, a_13, a_15, a_16, a_17] : List Nat)) ?_
              clear hP hD hS
              clear H locs
              intro u
              obtain ⟨n21, n22, n23⟩ := u
              intro H locs hw (hP : va_P G vwCl [(a_0, .inr (12, [.int 0, .ref a_1, .ref a_2, .ref a_3, .ref a_4, .ref a_5, .int i_3, .int i_4, .int i_5, .int i_6, .int i_7, .long j_0, .int i_8, .int i_9, .int i_10, .int i_11, .ref a_6, .ref a_7, .ref a_8, .ref a_9, .ref a_10, .ref a_11, .ref a_12, .ref a_13, .ref a_14, .ref a_15, .ref a_16, .ref a_17, .ref a_18, .int i_12, .int i_13, .int i_14, .int i_15, .int i_16, .int i_17, .ref a_19, .int i_18, .ref a_20])), (a_1, .inl (cy 1, 4, .inl f_0)), (a_2, .inl (cy 1, 4, .inl f_1)), (a_3, .inl (cy 2, 240, .inr (.inl f_2))), (a_6, .inl (cy 1, 5, .inl (mm_g [i_19, i_20, i_21, i_22, i_23]))), (a_7, .inl (cy 1, 30, .inl (mm_g [i_24, i_25, i_26, i_27, i_28, i_29, i_30, i_31, i_32, i_33, i_34, i_35, i_36, i_37, i_38, i_39, i_40, i_41, i_42, i_43, i_44, i_45, i_46, i_47, i_48, i_49, i_50, i_51, i_52, i_53]))), (a_8, .inl (cy 1, 90, .inl f_3)), (a_9, .inl (cy 1, 15, .inl f_4)), (a_10, .inl (cy 1, 1050, .inl f_5)), (a_11, .inl (cy 1, 30, .inl f_6)), (a_12, .inl (cy 1, 240, .inl f_7)), (a_13, .inl (cy 1, 450, .inl f_8)), (a_15, .inl (cy 1, 7200, .inl n21)), (a_16, .inl (cy 1, 3, .inl n22)), (a_17, .inl (cy 1, 3, .inl n23)), (a_18, .inl (cy 1, 8, .inl f_12))] H) (hD : va_D A [(a_0, .inr (12, [.int 0, .ref a_1, .ref a_2, .ref a_3, .ref a_4, .ref a_5, .int i_3, .int i_4, .int i_5, .int i_6, .int i_7, .long j_0, .int i_8, .int i_9, .int i_10, .int i_11, .ref a_6, .ref a_7, .ref a_8, .ref a_9, .ref a_10, .ref a_11, .ref a_12, .ref a_13, .ref a_14, .ref a_15, .ref a_16, .ref a_17, .ref a_18, .int i_12, .int i_13, .int i_14, .int i_15, .int i_16, .int i_17, .ref a_19, .int i_18, .ref a_20])), (a_1, .inl (cy 1, 4, .inl f_0)), (a_2, .inl (cy 1, 4, .inl f_1)), (a_3, .inl (cy 2, 240, .inr (.inl f_2))), (a_6, .inl (cy 1, 5, .inl (mm_g [i_19, i_20, i_21, i_22, i_23]))), (a_7, .inl (cy 1, 30, .inl (mm_g [i_24, i_25, i_26, i_27, i_28, i_29, i_30, i_31, i_32, i_33, i_34, i_35, i_36, i_37, i_38, i_39, i_40, i_41, i_42, i_43, i_44, i_45, i_46, i_47, i_48, i_49, i_50, i_51, i_52, i_53]))), (a_8, .inl (cy 1, 90, .inl f_3)), (a_9, .inl (cy 1, 15, .inl f_4)), (a_10, .inl (cy 1, 1050, .inl f_5)), (a_11, .inl (cy 1, 30, .inl f_6)), (a_12, .inl (cy 1, 240, .inl f_7)), (a_13, .inl (cy 1, 450, .inl f_8)), (a_15, .inl (cy 1, 7200, .inl n21)), (a_16, .inl (cy 1, 3, .inl n22)), (a_17, .inl (cy 1, 3, .inl n23)), (a_18, .inl (cy 1, 8, .inl f_12))]) hS
              obtain ⟨w24, w25, w26, w27, w28⟩ := hw
              replace w27 : mm_laid n22 n23 i_27 := w27
              replace w28 : mm_tab n21 n22 i_26 i_27 := w28
              refine lv_iconst (v := 0) hx hb dX12_lands_40 (by decide) ?_
              refine lv_istore (lv' := [(4, .int 0), (3, .int 0), (0, .ref a_0), (1, .int i_0), (2, .int i_1)]) hx hb dX12_lands_41 hl (by decide) rfl ?_
              clear hl
              clear ls
              intro ls hl
              refine lv_iconst (v := 0) hx hb dX12_lands_43 (by decide) ?_
              refine lv_istore (lv' := [(5, .int 0), (4, .int 0), (3, .int 0), (0, .ref a_0), (1, .int i_0), (2, .int i_1)]) hx hb dX12_lands_44 hl (by decide) rfl ?_
              clear hl
              clear ls
              intro ls hl
              have L46_127 : ∀ (n : Nat) (x46_5_122 : Int32) (x46_4_123 : Int32) (y46_0_29_124 : Int32) (y46_0_30_125 : Int32) (y46_0_31_126 : Int32) (z46_15_127 : Nat → Int32), mm_rg x46_5_122 0 3 → mm_rg x46_4_123 0 7 → mm_rg y46_0_29_124 0 8 → mm_ar z46_15_127 0 9 → (3 - x46_5_122.toInt).toNat < n → ∀ (H : Heap) (locs : List Loc), va_P G vwCl [(a_0, .inr (12, [.int 0, .ref a_1, .ref a_2, .ref a_3, .ref a_4, .ref a_5, .int i_3, .int i_4, .int i_5, .int i_6, .int i_7, .long j_0, .int i_8, .int i_9, .int i_10, .int i_11, .ref a_6, .ref a_7, .ref a_8, .ref a_9, .ref a_10, .ref a_11, .ref a_12, .ref a_13, .ref a_14, .ref a_15, .ref a_16, .ref a_17, .ref a_18, .int y46_0_29_124, .int y46_0_30_125, .int y46_0_31_126, .int i_15, .int i_16, .int i_17, .ref a_19, .int i_18, .ref a_20])), (a_1, .inl (cy 1, 4, .inl f_0)), (a_2, .inl (cy 1, 4, .inl f_1)), (a_3, .inl (cy 2, 240, .inr (.inl f_2))), (a_6, .inl (cy 1, 5, .inl (mm_g [i_19, i_20, i_21, i_22, i_23]))), (a_7, .inl (cy 1, 30, .inl (mm_g [i_24, i_25, i_26, i_27, i_28, i_29, i_30, i_31, i_32, i_33, i_34, i_35, i_36, i_37, i_38, i_39, i_40, i_41, i_42, i_43, i_44, i_45, i_46, i_47, i_48, i_49, i_50, i_51, i_52, i_53]))), (a_8, .inl (cy 1, 90, .inl f_3)), (a_9, .inl (cy 1, 15, .inl f_4)), (a_10, .inl (cy 1, 1050, .inl f_5)), (a_11, .inl (cy 1, 30, .inl f_6)), (a_12, .inl (cy 1, 240, .inl f_7)), (a_13, .inl (cy 1, 450, .inl f_8)), (a_15, .inl (cy 1, 7200, .inl n21)), (a_16, .inl (cy 1, 3, .inl n22)), (a_17, .inl (cy 1, 3, .inl n23)), (a_18, .inl (cy 1, 8, .inl z46_15_127))] H → va_D A [(a_0, .inr (12, [.int 0, .ref a_1, .ref a_2, .ref a_3, .ref a_4, .ref a_5, .int i_3, .int i_4, .int i_5, .int i_6, .int i_7, .long j_0, .int i_8, .int i_9, .int i_10, .int i_11, .ref a_6, .ref a_7, .ref a_8, .ref a_9, .ref a_10, .ref a_11, .ref a_12, .ref a_13, .ref a_14, .ref a_15, .ref a_16, .ref a_17, .ref a_18, .int y46_0_29_124, .int y46_0_30_125, .int y46_0_31_126, .int i_15, .int i_16, .int i_17, .ref a_19, .int i_18, .ref a_20])), (a_1, .inl (cy 1, 4, .inl f_0)), (a_2, .inl (cy 1, 4, .inl f_1)), (a_3, .inl (cy 2, 240, .inr (.inl f_2))), (a_6, .inl (cy 1, 5, .inl (mm_g [i_19, i_20, i_21, i_22, i_23]))), (a_7, .inl (cy 1, 30, .inl (mm_g [i_24, i_25, i_26, i_27, i_28, i_29, i_30, i_31, i_32, i_33, i_34, i_35, i_36, i_37, i_38, i_39, i_40, i_41, i_42, i_43, i_44, i_45, i_46, i_47, i_48, i_49, i_50, i_51, i_52, i_53]))), (a_8, .inl (cy 1, 90, .inl f_3)), (a_9, .inl (cy 1, 15, .inl f_4)), (a_10, .inl (cy 1, 1050, .inl f_5)), (a_11, .inl (cy 1, 30, .inl f_6)), (a_12, .inl (cy 1, 240, .inl f_7)), (a_13, .inl (cy 1, 450, .inl f_8)), (a_15, .inl (cy 1, 7200, .inl n21)), (a_16, .inl (cy 1, 3, .inl n22)), (a_17, .inl (cy 1, 3, .inl n23)), (a_18, .inl (cy 1, 8, .inl z46_15_127))] → va_S A s.heap H locs → ∀ (ls : Array Slot), lv_has ls 6 [(5, .int x46_5_122), (4, .int x46_4_123), (3, .int 0), (0, .ref a_0), (1, .int i_0), (2, .int i_1)] → W p l e R s m args below meth c H locs 0 0 Q (F0 m 46 ls []) := by
                intro n
                induction n with
                | zero => intro x46_5_122 x46_4_123 y46_0_29_124 y46_0_30_125 y46_0_31_126 z46_15_127 rx46_5_122 rx46_4_123 ry46_0_29_124 rz46_15_127 hm; exact absurd hm (Nat.not_lt_zero _)
                | succ n ih46 =>
                  intro x46_5_122 x46_4_123 y46_0_29_124 y46_0_30_125 y46_0_31_126 z46_15_127 rx46_5_122 rx46_4_123 ry46_0_29_124 rz46_15_127 hm46 H locs hP hD hS ls hl
                  refine lv_iload hx hb dX12_lands_46 (lv_at hl 0 rfl) ?_
                  refine lv_aload_n hx hb dX12_lands_48 rfl (lv_at hl 3 rfl) ?_
                  refine va_get (D := G) (ci := 12) (v := .ref a_7) (C := RX12) (T := TX12) (N := 38) hx hb hts (mm_i inlX12) hown hK.1 hP 0 rfl rfl 17 (by decide) (mm_h hts mm_w149) (fun _ h9 => h9) rfl dX12_lands_49 ?_
                  refine lv_iconst (v := 3) hx hb dX12_lands_52 (by decide) ?_
                  refine va_iald hx hb hK.1 hP 5 1 rfl rfl (mm_in mm_k3 (by decide)) dX12_lands_53 ?_
                  rw [show (mm_g [i_24, i_25, i_26, i_27, i_28, i_29, i_30, i_31, i_32, i_33, i_34, i_35, i_36, i_37, i_38, i_39, i_40, i_41, i_42, i_43, i_44, i_45, i_46, i_47, i_48, i_49, i_50, i_51, i_52, i_53]) (3 : Int32).toNatClampNeg = i_27 from mm_ge 3 (by decide) rfl]
                  refine lv_icmp_ge (tgt := 87) hx hb dX12_lands_54 (by decide) (fun c129 => ?_) (fun c129 => ?_)
                  · refine lv_iload hx hb dX12_lands_87 (lv_at hl 1 rfl) ?_
                    subst hAe
                    rw [hQ]
                    exact W.iret (v := x46_4_123) hx hb hr (fun t ht hW => ⟨⟨x46_4_123, (y46_0_29_124, y46_0_30_125, y46_0_31_126, n21, n22, n23, z46_15_127), rfl, ⟨ry46_0_29_124, w24, w25, w26, rz46_15_127, (mm_wk rx46_4_123 (by decide))⟩, by rw [ht]; exact hP, hK.warm hW, hD⟩, hS.F ht⟩) hS.2.2 dX12_lands_89
                  · have q130 := mm_ltL (h := 2) (mm_nle c129) rx46_5_122 h11 (by decide)
                    have q131 := mm_ltR (lo := 1) (mm_nle c129) rx46_5_122 h11 (by decide)
                    have q132 : mm_rg i_19 1 601 := mm_tl_3 h51 q131 h3 (by decide)
                    refine lv_iload hx hb dX12_lands_57 (lv_at hl 1 rfl) ?_
                    refine lv_aload_n hx hb dX12_lands_59 rfl (lv_at hl 3 rfl) ?_
                    refine lv_iload_n hx hb dX12_lands_60 rfl (lv_at hl 4 rfl) ?_
                    refine lv_iload hx hb dX12_lands_61 (lv_at hl 0 rfl) ?_
                    refine lv_iload_n hx hb dX12_lands_63 rfl (lv_at hl 5 rfl) ?_
                    refine mm_fini (va_runV (As := [.int i_0, .int x46_5_122, .int i_1]) (rest := [.int x46_4_123]) ⟨hx, hb, hml, hown, hts⟩ (M201_X12_isSo l G cy H.size a_0 i_0 x46_5_122 i_1 0 a_1 a_2 a_3 a_4 a_5 i_3 i_4 i_5 i_6 i_7 j_0 i_8 i_9 i_10 i_11 a_6 a_7 a_8 a_9 a_10 a_11 a_12 a_13 a_14 a_15 a_16 a_17 a_18 y46_0_29_124 y46_0_30_125 y46_0_31_126 i_15 i_16 i_17 a_19 i_18 a_20 f_1 f_2 i_24 i_25 i_26 i_27 i_28 i_29 i_30 i_31 i_32 i_33 i_34 i_35 i_36 i_37 i_38 i_39 i_40 i_41 i_42 i_43 i_44 i_45 i_46 i_47 i_48 i_49 i_50 i_51 i_52 i_53 f_3 f_6 f_7 f_8 n21 n22 z46_15_127 w16 q130 (mm_wk w8 (by decide)) ry46_0_29_124 h2 h8 h9 h10 (mm_wk q131 (by decide)) h12 h13 h14 h15 h16 h17 h18 h19 h20 h21 h22 h23 h24 h25 h26 h27 h28 h29 h30 h31 h32 h33 h34 h35 h36 h37 h38 h41 h42 h43 w24 w25 rz46_15_127 h49 h50 h53 h54 h57 h58 h61 h62 (mm_f1_l w27 (mm_nle c129) q130 (by decide)) w17) (cwV 3 hts (mm_gV mm_w1277 mm_w1278 mm_w1279 mm_w5 mm_w1280) rfl rfl rfl hd_X12_isSo ⟨by rw [hRf]; exact Nat.le_of_ble_eq_true rfl, by rw [hRl]; exact Nat.le_of_ble_eq_true rfl⟩) (mm_preV hK hZ hS hA hP hD [0, 2, 3, 5, 6, 9, 10, 11, 12, 13, 15] rfl rfl 0 rfl rfl rfl) rfl rfl hl.1 rfl (lv_room (Nat.le_of_ble_eq_true rfl)) dX12_lands_64 ⟨by rw [hRc]; exact Nat.le_of_ble_eq_true rfl, by rw [hRs]; exact Nat.le_of_ble_eq_true rfl⟩) hP hD hS hA (fun u : Int32 × Int32 × Int32 × (Nat → Int32) => [(a_0, .inr (12, [.int 0, .ref a_1, .ref a_2, .ref a_3, .ref a_4, .ref a_5, .int i_3, .int i_4, .int i_5, .int i_6, .int i_7, .long j_0, .int i_8, .int i_9, .int i_10, .int i_11, .ref a_6, .ref a_7, .ref a_8, .ref a_9, .ref a_10, .ref a_11, .ref a_12, .ref a_13, .ref a_14, .ref a_15, .ref a_16, .ref a_17, .ref a_18, .int u.1, .int u.2.1, .int u.2.2.1, .int i_15, .int i_16, .int i_17, .ref a_19, .int i_18, .ref a_20])), (a_1, .inl (cy 1, 4, .inl f_0)), (a_2, .inl (cy 1, 4, .inl f_1)), (a_3, .inl (cy 2, 240, .inr (.inl f_2))), (a_6, .inl (cy 1, 5, .inl (mm_g [i_19, i_20, i_21, i_22, i_23]))), (a_7, .inl (cy 1, 30, .inl (mm_g [i_24, i_25, i_26, i_27, i_28, i_29, i_30, i_31, i_32, i_33, i_34, i_35, i_36, i_37, i_38, i_39, i_40, i_41, i_42, i_43, i_44, i_45, i_46, i_47, i_48, i_49, i_50, i_51, i_52, i_53]))), (a_8, .inl (cy 1, 90, .inl f_3)), (a_9, .inl (cy 1, 15, .inl f_4)), (a_10, .inl (cy 1, 1050, .inl f_5)), (a_11, .inl (cy 1, 30, .inl f_6)), (a_12, .inl (cy 1, 240, .inl f_7)), (a_13, .inl (cy 1, 450, .inl f_8)), (a_15, .inl (cy 1, 7200, .inl n21)), (a_16, .inl (cy 1, 3, .inl n22)), (a_17, .inl (cy 1, 3, .inl n23)), (a_18, .inl (cy 1, 8, .inl u.2.2.2))]) [0, 2, 3, 5, 6, 9, 10, 11, 12, 13, 15] [1, 4, 7, 8, 14] (n := 16) (fun _ => rfl) (by decide +kernel) (by decide +kernel) rfl (fun _ => rfl) (wr := [(a_1, .inl (cy 1, 4, .inl f_0)), (a_6, .inl (cy 1, 5, .inl (mm_g [i_19, i_20, i_21, i_22, i_23]))), (a_9, .inl (cy 1, 15, .inl f_4)), (a_10, .inl (cy 1, 1050, .inl f_5)), (a_17, .inl (cy 1, 3, .inl n23))]) rfl (fun _ => rfl) (fun _ => @rfl _ ([a_0, a_2, a_3, a_7, a_8, a_11, a_12, a_13, a_15, a_16, a_18] : List Nat)) ?_
                    clear hP hD hS
                    clear H locs
                    intro v137 u
                    obtain ⟨n133, n134, n135, n136⟩ := u
                    intro H locs hw (hP : va_P G vwCl [(a_0, .inr (12, [.int 0, .ref a_1, .ref a_2, .ref a_3, .ref a_4, .ref a_5, .int i_3, .int i_4, .int i_5, .int i_6, .int i_7, .long j_0, .int i_8, .int i_9, .int i_10, .int i_11, .ref a_6, .ref a_7, .ref a_8, .ref a_9, .ref a_10, .ref a_11, .ref a_12, .ref a_13, .ref a_14, .ref a_15, .ref a_16, .ref a_17, .ref a_18, .int n133, .int n134, .int n135, .int i_15, .int i_16, .int i_17, .ref a_19, .int i_18, .ref a_20])), (a_1, .inl (cy 1, 4, .inl f_0)), (a_2, .inl (cy 1, 4, .inl f_1)), (a_3, .inl (cy 2, 240, .inr (.inl f_2))), (a_6, .inl (cy 1, 5, .inl (mm_g [i_19, i_20, i_21, i_22, i_23]))), (a_7, .inl (cy 1, 30, .inl (mm_g [i_24, i_25, i_26, i_27, i_28, i_29, i_30, i_31, i_32, i_33, i_34, i_35, i_36, i_37, i_38, i_39, i_40, i_41, i_42, i_43, i_44, i_45, i_46, i_47, i_48, i_49, i_50, i_51, i_52, i_53]))), (a_8, .inl (cy 1, 90, .inl f_3)), (a_9, .inl (cy 1, 15, .inl f_4)), (a_10, .inl (cy 1, 1050, .inl f_5)), (a_11, .inl (cy 1, 30, .inl f_6)), (a_12, .inl (cy 1, 240, .inl f_7)), (a_13, .inl (cy 1, 450, .inl f_8)), (a_15, .inl (cy 1, 7200, .inl n21)), (a_16, .inl (cy 1, 3, .inl n22)), (a_17, .inl (cy 1, 3, .inl n23)), (a_18, .inl (cy 1, 8, .inl n136))] H) (hD : va_D A [(a_0, .inr (12, [.int 0, .ref a_1, .ref a_2, .ref a_3, .ref a_4, .ref a_5, .int i_3, .int i_4, .int i_5, .int i_6, .int i_7, .long j_0, .int i_8, .int i_9, .int i_10, .int i_11, .ref a_6, .ref a_7, .ref a_8, .ref a_9, .ref a_10, .ref a_11, .ref a_12, .ref a_13, .ref a_14, .ref a_15, .ref a_16, .ref a_17, .ref a_18, .int n133, .int n134, .int n135, .int i_15, .int i_16, .int i_17, .ref a_19, .int i_18, .ref a_20])), (a_1, .inl (cy 1, 4, .inl f_0)), (a_2, .inl (cy 1, 4, .inl f_1)), (a_3, .inl (cy 2, 240, .inr (.inl f_2))), (a_6, .inl (cy 1, 5, .inl (mm_g [i_19, i_20, i_21, i_22, i_23]))), (a_7, .inl (cy 1, 30, .inl (mm_g [i_24, i_25, i_26, i_27, i_28, i_29, i_30, i_31, i_32, i_33, i_34, i_35, i_36, i_37, i_38, i_39, i_40, i_41, i_42, i_43, i_44, i_45, i_46, i_47, i_48, i_49, i_50, i_51, i_52, i_53]))), (a_8, .inl (cy 1, 90, .inl f_3)), (a_9, .inl (cy 1, 15, .inl f_4)), (a_10, .inl (cy 1, 1050, .inl f_5)), (a_11, .inl (cy 1, 30, .inl f_6)), (a_12, .inl (cy 1, 240, .inl f_7)), (a_13, .inl (cy 1, 450, .inl f_8)), (a_15, .inl (cy 1, 7200, .inl n21)), (a_16, .inl (cy 1, 3, .inl n22)), (a_17, .inl (cy 1, 3, .inl n23)), (a_18, .inl (cy 1, 8, .inl n136))]) hS
                    obtain ⟨w138, w139, hw⟩ := hw
                    rcases hw with rfl | rfl
                    · refine lv_if_eq (tgt := 77) hx hb dX12_lands_67 (by decide) (fun c140 => ?_) (fun c140 => ?_)
                      · refine lv_iconst (v := 0) hx hb dX12_lands_77 (by decide) ?_
                        refine lv_ior hx hb dX12_lands_78 ?_
                        refine lv_topi (fun v141 ev141 => ?_)
                        have rv141 : mm_rg v141 0 7 := mm_or ev141 3 rx46_4_123 mm_k0 (by decide)
                        refine lv_istore (lv' := [(4, .int v141), (5, .int x46_5_122), (3, .int 0), (0, .ref a_0), (1, .int i_0), (2, .int i_1)]) hx hb dX12_lands_79 hl (by decide) rfl ?_
                        clear hl
                        clear ls
                        intro ls hl
                        obtain ⟨v142, ev142⟩ : ∃ y : Int32, y = x46_5_122 + 1 := ⟨_, rfl⟩
                        refine lv_iinc (v := v142) (lv' := [(5, .int v142), (4, .int v141), (3, .int 0), (0, .ref a_0), (1, .int i_0), (2, .int i_1)]) hx hb dX12_lands_81 hl (k := 1) rfl (by rw [ev142]; rfl) (by decide) rfl ?_
                        clear hl
                        clear ls
                        intro ls hl
                        have rv142 : mm_rg v142 1 3 := mm_add ev142 q130 mm_k1 (by decide) (by decide)
                        have tv142 := mm_addEc ev142 q130 mm_k1 (by decide) (k := 1) (by decide)
                        refine lv_goto (tgt := 46) hx hb dX12_lands_84 (by decide) ?_
                        exact ih46 v142 v141 n133 n134 n135 n136 (mm_wk rv142 (by decide)) rv141 w138 w139 (mm_mu hm46 tv142 (by decide) (rv142).2 (by decide)) H locs hP hD hS ls (lv_sub hl [0, 1, 2, 3, 4, 5] rfl)
                      · have q143 := mm_neL (lo := 1) (mm_ne c140) mm_k0 mm_k0 (by decide) (by decide)
                        exact mm_no q143 (by decide)
                    · refine lv_if_eq (tgt := 77) hx hb dX12_lands_67 (by decide) (fun c144 => ?_) (fun c144 => ?_)
                      · exact mm_eqN c144.symm mm_k0 mm_k1 (by decide)
                      · refine lv_iconst (v := 1) hx hb dX12_lands_70 (by decide) ?_
                        refine lv_iload hx hb dX12_lands_71 (lv_at hl 0 rfl) ?_
                        refine lv_ishl hx hb dX12_lands_73 ?_
                        refine lv_topi (fun v145 ev145 => ?_)
                        have rv145 : mm_rg v145 1 4 := mm_shl1 ev145 q130 (by decide)
                        refine lv_goto (tgt := 78) hx hb dX12_lands_74 (by decide) ?_
                        refine lv_ior hx hb dX12_lands_78 ?_
                        refine lv_topi (fun v146 ev146 => ?_)
                        have rv146 : mm_rg v146 0 7 := mm_or ev146 3 rx46_4_123 rv145 (by decide)
                        refine lv_istore (lv' := [(4, .int v146), (5, .int x46_5_122), (3, .int 0), (0, .ref a_0), (1, .int i_0), (2, .int i_1)]) hx hb dX12_lands_79 hl (by decide) rfl ?_
                        clear hl
                        clear ls
                        intro ls hl
                        obtain ⟨v147, ev147⟩ : ∃ y : Int32, y = x46_5_122 + 1 := ⟨_, rfl⟩
                        refine lv_iinc (v := v147) (lv' := [(5, .int v147), (4, .int v146), (3, .int 0), (0, .ref a_0), (1, .int i_0), (2, .int i_1)]) hx hb dX12_lands_81 hl (k := 1) rfl (by rw [ev147]; rfl) (by decide) rfl ?_
                        clear hl
                        clear ls
                        intro ls hl
                        have rv147 : mm_rg v147 1 3 := mm_add ev147 q130 mm_k1 (by decide) (by decide)
                        have tv147 := mm_addEc ev147 q130 mm_k1 (by decide) (k := 1) (by decide)
                        refine lv_goto (tgt := 46) hx hb dX12_lands_84 (by decide) ?_
                        exact ih46 v147 v146 n133 n134 n135 n136 (mm_wk rv147 (by decide)) rv146 w138 w139 (mm_mu hm46 tv147 (by decide) (rv147).2 (by decide)) H locs hP hD hS ls (lv_sub hl [0, 1, 2, 3, 4, 5] rfl)
              exact L46_127 _ 0 0 i_12 i_13 i_14 f_12 (mm_wk mm_k0 (by decide)) (mm_wk mm_k0 (by decide)) h0 h47 (Nat.lt_succ_self _) H locs hP hD hS ls (lv_sub hl [0, 1, 2, 3, 4, 5] rfl)
            · have q148 := mm_neL (lo := 1) (mm_ne c20) mm_k0 mm_k0 (by decide) (by decide)
              exact mm_no q148 (by decide)

set_option maxHeartbeats 4000000 in
set_option maxRecDepth 100000 in
theorem M210_X12_isWords (l : Launch) (G : va_G) (cy : Nat → ClassId) (sz : Nat) (a_0 : Nat) (i_0 : Int32) (i_1 : Int32) (i_2 : Int32) (i_3 : Int32) (i_4 : Int32) (a_1 : Nat) (a_2 : Nat) (a_3 : Nat) (a_4 : Nat) (a_5 : Nat) (i_5 : Int32) (i_6 : Int32) (i_7 : Int32) (i_8 : Int32) (i_9 : Int32) (j_0 : Int64) (i_10 : Int32) (i_11 : Int32) (i_12 : Int32) (i_13 : Int32) (a_6 : Nat) (a_7 : Nat) (a_8 : Nat) (a_9 : Nat) (a_10 : Nat) (a_11 : Nat) (a_12 : Nat) (a_13 : Nat) (a_14 : Nat) (a_15 : Nat) (a_16 : Nat) (a_17 : Nat) (a_18 : Nat) (i_14 : Int32) (i_15 : Int32) (i_16 : Int32) (i_17 : Int32) (i_18 : Int32) (i_19 : Int32) (a_19 : Nat) (i_20 : Int32) (a_20 : Nat) (i_21 : Int32) (i_22 : Int32) (i_23 : Int32) (i_24 : Int32) (i_25 : Int32) (i_26 : Int32) (i_27 : Int32) (i_28 : Int32) (i_29 : Int32) (i_30 : Int32) (i_31 : Int32) (i_32 : Int32) (i_33 : Int32) (i_34 : Int32) (i_35 : Int32) (i_36 : Int32) (i_37 : Int32) (i_38 : Int32) (i_39 : Int32) (i_40 : Int32) (i_41 : Int32) (i_42 : Int32) (i_43 : Int32) (i_44 : Int32) (i_45 : Int32) (i_46 : Int32) (i_47 : Int32) (i_48 : Int32) (i_49 : Int32) (i_50 : Int32) (h0 : mm_rg i_21 0 10) (h1 : mm_rg i_22 0 99) (h2 : mm_rg i_23 0 9) (h3 : mm_rg i_24 0 3) (h4 : mm_rg i_25 0 6) (h5 : mm_rg i_26 0 30) (h6 : mm_rg i_27 0 10) (h7 : mm_rg i_28 0 99) (h8 : mm_rg i_29 0 9) (h9 : mm_rg i_30 0 3) (h10 : mm_rg i_31 0 6) (h11 : mm_rg i_32 0 30) (h12 : mm_rg i_33 0 10) (h13 : mm_rg i_34 0 99) (h14 : mm_rg i_35 0 9) (h15 : mm_rg i_36 0 3) (h16 : mm_rg i_37 0 6) (h17 : mm_rg i_38 0 30) (h18 : mm_rg i_39 0 10) (h19 : mm_rg i_40 0 99) (h20 : mm_rg i_41 0 9) (h21 : mm_rg i_42 0 3) (h22 : mm_rg i_43 0 6) (h23 : mm_rg i_44 0 30) (h24 : mm_rg i_45 0 10) (h25 : mm_rg i_46 0 99) (h26 : mm_rg i_47 0 9) (h27 : mm_rg i_48 0 3) (h28 : mm_rg i_49 0 6) (h29 : mm_rg i_50 0 30)  : mm_CI l yX12_isWords (mm_ws yX12_isWords cX12_isWords 5 (some .boolean)) ({ frames := 3, cells := 0, slots := 0, locals := 68 } : Room) G cy sz [(a_0, .inr (12, [.int i_4, .ref a_1, .ref a_2, .ref a_3, .ref a_4, .ref a_5, .int i_5, .int i_6, .int i_7, .int i_8, .int i_9, .long j_0, .int i_10, .int i_11, .int i_12, .int i_13, .ref a_6, .ref a_7, .ref a_8, .ref a_9, .ref a_10, .ref a_11, .ref a_12, .ref a_13, .ref a_14, .ref a_15, .ref a_16, .ref a_17, .ref a_18, .int i_14, .int i_15, .int i_16, .int i_17, .int i_18, .int i_19, .ref a_19, .int i_20, .ref a_20])), (a_7, .inl (cy 1, 30, .inl (mm_g [i_21, i_22, i_23, i_24, i_25, i_26, i_27, i_28, i_29, i_30, i_31, i_32, i_33, i_34, i_35, i_36, i_37, i_38, i_39, i_40, i_41, i_42, i_43, i_44, i_45, i_46, i_47, i_48, i_49, i_50])))] [.ref a_0, .int i_0, .int i_1, .int i_2, .int i_3] (fun u : Unit => [(a_0, .inr (12, [.int i_4, .ref a_1, .ref a_2, .ref a_3, .ref a_4, .ref a_5, .int i_5, .int i_6, .int i_7, .int i_8, .int i_9, .long j_0, .int i_10, .int i_11, .int i_12, .int i_13, .ref a_6, .ref a_7, .ref a_8, .ref a_9, .ref a_10, .ref a_11, .ref a_12, .ref a_13, .ref a_14, .ref a_15, .ref a_16, .ref a_17, .ref a_18, .int i_14, .int i_15, .int i_16, .int i_17, .int i_18, .int i_19, .ref a_19, .int i_20, .ref a_20])), (a_7, .inl (cy 1, 30, .inl (mm_g [i_21, i_22, i_23, i_24, i_25, i_26, i_27, i_28, i_29, i_30, i_31, i_32, i_33, i_34, i_35, i_36, i_37, i_38, i_39, i_40, i_41, i_42, i_43, i_44, i_45, i_46, i_47, i_48, i_49, i_50])))]) (fun (r : Int32) (u : Unit) => ((0 = r) ∨ (1 = r ∧ mm_rg i_0 0 2 ∧ mm_rg i_1 0 1000000000 ∧ mm_rg i_2 1 7 ∧ mm_rg i_3 0 9999 ∧ (i_0 : Int32).toInt < (i_24 : Int32).toInt))) 0 0 := by
  refine mm_begin (lv := [(0, .ref a_0), (1, .int i_0), (2, .int i_1), (3, .int i_2), (4, .int i_3)]) (by decide) (Nat.le_of_ble_eq_true rfl) rfl ?_
  intro p e s m below meth c A ls R args Q H locs hRe hQ hAe hx hb hr hlocks hml hown hnm hts hsz hA hS hP hK hD hZ hl
  have hRf : R.frames = 3 := by rw [hRe]
  have hRl : R.locals = 68 := by rw [hRe]
  have hRc : R.cells = 0 := by rw [hRe]
  have hRs : R.slots = 0 := by rw [hRe]
  refine lv_aload_n hx hb dX12_isWords_0 rfl (lv_at hl 0 rfl) ?_
  refine lv_iload_n hx hb dX12_isWords_1 rfl (lv_at hl 1 rfl) ?_
  refine lv_iload_n hx hb dX12_isWords_2 rfl (lv_at hl 2 rfl) ?_
  refine mm_finir (va_runV (As := [.int i_0, .int i_1]) (rest := []) ⟨hx, hb, hml, hown, hts⟩ (M104_X12_isThen l G cy H.size a_0 i_0 i_1 i_4 a_1 a_2 a_3 a_4 a_5 i_5 i_6 i_7 i_8 i_9 j_0 i_10 i_11 i_12 i_13 a_6 a_7 a_8 a_9 a_10 a_11 a_12 a_13 a_14 a_15 a_16 a_17 a_18 i_14 i_15 i_16 i_17 i_18 i_19 a_19 i_20 a_20 i_21 i_22 i_23 i_24 i_25 i_26 i_27 i_28 i_29 i_30 i_31 i_32 i_33 i_34 i_35 i_36 i_37 i_38 i_39 i_40 i_41 i_42 i_43 i_44 i_45 i_46 i_47 i_48 i_49 i_50 h0 h1 h2 h3 h4 h5 h6 h7 h8 h9 h10 h11 h12 h13 h14 h15 h16 h17 h18 h19 h20 h21 h22 h23 h24 h25 h26 h27 h28 h29) (cwV 2 hts (mm_gV mm_w678 mm_w679 mm_w680 mm_w5 mm_w681) rfl rfl rfl hd_X12_isThen ⟨by rw [hRf]; exact Nat.le_of_ble_eq_true rfl, by rw [hRl]; exact Nat.le_of_ble_eq_true rfl⟩) (mm_preV hK hZ hS hA hP hD [0, 1] rfl rfl 0 rfl rfl rfl) rfl rfl hl.1 rfl (lv_room (Nat.le_of_ble_eq_true rfl)) dX12_isWords_3 ⟨by rw [hRc]; exact Nat.le_of_ble_eq_true rfl, by rw [hRs]; exact Nat.le_of_ble_eq_true rfl⟩) hP hD hS hA [0, 1] rfl (fun _ => rfl) ?_
  clear hP hD hS
  clear H locs
  intro v1 _u H locs hw hP hD hS
  rcases hw with rfl | ⟨rfl, w2, w3, w4⟩
  · refine lv_if_eq (tgt := 34) hx hb dX12_isWords_6 (by decide) (fun c5 => ?_) (fun c5 => ?_)
    · refine lv_iconst (v := 0) hx hb dX12_isWords_34 (by decide) ?_
      subst hAe
      rw [hQ]
      exact W.zret (v := 0) hx hb hr rfl (fun t ht hW => ⟨⟨0, (), rfl, (Or.inl rfl), by rw [ht]; exact hP, hK.warm hW, hD⟩, hS.F ht⟩) hS.2.2 dX12_isWords_35
    · have q6 := mm_neL (lo := 1) (mm_ne c5) mm_k0 mm_k0 (by decide) (by decide)
      exact mm_no q6 (by decide)
  · have q7 := mm_ltR (lo := 1) w4 w2 h3 (by decide)
    refine lv_if_eq (tgt := 34) hx hb dX12_isWords_6 (by decide) (fun c8 => ?_) (fun c8 => ?_)
    · exact mm_eqN c8.symm mm_k0 mm_k1 (by decide)
    · refine lv_iload_n hx hb dX12_isWords_9 rfl (lv_at hl 3 rfl) ?_
      obtain ⟨v9, ev9⟩ : ∃ y : Int64, y = i_2.toInt64 := ⟨_, rfl⟩
      refine lv_i2l hx hb dX12_isWords_10 ev9.symm ?_
      have rv9 : mm_rl v9 (-2147483648) 2147483647 := mm_i2l ev9 (mm_top i_2)
      refine lv_lconst (v := 1) hx hb dX12_isWords_11 (by decide) ?_
      refine lv_ldc2 (v := 7) hx hb hown (mm_h hts mm_w1399) dX12_isWords_12 ?_
      refine mm_finir (va_runS (As := [.long v9, .long 1, .long 7]) (rest := []) ⟨hx, hb, hml, hown, hts⟩ (M63_X12_in l G cy H.size v9 7 ) (va_cwS 3 hts (mm_gS mm_w191 mm_w192 mm_w5 mm_w193) rfl rfl rfl hs_X12_in ⟨by rw [hRf]; exact Nat.le_of_ble_eq_true rfl, by rw [hRl]; exact Nat.le_of_ble_eq_true rfl⟩) (mm_preS hK hZ hS hA hP hD [] rfl rfl) rfl rfl hl.1 rfl (lv_room (Nat.le_of_ble_eq_true rfl)) dX12_isWords_15 ⟨by rw [hRc]; exact Nat.le_of_ble_eq_true rfl, by rw [hRs]; exact Nat.le_of_ble_eq_true rfl⟩) hP hD hS hA [] rfl (fun _ => rfl) ?_
      clear hP hD hS
      clear H locs
      intro v10 _u H locs hw hP hD hS
      rcases hw with ⟨rfl, w11⟩ | ⟨rfl, w12, w13, w14, w15⟩
      · refine lv_if_eq (tgt := 34) hx hb dX12_isWords_18 (by decide) (fun c16 => ?_) (fun c16 => ?_)
        · refine lv_iconst (v := 0) hx hb dX12_isWords_34 (by decide) ?_
          subst hAe
          rw [hQ]
          exact W.zret (v := 0) hx hb hr rfl (fun t ht hW => ⟨⟨0, (), rfl, (Or.inl rfl), by rw [ht]; exact hP, hK.warm hW, hD⟩, hS.F ht⟩) hS.2.2 dX12_isWords_35
        · have q17 := mm_neL (lo := 1) (mm_ne c16) mm_k0 mm_k0 (by decide) (by decide)
          exact mm_no q17 (by decide)
      · have q18 := mm_meetl (lo := 1) (hi := 2147483647) w12 rv9 (by decide)
        have q19 := mm_meet (lo := 1) (hi := 2147483647) (mm_l2x ev9 q18) (mm_top i_2) (by decide)
        have q20 := mm_leLl w14 q18 mm_kl7
        have q21 := mm_meet (lo := 1) (hi := 7) (mm_l2x ev9 q20) q19 (by decide)
        refine lv_if_eq (tgt := 34) hx hb dX12_isWords_18 (by decide) (fun c22 => ?_) (fun c22 => ?_)
        · exact mm_eqN c22.symm mm_k0 mm_k1 (by decide)
        · refine lv_iload hx hb dX12_isWords_21 (lv_at hl 4 rfl) ?_
          obtain ⟨v23, ev23⟩ : ∃ y : Int64, y = i_3.toInt64 := ⟨_, rfl⟩
          refine lv_i2l hx hb dX12_isWords_23 ev23.symm ?_
          have rv23 : mm_rl v23 (-2147483648) 2147483647 := mm_i2l ev23 (mm_top i_3)
          refine mm_finir (va_runS (As := [.long v23]) (rest := []) ⟨hx, hb, hml, hown, hts⟩ (M146_X12_isStock l G cy H.size v23 rv23) (va_cwS 1 hts (mm_gS mm_w922 mm_w923 mm_w5 mm_w924) rfl rfl rfl hs_X12_isStock ⟨by rw [hRf]; exact Nat.le_of_ble_eq_true rfl, by rw [hRl]; exact Nat.le_of_ble_eq_true rfl⟩) (mm_preS hK hZ hS hA hP hD [] rfl rfl) rfl rfl hl.1 rfl (lv_room (Nat.le_of_ble_eq_true rfl)) dX12_isWords_24 ⟨by rw [hRc]; exact Nat.le_of_ble_eq_true rfl, by rw [hRs]; exact Nat.le_of_ble_eq_true rfl⟩) hP hD hS hA [] rfl (fun _ => rfl) ?_
          clear hP hD hS
          clear H locs
          intro v24 _u H locs hw hP hD hS
          rcases hw with rfl | ⟨rfl, w25⟩
          · refine lv_if_eq (tgt := 34) hx hb dX12_isWords_27 (by decide) (fun c26 => ?_) (fun c26 => ?_)
            · refine lv_iconst (v := 0) hx hb dX12_isWords_34 (by decide) ?_
              subst hAe
              rw [hQ]
              exact W.zret (v := 0) hx hb hr rfl (fun t ht hW => ⟨⟨0, (), rfl, (Or.inl rfl), by rw [ht]; exact hP, hK.warm hW, hD⟩, hS.F ht⟩) hS.2.2 dX12_isWords_35
            · have q27 := mm_neL (lo := 1) (mm_ne c26) mm_k0 mm_k0 (by decide) (by decide)
              exact mm_no q27 (by decide)
          · have q28 := mm_meet (lo := 0) (hi := 9999) (mm_l2x ev23 w25) (mm_top i_3) (by decide)
            refine lv_if_eq (tgt := 34) hx hb dX12_isWords_27 (by decide) (fun c29 => ?_) (fun c29 => ?_)
            · exact mm_eqN c29.symm mm_k0 mm_k1 (by decide)
            · refine lv_iconst (v := 1) hx hb dX12_isWords_30 (by decide) ?_
              refine lv_goto (tgt := 35) hx hb dX12_isWords_31 (by decide) ?_
              subst hAe
              rw [hQ]
              exact W.zret (v := 1) hx hb hr rfl (fun t ht hW => ⟨⟨1, (), rfl, (Or.inr ⟨rfl, w2, w3, q21, q28, w4⟩), by rw [ht]; exact hP, hK.warm hW, hD⟩, hS.F ht⟩) hS.2.2 dX12_isWords_35

set_option maxHeartbeats 4000000 in
set_option maxRecDepth 100000 in
theorem M211_X12_isWording (l : Launch) (G : va_G) (cy : Nat → ClassId) (sz : Nat) (a_0 : Nat) (i_0 : Int32) (i_1 : Int32) (i_2 : Int32) (i_3 : Int32) (i_4 : Int32) (a_1 : Nat) (a_2 : Nat) (a_3 : Nat) (a_4 : Nat) (a_5 : Nat) (i_5 : Int32) (i_6 : Int32) (i_7 : Int32) (i_8 : Int32) (i_9 : Int32) (j_0 : Int64) (i_10 : Int32) (i_11 : Int32) (i_12 : Int32) (i_13 : Int32) (a_6 : Nat) (a_7 : Nat) (a_8 : Nat) (a_9 : Nat) (a_10 : Nat) (a_11 : Nat) (a_12 : Nat) (a_13 : Nat) (a_14 : Nat) (a_15 : Nat) (a_16 : Nat) (a_17 : Nat) (a_18 : Nat) (i_14 : Int32) (i_15 : Int32) (i_16 : Int32) (i_17 : Int32) (i_18 : Int32) (i_19 : Int32) (a_19 : Nat) (i_20 : Int32) (a_20 : Nat) (i_21 : Int32) (i_22 : Int32) (i_23 : Int32) (i_24 : Int32) (i_25 : Int32) (i_26 : Int32) (i_27 : Int32) (i_28 : Int32) (i_29 : Int32) (i_30 : Int32) (i_31 : Int32) (i_32 : Int32) (i_33 : Int32) (i_34 : Int32) (i_35 : Int32) (i_36 : Int32) (i_37 : Int32) (i_38 : Int32) (i_39 : Int32) (i_40 : Int32) (i_41 : Int32) (i_42 : Int32) (i_43 : Int32) (i_44 : Int32) (i_45 : Int32) (i_46 : Int32) (i_47 : Int32) (i_48 : Int32) (i_49 : Int32) (i_50 : Int32) (f_0 : Nat → Int32) (f_1 : Nat → Int32) (f_2 : Nat → Int32) (f_3 : Nat → Int32) (f_4 : Nat → Int32) (h0 : mm_rg i_0 0 2) (h1 : mm_rg i_1 0 1000000000) (h2 : mm_rg i_2 1 7) (h3 : mm_rg i_3 0 9999) (h4 : mm_rg i_14 0 8) (h5 : mm_rg i_21 0 10) (h6 : mm_rg i_22 0 99) (h7 : mm_rg i_23 0 9) (h8 : mm_rg i_24 0 3) (h9 : mm_rg i_25 0 6) (h10 : mm_rg i_26 0 30) (h11 : mm_rg i_27 0 10) (h12 : mm_rg i_28 0 99) (h13 : mm_rg i_29 0 9) (h14 : mm_rg i_30 0 3) (h15 : mm_rg i_31 0 6) (h16 : mm_rg i_32 0 30) (h17 : mm_rg i_33 0 10) (h18 : mm_rg i_34 0 99) (h19 : mm_rg i_35 0 9) (h20 : mm_rg i_36 0 3) (h21 : mm_rg i_37 0 6) (h22 : mm_rg i_38 0 30) (h23 : mm_rg i_39 0 10) (h24 : mm_rg i_40 0 99) (h25 : mm_rg i_41 0 9) (h26 : mm_rg i_42 0 3) (h27 : mm_rg i_43 0 6) (h28 : mm_rg i_44 0 30) (h29 : mm_rg i_45 0 10) (h30 : mm_rg i_46 0 99) (h31 : mm_rg i_47 0 9) (h32 : mm_rg i_48 0 3) (h33 : mm_rg i_49 0 6) (h34 : mm_rg i_50 0 30) (h35 : mm_ar f_0 0 99) (h36 : mm_ar f_1 (-1) 99) (h37 : mm_ar f_2 0 9) (h38 : mm_ar f_3 0 210) (h39 : mm_ar f_4 0 9) (h40 : mm_acs f_1 0 i_23 i_24 i_26) (h41 : mm_acs f_1 1 i_29 i_30 i_32) (h42 : mm_acs f_1 2 i_35 i_36 i_38) (h43 : mm_acs f_1 3 i_41 i_42 i_44) (h44 : mm_f1 f_3 i_0)  : mm_CI l yX12_isWording (mm_ws yX12_isWording cX12_isWording 6 (some .boolean)) ({ frames := 2, cells := 0, slots := 0, locals := 50 } : Room) G cy sz [(a_0, .inr (12, [.int i_4, .ref a_1, .ref a_2, .ref a_3, .ref a_4, .ref a_5, .int i_5, .int i_6, .int i_7, .int i_8, .int i_9, .long j_0, .int i_10, .int i_11, .int i_12, .int i_13, .ref a_6, .ref a_7, .ref a_8, .ref a_9, .ref a_10, .ref a_11, .ref a_12, .ref a_13, .ref a_14, .ref a_15, .ref a_16, .ref a_17, .ref a_18, .int i_14, .int i_15, .int i_16, .int i_17, .int i_18, .int i_19, .ref a_19, .int i_20, .ref a_20])), (a_7, .inl (cy 1, 30, .inl (mm_g [i_21, i_22, i_23, i_24, i_25, i_26, i_27, i_28, i_29, i_30, i_31, i_32, i_33, i_34, i_35, i_36, i_37, i_38, i_39, i_40, i_41, i_42, i_43, i_44, i_45, i_46, i_47, i_48, i_49, i_50]))), (a_8, .inl (cy 1, 90, .inl f_0)), (a_13, .inl (cy 1, 450, .inl f_1)), (a_15, .inl (cy 1, 7200, .inl f_2)), (a_16, .inl (cy 1, 3, .inl f_3)), (a_18, .inl (cy 1, 8, .inl f_4))] [.ref a_0, .int i_0, .int i_1, .int i_2, .int i_3] (fun u : Int32 × Int32 => [(a_0, .inr (12, [.int i_4, .ref a_1, .ref a_2, .ref a_3, .ref a_4, .ref a_5, .int i_5, .int i_6, .int i_7, .int i_8, .int i_9, .long j_0, .int i_10, .int i_11, .int i_12, .int i_13, .ref a_6, .ref a_7, .ref a_8, .ref a_9, .ref a_10, .ref a_11, .ref a_12, .ref a_13, .ref a_14, .ref a_15, .ref a_16, .ref a_17, .ref a_18, .int i_14, .int u.1, .int u.2, .int i_17, .int i_18, .int i_19, .ref a_19, .int i_20, .ref a_20])), (a_7, .inl (cy 1, 30, .inl (mm_g [i_21, i_22, i_23, i_24, i_25, i_26, i_27, i_28, i_29, i_30, i_31, i_32, i_33, i_34, i_35, i_36, i_37, i_38, i_39, i_40, i_41, i_42, i_43, i_44, i_45, i_46, i_47, i_48, i_49, i_50]))), (a_8, .inl (cy 1, 90, .inl f_0)), (a_13, .inl (cy 1, 450, .inl f_1)), (a_15, .inl (cy 1, 7200, .inl f_2)), (a_16, .inl (cy 1, 3, .inl f_3)), (a_18, .inl (cy 1, 8, .inl f_4))]) (fun (r : Int32) (u : Int32 × Int32) => ((0 = r) ∨ (1 = r))) 0 0 := by
  refine mm_begin (lv := [(0, .ref a_0), (1, .int i_0), (2, .int i_1), (3, .int i_2), (4, .int i_3)]) (by decide) (Nat.le_of_ble_eq_true rfl) rfl ?_
  intro p e s m below meth c A ls R args Q H locs hRe hQ hAe hx hb hr hlocks hml hown hnm hts hsz hA hS hP hK hD hZ hl
  have hRf : R.frames = 2 := by rw [hRe]
  have hRl : R.locals = 50 := by rw [hRe]
  have hRc : R.cells = 0 := by rw [hRe]
  have hRs : R.slots = 0 := by rw [hRe]
  refine lv_iconst (v := 0) hx hb dX12_isWording_0 (by decide) ?_
  refine lv_istore (lv' := [(5, .int 0), (0, .ref a_0), (1, .int i_0), (2, .int i_1), (3, .int i_2), (4, .int i_3)]) hx hb dX12_isWording_1 hl (by decide) rfl ?_
  clear hl
  clear ls
  intro ls hl
  have L3_126 : ∀ (n : Nat) (x3_5_124 : Int32) (y3_0_30_125 : Int32) (y3_0_31_126 : Int32), mm_rg x3_5_124 0 7 → (7 - x3_5_124.toInt).toNat < n → ∀ (H : Heap) (locs : List Loc), va_P G vwCl [(a_0, .inr (12, [.int i_4, .ref a_1, .ref a_2, .ref a_3, .ref a_4, .ref a_5, .int i_5, .int i_6, .int i_7, .int i_8, .int i_9, .long j_0, .int i_10, .int i_11, .int i_12, .int i_13, .ref a_6, .ref a_7, .ref a_8, .ref a_9, .ref a_10, .ref a_11, .ref a_12, .ref a_13, .ref a_14, .ref a_15, .ref a_16, .ref a_17, .ref a_18, .int i_14, .int y3_0_30_125, .int y3_0_31_126, .int i_17, .int i_18, .int i_19, .ref a_19, .int i_20, .ref a_20])), (a_7, .inl (cy 1, 30, .inl (mm_g [i_21, i_22, i_23, i_24, i_25, i_26, i_27, i_28, i_29, i_30, i_31, i_32, i_33, i_34, i_35, i_36, i_37, i_38, i_39, i_40, i_41, i_42, i_43, i_44, i_45, i_46, i_47, i_48, i_49, i_50]))), (a_8, .inl (cy 1, 90, .inl f_0)), (a_13, .inl (cy 1, 450, .inl f_1)), (a_15, .inl (cy 1, 7200, .inl f_2)), (a_16, .inl (cy 1, 3, .inl f_3)), (a_18, .inl (cy 1, 8, .inl f_4))] H → va_D A [(a_0, .inr (12, [.int i_4, .ref a_1, .ref a_2, .ref a_3, .ref a_4, .ref a_5, .int i_5, .int i_6, .int i_7, .int i_8, .int i_9, .long j_0, .int i_10, .int i_11, .int i_12, .int i_13, .ref a_6, .ref a_7, .ref a_8, .ref a_9, .ref a_10, .ref a_11, .ref a_12, .ref a_13, .ref a_14, .ref a_15, .ref a_16, .ref a_17, .ref a_18, .int i_14, .int y3_0_30_125, .int y3_0_31_126, .int i_17, .int i_18, .int i_19, .ref a_19, .int i_20, .ref a_20])), (a_7, .inl (cy 1, 30, .inl (mm_g [i_21, i_22, i_23, i_24, i_25, i_26, i_27, i_28, i_29, i_30, i_31, i_32, i_33, i_34, i_35, i_36, i_37, i_38, i_39, i_40, i_41, i_42, i_43, i_44, i_45, i_46, i_47, i_48, i_49, i_50]))), (a_8, .inl (cy 1, 90, .inl f_0)), (a_13, .inl (cy 1, 450, .inl f_1)), (a_15, .inl (cy 1, 7200, .inl f_2)), (a_16, .inl (cy 1, 3, .inl f_3)), (a_18, .inl (cy 1, 8, .inl f_4))] → va_S A s.heap H locs → ∀ (ls : Array Slot), lv_has ls 6 [(5, .int x3_5_124), (0, .ref a_0), (1, .int i_0), (2, .int i_1), (3, .int i_2), (4, .int i_3)] → W p l e R s m args below meth c H locs 0 0 Q (F0 m 3 ls []) := by
    intro n
    induction n with
    | zero => intro x3_5_124 y3_0_30_125 y3_0_31_126 rx3_5_124 hm; exact absurd hm (Nat.not_lt_zero _)
    | succ n ih3 =>
      intro x3_5_124 y3_0_30_125 y3_0_31_126 rx3_5_124 hm3 H locs hP hD hS ls hl
      refine lv_iload hx hb dX12_isWording_3 (lv_at hl 0 rfl) ?_
      refine lv_iload_n hx hb dX12_isWording_5 rfl (lv_at hl 4 rfl) ?_
      refine lv_icmp_ge (tgt := 35) hx hb dX12_isWording_6 (by decide) (fun c128 => ?_) (fun c128 => ?_)
      · have q129 := mm_leR (mm_le c128) h2 rx3_5_124
        refine lv_iconst (v := 1) hx hb dX12_isWording_35 (by decide) ?_
        subst hAe
        rw [hQ]
        exact W.zret (v := 1) hx hb hr rfl (fun t ht hW => ⟨⟨1, (y3_0_30_125, y3_0_31_126), rfl, (Or.inr rfl), by rw [ht]; exact hP, hK.warm hW, hD⟩, hS.F ht⟩) hS.2.2 dX12_isWording_36
      · have q130 := mm_ltL (h := 6) (mm_nle c128) rx3_5_124 h2 (by decide)
        refine lv_aload_n hx hb dX12_isWording_9 rfl (lv_at hl 1 rfl) ?_
        refine lv_iload_n hx hb dX12_isWording_10 rfl (lv_at hl 2 rfl) ?_
        refine lv_iload_n hx hb dX12_isWording_11 rfl (lv_at hl 3 rfl) ?_
        refine lv_iload hx hb dX12_isWording_12 (lv_at hl 0 rfl) ?_
        refine lv_iadd hx hb dX12_isWording_14 ?_
        refine lv_topi (fun v131 ev131 => ?_)
        have rv131 : mm_rg v131 0 1000000006 := mm_add ev131 h1 q130 (by decide) (by decide)
        have tv131 := mm_addE ev131 h1 q130 (by decide)
        refine lv_aload_n hx hb dX12_isWording_15 rfl (lv_at hl 1 rfl) ?_
        refine mm_finir (va_runV (As := []) (rest := [.int v131, .int i_0, .ref a_0]) ⟨hx, hb, hml, hown, hts⟩ (M139_X12_stockNow l G cy H.size a_0 i_4 a_1 a_2 a_3 a_4 a_5 i_5 i_6 i_7 i_8 i_9 j_0 i_10 i_11 i_12 i_13 a_6 a_7 a_8 a_9 a_10 a_11 a_12 a_13 a_14 a_15 a_16 a_17 a_18 i_14 y3_0_30_125 y3_0_31_126 i_17 i_18 i_19 a_19 i_20 a_20 i_21 i_22 i_23 i_24 i_25 i_26 i_27 i_28 i_29 i_30 i_31 i_32 i_33 i_34 i_35 i_36 i_37 i_38 i_39 i_40 i_41 i_42 i_43 i_44 i_45 i_46 i_47 i_48 i_49 i_50 f_1 h5 h6 h7 h8 h9 h10 h11 h12 h13 h14 h15 h16 h17 h18 h19 h20 h21 h22 h23 h24 h25 h26 h27 h28 h29 h30 h31 h32 h33 h34 h36 h40 h41 h42 h43) (cwV 0 hts (mm_gV mm_w861 mm_w862 mm_w863 mm_w5 mm_w864) rfl rfl rfl hd_X12_stockNow ⟨by rw [hRf]; exact Nat.le_of_ble_eq_true rfl, by rw [hRl]; exact Nat.le_of_ble_eq_true rfl⟩) (mm_preV hK hZ hS hA hP hD [0, 1, 3] rfl rfl 0 rfl rfl rfl) rfl rfl hl.1 rfl (lv_room (Nat.le_of_ble_eq_true rfl)) dX12_isWording_16 ⟨by rw [hRc]; exact Nat.le_of_ble_eq_true rfl, by rw [hRs]; exact Nat.le_of_ble_eq_true rfl⟩) hP hD hS hA [0, 1, 3] rfl (fun _ => rfl) ?_
        clear hP hD hS
        clear H locs
        intro v132 _u H locs hw hP hD hS
        obtain ⟨w133, w134⟩ := hw
        refine mm_fini (va_runV (As := [.int i_0, .int v131, .int v132]) (rest := []) ⟨hx, hb, hml, hown, hts⟩ (M140_X12_readsFrom l G cy H.size a_0 i_0 v131 v132 i_4 a_1 a_2 a_3 a_4 a_5 i_5 i_6 i_7 i_8 i_9 j_0 i_10 i_11 i_12 i_13 a_6 a_7 a_8 a_9 a_10 a_11 a_12 a_13 a_14 a_15 a_16 a_17 a_18 i_14 y3_0_30_125 y3_0_31_126 i_17 i_18 i_19 a_19 i_20 a_20 i_21 i_22 i_23 i_24 i_25 i_26 i_27 i_28 i_29 i_30 i_31 i_32 i_33 i_34 i_35 i_36 i_37 i_38 i_39 i_40 i_41 i_42 i_43 i_44 i_45 i_46 i_47 i_48 i_49 i_50 f_0 f_2 f_3 f_4 h0 (mm_wk rv131 (by decide)) (mm_wk w133 (by decide)) h4 h5 h6 h7 h8 h9 h10 h11 h12 h13 h14 h15 h16 h17 h18 h19 h20 h21 h22 h23 h24 h25 h26 h27 h28 h29 h30 h31 h32 h33 h34 h35 h37 h38 h39 h44) (cwV 3 hts (mm_gV mm_w865 mm_w866 mm_w867 mm_w5 mm_w868) rfl rfl rfl hd_X12_readsFrom ⟨by rw [hRf]; exact Nat.le_of_ble_eq_true rfl, by rw [hRl]; exact Nat.le_of_ble_eq_true rfl⟩) (mm_preV hK hZ hS hA hP hD [0, 1, 2, 4, 5, 6] rfl rfl 0 rfl rfl rfl) rfl rfl hl.1 rfl (lv_room (Nat.le_of_ble_eq_true rfl)) dX12_isWording_19 ⟨by rw [hRc]; exact Nat.le_of_ble_eq_true rfl, by rw [hRs]; exact Nat.le_of_ble_eq_true rfl⟩) hP hD hS hA (fun u : Int32 × Int32 => [(a_0, .inr (12, [.int i_4, .ref a_1, .ref a_2, .ref a_3, .ref a_4, .ref a_5, .int i_5, .int i_6, .int i_7, .int i_8, .int i_9, .long j_0, .int i_10, .int i_11, .int i_12, .int i_13, .ref a_6, .ref a_7, .ref a_8, .ref a_9, .ref a_10, .ref a_11, .ref a_12, .ref a_13, .ref a_14, .ref a_15, .ref a_16, .ref a_17, .ref a_18, .int i_14, .int u.1, .int u.2, .int i_17, .int i_18, .int i_19, .ref a_19, .int i_20, .ref a_20])), (a_7, .inl (cy 1, 30, .inl (mm_g [i_21, i_22, i_23, i_24, i_25, i_26, i_27, i_28, i_29, i_30, i_31, i_32, i_33, i_34, i_35, i_36, i_37, i_38, i_39, i_40, i_41, i_42, i_43, i_44, i_45, i_46, i_47, i_48, i_49, i_50]))), (a_8, .inl (cy 1, 90, .inl f_0)), (a_13, .inl (cy 1, 450, .inl f_1)), (a_15, .inl (cy 1, 7200, .inl f_2)), (a_16, .inl (cy 1, 3, .inl f_3)), (a_18, .inl (cy 1, 8, .inl f_4))]) [0, 1, 2, 4, 5, 6] [3] (n := 7) (fun _ => rfl) (by decide +kernel) (by decide +kernel) rfl (fun _ => rfl) (wr := [(a_13, .inl (cy 1, 450, .inl f_1))]) rfl (fun _ => rfl) (fun _ => @rfl _ ([a_0, a_7, a_8, a_15, a_16, a_18] : List Nat)) ?_
        clear hP hD hS
        clear H locs
        intro v137 u
        obtain ⟨n135, n136⟩ := u
        intro H locs hw (hP : va_P G vwCl [(a_0, .inr (12, [.int i_4, .ref a_1, .ref a_2, .ref a_3, .ref a_4, .ref a_5, .int i_5, .int i_6, .int i_7, .int i_8, .int i_9, .long j_0, .int i_10, .int i_11, .int i_12, .int i_13, .ref a_6, .ref a_7, .ref a_8, .ref a_9, .ref a_10, .ref a_11, .ref a_12, .ref a_13, .ref a_14, .ref a_15, .ref a_16, .ref a_17, .ref a_18, .int i_14, .int n135, .int n136, .int i_17, .int i_18, .int i_19, .ref a_19, .int i_20, .ref a_20])), (a_7, .inl (cy 1, 30, .inl (mm_g [i_21, i_22, i_23, i_24, i_25, i_26, i_27, i_28, i_29, i_30, i_31, i_32, i_33, i_34, i_35, i_36, i_37, i_38, i_39, i_40, i_41, i_42, i_43, i_44, i_45, i_46, i_47, i_48, i_49, i_50]))), (a_8, .inl (cy 1, 90, .inl f_0)), (a_13, .inl (cy 1, 450, .inl f_1)), (a_15, .inl (cy 1, 7200, .inl f_2)), (a_16, .inl (cy 1, 3, .inl f_3)), (a_18, .inl (cy 1, 8, .inl f_4))] H) (hD : va_D A [(a_0, .inr (12, [.int i_4, .ref a_1, .ref a_2, .ref a_3, .ref a_4, .ref a_5, .int i_5, .int i_6, .int i_7, .int i_8, .int i_9, .long j_0, .int i_10, .int i_11, .int i_12, .int i_13, .ref a_6, .ref a_7, .ref a_8, .ref a_9, .ref a_10, .ref a_11, .ref a_12, .ref a_13, .ref a_14, .ref a_15, .ref a_16, .ref a_17, .ref a_18, .int i_14, .int n135, .int n136, .int i_17, .int i_18, .int i_19, .ref a_19, .int i_20, .ref a_20])), (a_7, .inl (cy 1, 30, .inl (mm_g [i_21, i_22, i_23, i_24, i_25, i_26, i_27, i_28, i_29, i_30, i_31, i_32, i_33, i_34, i_35, i_36, i_37, i_38, i_39, i_40, i_41, i_42, i_43, i_44, i_45, i_46, i_47, i_48, i_49, i_50]))), (a_8, .inl (cy 1, 90, .inl f_0)), (a_13, .inl (cy 1, 450, .inl f_1)), (a_15, .inl (cy 1, 7200, .inl f_2)), (a_16, .inl (cy 1, 3, .inl f_3)), (a_18, .inl (cy 1, 8, .inl f_4))]) hS
        obtain ⟨w138, w139⟩ := hw
        replace w139 : mm_rf f_2 f_3 f_0 f_4 i_0 v131 i_23 i_14 v132 v137 := w139
        refine lv_iload hx hb dX12_isWording_22 (lv_at hl 5 rfl) ?_
        refine lv_icmp_eq (tgt := 29) hx hb dX12_isWording_24 (by decide) (fun c140 => ?_) (fun c140 => ?_)
        · obtain ⟨v141, ev141⟩ : ∃ y : Int32, y = x3_5_124 + 1 := ⟨_, rfl⟩
          refine lv_iinc (v := v141) (lv' := [(5, .int v141), (0, .ref a_0), (1, .int i_0), (2, .int i_1), (3, .int i_2), (4, .int i_3)]) hx hb dX12_isWording_29 hl (k := 0) rfl (by rw [ev141]; rfl) (by decide) rfl ?_
          clear hl
          clear ls
          intro ls hl
          have rv141 : mm_rg v141 1 7 := mm_add ev141 q130 mm_k1 (by decide) (by decide)
          have tv141 := mm_addEc ev141 q130 mm_k1 (by decide) (k := 1) (by decide)
          refine lv_goto (tgt := 3) hx hb dX12_isWording_32 (by decide) ?_
          exact ih3 v141 n135 n136 (mm_wk rv141 (by decide)) (mm_mu hm3 tv141 (by decide) (rv141).2 (by decide)) H locs hP hD hS ls (lv_sub hl [0, 1, 2, 3, 4, 5] rfl)
        · refine lv_iconst (v := 0) hx hb dX12_isWording_27 (by decide) ?_
          subst hAe
          rw [hQ]
          exact W.zret (v := 0) hx hb hr rfl (fun t ht hW => ⟨⟨0, (n135, n136), rfl, (Or.inl rfl), by rw [ht]; exact hP, hK.warm hW, hD⟩, hS.F ht⟩) hS.2.2 dX12_isWording_28
  exact L3_126 _ 0 i_15 i_16 (mm_wk mm_k0 (by decide)) (Nat.lt_succ_self _) H locs hP hD hS ls (lv_sub hl [0, 1, 2, 3, 4, 5] rfl)

set_option maxHeartbeats 4000000 in
set_option maxRecDepth 100000 in
theorem M223_X12_rowsFrom (l : Launch) (G : va_G) (cy : Nat → ClassId) (sz : Nat) (a_0 : Nat) (i_0 : Int32) (i_1 : Int32) (i_2 : Int32) (i_3 : Int32) (i_4 : Int32) (a_1 : Nat) (a_2 : Nat) (a_3 : Nat) (a_4 : Nat) (a_5 : Nat) (i_5 : Int32) (i_6 : Int32) (i_7 : Int32) (i_8 : Int32) (i_9 : Int32) (j_0 : Int64) (i_10 : Int32) (i_11 : Int32) (i_12 : Int32) (i_13 : Int32) (a_6 : Nat) (a_7 : Nat) (a_8 : Nat) (a_9 : Nat) (a_10 : Nat) (a_11 : Nat) (a_12 : Nat) (a_13 : Nat) (a_14 : Nat) (a_15 : Nat) (a_16 : Nat) (a_17 : Nat) (a_18 : Nat) (i_14 : Int32) (i_15 : Int32) (i_16 : Int32) (i_17 : Int32) (i_18 : Int32) (i_19 : Int32) (a_19 : Nat) (i_20 : Int32) (a_20 : Nat) (i_21 : Int32) (i_22 : Int32) (i_23 : Int32) (i_24 : Int32) (i_25 : Int32) (i_26 : Int32) (i_27 : Int32) (i_28 : Int32) (i_29 : Int32) (i_30 : Int32) (i_31 : Int32) (i_32 : Int32) (i_33 : Int32) (i_34 : Int32) (i_35 : Int32) (i_36 : Int32) (i_37 : Int32) (i_38 : Int32) (i_39 : Int32) (i_40 : Int32) (i_41 : Int32) (i_42 : Int32) (i_43 : Int32) (i_44 : Int32) (i_45 : Int32) (i_46 : Int32) (i_47 : Int32) (i_48 : Int32) (i_49 : Int32) (i_50 : Int32) (f_0 : Nat → Int32) (f_1 : Nat → Int32) (f_2 : Nat → Int32) (f_3 : Nat → Int32) (f_4 : Nat → Int32) (f_5 : Nat → Int32) (h0 : mm_rg i_0 0 2) (h1 : mm_rg i_1 0 1000000000) (h2 : mm_rg i_2 1 7) (h3 : mm_rg i_3 0 9999) (h4 : mm_rg i_14 4 4) (h5 : mm_rg i_21 0 10) (h6 : mm_rg i_22 0 99) (h7 : mm_rg i_23 0 9) (h8 : mm_rg i_24 0 3) (h9 : mm_rg i_25 0 6) (h10 : mm_rg i_26 0 30) (h11 : mm_rg i_27 0 10) (h12 : mm_rg i_28 0 99) (h13 : mm_rg i_29 0 9) (h14 : mm_rg i_30 0 3) (h15 : mm_rg i_31 0 6) (h16 : mm_rg i_32 0 30) (h17 : mm_rg i_33 0 10) (h18 : mm_rg i_34 0 99) (h19 : mm_rg i_35 0 9) (h20 : mm_rg i_36 0 3) (h21 : mm_rg i_37 0 6) (h22 : mm_rg i_38 0 30) (h23 : mm_rg i_39 0 10) (h24 : mm_rg i_40 0 99) (h25 : mm_rg i_41 0 9) (h26 : mm_rg i_42 0 3) (h27 : mm_rg i_43 0 6) (h28 : mm_rg i_44 0 30) (h29 : mm_rg i_45 0 10) (h30 : mm_rg i_46 0 99) (h31 : mm_rg i_47 0 9) (h32 : mm_rg i_48 0 3) (h33 : mm_rg i_49 0 6) (h34 : mm_rg i_50 0 30) (h35 : mm_ar f_0 0 99) (h36 : mm_ar f_1 (-1) 99) (h37 : mm_ar f_2 0 9) (h38 : mm_ar f_3 0 210) (h39 : mm_ar f_4 0 9) (h40 : mm_acs f_1 0 i_23 i_24 i_26) (h41 : mm_acs f_1 1 i_29 i_30 i_32) (h42 : mm_acs f_1 2 i_35 i_36 i_38) (h43 : mm_acs f_1 3 i_41 i_42 i_44) (h44 : mm_f1 f_3 i_0)  : mm_CV l yX12_rowsFrom (mm_ws yX12_rowsFrom cX12_rowsFrom 7 (none)) ({ frames := 3, cells := 0, slots := 0, locals := 75 } : Room) G cy sz [(a_0, .inr (12, [.int i_4, .ref a_1, .ref a_2, .ref a_3, .ref a_4, .ref a_5, .int i_5, .int i_6, .int i_7, .int i_8, .int i_9, .long j_0, .int i_10, .int i_11, .int i_12, .int i_13, .ref a_6, .ref a_7, .ref a_8, .ref a_9, .ref a_10, .ref a_11, .ref a_12, .ref a_13, .ref a_14, .ref a_15, .ref a_16, .ref a_17, .ref a_18, .int i_14, .int i_15, .int i_16, .int i_17, .int i_18, .int i_19, .ref a_19, .int i_20, .ref a_20])), (a_7, .inl (cy 1, 30, .inl (mm_g [i_21, i_22, i_23, i_24, i_25, i_26, i_27, i_28, i_29, i_30, i_31, i_32, i_33, i_34, i_35, i_36, i_37, i_38, i_39, i_40, i_41, i_42, i_43, i_44, i_45, i_46, i_47, i_48, i_49, i_50]))), (a_8, .inl (cy 1, 90, .inl f_0)), (a_13, .inl (cy 1, 450, .inl f_1)), (a_15, .inl (cy 1, 7200, .inl f_2)), (a_16, .inl (cy 1, 3, .inl f_3)), (a_18, .inl (cy 1, 8, .inl f_4)), (a_20, .inl (cy 1, 4, .inl f_5))] [.ref a_0, .int 4, .int i_0, .int i_1, .int i_2, .int i_3] (fun u : Int32 × Int32 × Int32 × (Nat → Int32) => [(a_0, .inr (12, [.int i_4, .ref a_1, .ref a_2, .ref a_3, .ref a_4, .ref a_5, .int i_5, .int i_6, .int i_7, .int i_8, .int i_9, .long j_0, .int i_10, .int i_11, .int i_12, .int i_13, .ref a_6, .ref a_7, .ref a_8, .ref a_9, .ref a_10, .ref a_11, .ref a_12, .ref a_13, .ref a_14, .ref a_15, .ref a_16, .ref a_17, .ref a_18, .int i_14, .int u.1, .int u.2.1, .int i_17, .int i_18, .int i_19, .ref a_19, .int u.2.2.1, .ref a_20])), (a_7, .inl (cy 1, 30, .inl (mm_g [i_21, i_22, i_23, i_24, i_25, i_26, i_27, i_28, i_29, i_30, i_31, i_32, i_33, i_34, i_35, i_36, i_37, i_38, i_39, i_40, i_41, i_42, i_43, i_44, i_45, i_46, i_47, i_48, i_49, i_50]))), (a_8, .inl (cy 1, 90, .inl f_0)), (a_13, .inl (cy 1, 450, .inl f_1)), (a_15, .inl (cy 1, 7200, .inl f_2)), (a_16, .inl (cy 1, 3, .inl f_3)), (a_18, .inl (cy 1, 8, .inl f_4)), (a_20, .inl (cy 1, 4, .inl u.2.2.2))]) (fun u : Int32 × Int32 × Int32 × (Nat → Int32) => True) 0 0 := by
  refine mm_begin (lv := [(0, .ref a_0), (1, .int 4), (2, .int i_0), (3, .int i_1), (4, .int i_2), (5, .int i_3)]) (by decide) (Nat.le_of_ble_eq_true rfl) rfl ?_
  intro p e s m below meth c A ls R args Q H locs hRe hQ hAe hx hb hr hlocks hml hown hnm hts hsz hA hS hP hK hD hZ hl
  have hRf : R.frames = 3 := by rw [hRe]
  have hRl : R.locals = 75 := by rw [hRe]
  have hRc : R.cells = 0 := by rw [hRe]
  have hRs : R.slots = 0 := by rw [hRe]
  refine lv_iload_n hx hb dX12_rowsFrom_0 rfl (lv_at hl 1 rfl) ?_
  refine lv_aload_n hx hb dX12_rowsFrom_1 rfl (lv_at hl 0 rfl) ?_
  refine va_get (D := G) (ci := 12) (v := .int i_14) (C := RX12) (T := TX12) (N := 38) hx hb hts (mm_i inlX12) hown hK.1 hP 0 rfl rfl 29 (by decide) (mm_h hts mm_w860) (fun _ h9 => h9) rfl dX12_rowsFrom_2 ?_
  refine lv_icmp_ne (tgt := 69) hx hb dX12_rowsFrom_5 (by decide) (fun c1 => ?_) (fun c1 => ?_)
  · have q2 := mm_neL (lo := 5) (mm_ne c1) mm_k4 h4 (by decide) (by decide)
    exact mm_no q2 (by decide)
  · refine lv_aload_n hx hb dX12_rowsFrom_8 rfl (lv_at hl 0 rfl) ?_
    refine lv_iload_n hx hb dX12_rowsFrom_9 rfl (lv_at hl 2 rfl) ?_
    refine lv_iload_n hx hb dX12_rowsFrom_10 rfl (lv_at hl 3 rfl) ?_
    refine lv_iload hx hb dX12_rowsFrom_11 (lv_at hl 4 rfl) ?_
    refine lv_iload hx hb dX12_rowsFrom_13 (lv_at hl 5 rfl) ?_
    refine mm_fini (va_runV (As := [.int i_0, .int i_1, .int i_2, .int i_3]) (rest := []) ⟨hx, hb, hml, hown, hts⟩ (M211_X12_isWording l G cy H.size a_0 i_0 i_1 i_2 i_3 i_4 a_1 a_2 a_3 a_4 a_5 i_5 i_6 i_7 i_8 i_9 j_0 i_10 i_11 i_12 i_13 a_6 a_7 a_8 a_9 a_10 a_11 a_12 a_13 a_14 a_15 a_16 a_17 a_18 i_14 i_15 i_16 i_17 i_18 i_19 a_19 i_20 a_20 i_21 i_22 i_23 i_24 i_25 i_26 i_27 i_28 i_29 i_30 i_31 i_32 i_33 i_34 i_35 i_36 i_37 i_38 i_39 i_40 i_41 i_42 i_43 i_44 i_45 i_46 i_47 i_48 i_49 i_50 f_0 f_1 f_2 f_3 f_4 h0 h1 h2 h3 (mm_wk h4 (by decide)) h5 h6 h7 h8 h9 h10 h11 h12 h13 h14 h15 h16 h17 h18 h19 h20 h21 h22 h23 h24 h25 h26 h27 h28 h29 h30 h31 h32 h33 h34 h35 h36 h37 h38 h39 h40 h41 h42 h43 h44) (cwV 4 hts (mm_gV mm_w1409 mm_w1410 mm_w1411 mm_w5 mm_w1412) rfl rfl rfl hd_X12_isWording ⟨by rw [hRf]; exact Nat.le_of_ble_eq_true rfl, by rw [hRl]; exact Nat.le_of_ble_eq_true rfl⟩) (mm_preV hK hZ hS hA hP hD [0, 1, 2, 3, 4, 5, 6] rfl rfl 0 rfl rfl rfl) rfl rfl hl.1 rfl (lv_room (Nat.le_of_ble_eq_true rfl)) dX12_rowsFrom_15 ⟨by rw [hRc]; exact Nat.le_of_ble_eq_true rfl, by rw [hRs]; exact Nat.le_of_ble_eq_true rfl⟩) hP hD hS hA (fun u : Int32 × Int32 => [(a_0, .inr (12, [.int i_4, .ref a_1, .ref a_2, .ref a_3, .ref a_4, .ref a_5, .int i_5, .int i_6, .int i_7, .int i_8, .int i_9, .long j_0, .int i_10, .int i_11, .int i_12, .int i_13, .ref a_6, .ref a_7, .ref a_8, .ref a_9, .ref a_10, .ref a_11, .ref a_12, .ref a_13, .ref a_14, .ref a_15, .ref a_16, .ref a_17, .ref a_18, .int i_14, .int u.1, .int u.2, .int i_17, .int i_18, .int i_19, .ref a_19, .int i_20, .ref a_20])), (a_7, .inl (cy 1, 30, .inl (mm_g [i_21, i_22, i_23, i_24, i_25, i_26, i_27, i_28, i_29, i_30, i_31, i_32, i_33, i_34, i_35, i_36, i_37, i_38, i_39, i_40, i_41, i_42, i_43, i_44, i_45, i_46, i_47, i_48, i_49, i_50]))), (a_8, .inl (cy 1, 90, .inl f_0)), (a_13, .inl (cy 1, 450, .inl f_1)), (a_15, .inl (cy 1, 7200, .inl f_2)), (a_16, .inl (cy 1, 3, .inl f_3)), (a_18, .inl (cy 1, 8, .inl f_4)), (a_20, .inl (cy 1, 4, .inl f_5))]) [0, 1, 2, 3, 4, 5, 6] [7] (n := 8) (fun _ => rfl) (by decide +kernel) (by decide +kernel) rfl (fun _ => rfl) (wr := [(a_20, .inl (cy 1, 4, .inl f_5))]) rfl (fun _ => rfl) (fun _ => @rfl _ ([a_0, a_7, a_8, a_13, a_15, a_16, a_18] : List Nat)) ?_
    clear hP hD hS
    clear H locs
    intro v5 u
    obtain ⟨n3, n4⟩ := u
    intro H locs hw (hP : va_P G vwCl [(a_0, .inr (12, [.int i_4, .ref a_1, .ref a_2, .ref a_3, .ref a_4, .ref a_5, .int i_5, .int i_6, .int i_7, .int i_8, .int i_9, .long j_0, .int i_10, .int i_11, .int i_12, .int i_13, .ref a_6, .ref a_7, .ref a_8, .ref a_9, .ref a_10, .ref a_11, .ref a_12, .ref a_13, .ref a_14, .ref a_15, .ref a_16, .ref a_17, .ref a_18, .int i_14, .int n3, .int n4, .int i_17, .int i_18, .int i_19, .ref a_19, .int i_20, .ref a_20])), (a_7, .inl (cy 1, 30, .inl (mm_g [i_21, i_22, i_23, i_24, i_25, i_26, i_27, i_28, i_29, i_30, i_31, i_32, i_33, i_34, i_35, i_36, i_37, i_38, i_39, i_40, i_41, i_42, i_43, i_44, i_45, i_46, i_47, i_48, i_49, i_50]))), (a_8, .inl (cy 1, 90, .inl f_0)), (a_13, .inl (cy 1, 450, .inl f_1)), (a_15, .inl (cy 1, 7200, .inl f_2)), (a_16, .inl (cy 1, 3, .inl f_3)), (a_18, .inl (cy 1, 8, .inl f_4)), (a_20, .inl (cy 1, 4, .inl f_5))] H) (hD : va_D A [(a_0, .inr (12, [.int i_4, .ref a_1, .ref a_2, .ref a_3, .ref a_4, .ref a_5, .int i_5, .int i_6, .int i_7, .int i_8, .int i_9, .long j_0, .int i_10, .int i_11, .int i_12, .int i_13, .ref a_6, .ref a_7, .ref a_8, .ref a_9, .ref a_10, .ref a_11, .ref a_12, .ref a_13, .ref a_14, .ref a_15, .ref a_16, .ref a_17, .ref a_18, .int i_14, .int n3, .int n4, .int i_17, .int i_18, .int i_19, .ref a_19, .int i_20, .ref a_20])), (a_7, .inl (cy 1, 30, .inl (mm_g [i_21, i_22, i_23, i_24, i_25, i_26, i_27, i_28, i_29, i_30, i_31, i_32, i_33, i_34, i_35, i_36, i_37, i_38, i_39, i_40, i_41, i_42, i_43, i_44, i_45, i_46, i_47, i_48, i_49, i_50]))), (a_8, .inl (cy 1, 90, .inl f_0)), (a_13, .inl (cy 1, 450, .inl f_1)), (a_15, .inl (cy 1, 7200, .inl f_2)), (a_16, .inl (cy 1, 3, .inl f_3)), (a_18, .inl (cy 1, 8, .inl f_4)), (a_20, .inl (cy 1, 4, .inl f_5))]) hS
    rcases hw with rfl | rfl
    · refine lv_if_ne (tgt := 22) hx hb dX12_rowsFrom_18 (by decide) (fun c6 => ?_) (fun c6 => ?_)
      · have q7 := mm_neL (lo := 1) (mm_ne c6) mm_k0 mm_k0 (by decide) (by decide)
        exact mm_no q7 (by decide)
      · subst hAe
        rw [hQ]
        exact W.vret hx hb hr (fun t ht hW => ⟨⟨(n3, n4, i_20, f_5), rfl, trivial, by rw [ht]; exact hP, hK.warm hW, hD⟩, hS.F ht⟩) hS.2.2 dX12_rowsFrom_21
    · refine lv_if_ne (tgt := 22) hx hb dX12_rowsFrom_18 (by decide) (fun c8 => ?_) (fun c8 => ?_)
      · refine lv_iconst (v := 0) hx hb dX12_rowsFrom_22 (by decide) ?_
        refine lv_istore (lv' := [(6, .int 0), (0, .ref a_0), (1, .int 4), (2, .int i_0), (3, .int i_1), (4, .int i_2), (5, .int i_3)]) hx hb dX12_rowsFrom_23 hl (by decide) rfl ?_
        clear hl
        clear ls
        intro ls hl
        have L25_52 : ∀ (n : Nat) (x25_6_51 : Int32) (z25_7_52 : Nat → Int32), mm_rg x25_6_51 0 4 → (4 - x25_6_51.toInt).toNat < n → ∀ (H : Heap) (locs : List Loc), va_P G vwCl [(a_0, .inr (12, [.int i_4, .ref a_1, .ref a_2, .ref a_3, .ref a_4, .ref a_5, .int i_5, .int i_6, .int i_7, .int i_8, .int i_9, .long j_0, .int i_10, .int i_11, .int i_12, .int i_13, .ref a_6, .ref a_7, .ref a_8, .ref a_9, .ref a_10, .ref a_11, .ref a_12, .ref a_13, .ref a_14, .ref a_15, .ref a_16, .ref a_17, .ref a_18, .int i_14, .int n3, .int n4, .int i_17, .int i_18, .int i_19, .ref a_19, .int i_20, .ref a_20])), (a_7, .inl (cy 1, 30, .inl (mm_g [i_21, i_22, i_23, i_24, i_25, i_26, i_27, i_28, i_29, i_30, i_31, i_32, i_33, i_34, i_35, i_36, i_37, i_38, i_39, i_40, i_41, i_42, i_43, i_44, i_45, i_46, i_47, i_48, i_49, i_50]))), (a_8, .inl (cy 1, 90, .inl f_0)), (a_13, .inl (cy 1, 450, .inl f_1)), (a_15, .inl (cy 1, 7200, .inl f_2)), (a_16, .inl (cy 1, 3, .inl f_3)), (a_18, .inl (cy 1, 8, .inl f_4)), (a_20, .inl (cy 1, 4, .inl z25_7_52))] H → va_D A [(a_0, .inr (12, [.int i_4, .ref a_1, .ref a_2, .ref a_3, .ref a_4, .ref a_5, .int i_5, .int i_6, .int i_7, .int i_8, .int i_9, .long j_0, .int i_10, .int i_11, .int i_12, .int i_13, .ref a_6, .ref a_7, .ref a_8, .ref a_9, .ref a_10, .ref a_11, .ref a_12, .ref a_13, .ref a_14, .ref a_15, .ref a_16, .ref a_17, .ref a_18, .int i_14, .int n3, .int n4, .int i_17, .int i_18, .int i_19, .ref a_19, .int i_20, .ref a_20])), (a_7, .inl (cy 1, 30, .inl (mm_g [i_21, i_22, i_23, i_24, i_25, i_26, i_27, i_28, i_29, i_30, i_31, i_32, i_33, i_34, i_35, i_36, i_37, i_38, i_39, i_40, i_41, i_42, i_43, i_44, i_45, i_46, i_47, i_48, i_49, i_50]))), (a_8, .inl (cy 1, 90, .inl f_0)), (a_13, .inl (cy 1, 450, .inl f_1)), (a_15, .inl (cy 1, 7200, .inl f_2)), (a_16, .inl (cy 1, 3, .inl f_3)), (a_18, .inl (cy 1, 8, .inl f_4)), (a_20, .inl (cy 1, 4, .inl z25_7_52))] → va_S A s.heap H locs → ∀ (ls : Array Slot), lv_has ls 7 [(6, .int x25_6_51), (0, .ref a_0), (1, .int 4), (2, .int i_0), (3, .int i_1), (4, .int i_2), (5, .int i_3)] → W p l e R s m args below meth c H locs 0 0 Q (F0 m 25 ls []) := by
          intro n
          induction n with
          | zero => intro x25_6_51 z25_7_52 rx25_6_51 hm; exact absurd hm (Nat.not_lt_zero _)
          | succ n ih25 =>
            intro x25_6_51 z25_7_52 rx25_6_51 hm25 H locs hP hD hS ls hl
            refine lv_iload hx hb dX12_rowsFrom_25 (lv_at hl 0 rfl) ?_
            refine lv_iload_n hx hb dX12_rowsFrom_27 rfl (lv_at hl 2 rfl) ?_
            refine lv_icmp_ge (tgt := 58) hx hb dX12_rowsFrom_28 (by decide) (fun c54 => ?_) (fun c54 => ?_)
            · have q55 := mm_leR (mm_le c54) mm_k4 rx25_6_51
              refine lv_aload_n hx hb dX12_rowsFrom_58 rfl (lv_at hl 1 rfl) ?_
              refine lv_dup hx hb dX12_rowsFrom_59 rfl ?_
              refine va_get (D := G) (ci := 12) (v := .int i_20) (C := RX12) (T := TX12) (N := 38) hx hb hts (mm_i inlX12) hown hK.1 hP 0 rfl rfl 36 (by decide) (mm_h hts mm_w1404) (fun _ h9 => h9) rfl dX12_rowsFrom_60 ?_
              refine lv_iconst (v := 1) hx hb dX12_rowsFrom_63 (by decide) ?_
              refine lv_iadd hx hb dX12_rowsFrom_64 ?_
              refine lv_topi (fun v56 ev56 => ?_)
              refine va_put (D := G) (ci := 12) (v := .int v56) (ty := tyX12 36) (C := RX12) (T := TX12) (N := 38) hx hb hts (mm_i inlX12) tyX12 tyX12_ok nmX12 hown hK.1 hP hD hS 0 rfl rfl 36 (by decide) (mm_h hts mm_w1404) (fun _ h9 => h9) rfl (tyX12_ok 36 (by decide)) rfl rfl (Nat.le_of_ble_eq_true rfl) dX12_rowsFrom_65 ?_
              clear hP hD hS
              clear H locs
              intro H locs (hP : va_P G vwCl [(a_0, .inr (12, [.int i_4, .ref a_1, .ref a_2, .ref a_3, .ref a_4, .ref a_5, .int i_5, .int i_6, .int i_7, .int i_8, .int i_9, .long j_0, .int i_10, .int i_11, .int i_12, .int i_13, .ref a_6, .ref a_7, .ref a_8, .ref a_9, .ref a_10, .ref a_11, .ref a_12, .ref a_13, .ref a_14, .ref a_15, .ref a_16, .ref a_17, .ref a_18, .int i_14, .int n3, .int n4, .int i_17, .int i_18, .int i_19, .ref a_19, .int v56, .ref a_20])), (a_7, .inl (cy 1, 30, .inl (mm_g [i_21, i_22, i_23, i_24, i_25, i_26, i_27, i_28, i_29, i_30, i_31, i_32, i_33, i_34, i_35, i_36, i_37, i_38, i_39, i_40, i_41, i_42, i_43, i_44, i_45, i_46, i_47, i_48, i_49, i_50]))), (a_8, .inl (cy 1, 90, .inl f_0)), (a_13, .inl (cy 1, 450, .inl f_1)), (a_15, .inl (cy 1, 7200, .inl f_2)), (a_16, .inl (cy 1, 3, .inl f_3)), (a_18, .inl (cy 1, 8, .inl f_4)), (a_20, .inl (cy 1, 4, .inl z25_7_52))] H) (hD : va_D A [(a_0, .inr (12, [.int i_4, .ref a_1, .ref a_2, .ref a_3, .ref a_4, .ref a_5, .int i_5, .int i_6, .int i_7, .int i_8, .int i_9, .long j_0, .int i_10, .int i_11, .int i_12, .int i_13, .ref a_6, .ref a_7, .ref a_8, .ref a_9, .ref a_10, .ref a_11, .ref a_12, .ref a_13, .ref a_14, .ref a_15, .ref a_16, .ref a_17, .ref a_18, .int i_14, .int n3, .int n4, .int i_17, .int i_18, .int i_19, .ref a_19, .int v56, .ref a_20])), (a_7, .inl (cy 1, 30, .inl (mm_g [i_21, i_22, i_23, i_24, i_25, i_26, i_27, i_28, i_29, i_30, i_31, i_32, i_33, i_34, i_35, i_36, i_37, i_38, i_39, i_40, i_41, i_42, i_43, i_44, i_45, i_46, i_47, i_48, i_49, i_50]))), (a_8, .inl (cy 1, 90, .inl f_0)), (a_13, .inl (cy 1, 450, .inl f_1)), (a_15, .inl (cy 1, 7200, .inl f_2)), (a_16, .inl (cy 1, 3, .inl f_3)), (a_18, .inl (cy 1, 8, .inl f_4)), (a_20, .inl (cy 1, 4, .inl z25_7_52))]) hS
              subst hAe
              rw [hQ]
              exact W.vret hx hb hr (fun t ht hW => ⟨⟨(n3, n4, v56, z25_7_52), rfl, trivial, by rw [ht]; exact hP, hK.warm hW, hD⟩, hS.F ht⟩) hS.2.2 dX12_rowsFrom_68
            · have q57 := mm_ltL (h := 3) (mm_nle c54) rx25_6_51 mm_k4 (by decide)
              refine lv_aload_n hx hb dX12_rowsFrom_31 rfl (lv_at hl 1 rfl) ?_
              refine va_get (D := G) (ci := 12) (v := .int i_20) (C := RX12) (T := TX12) (N := 38) hx hb hts (mm_i inlX12) hown hK.1 hP 0 rfl rfl 36 (by decide) (mm_h hts mm_w1404) (fun _ h9 => h9) rfl dX12_rowsFrom_32 ?_
              refine lv_if_ne (tgt := 58) hx hb dX12_rowsFrom_35 (by decide) (fun c58 => ?_) (fun c58 => ?_)
              · refine lv_aload_n hx hb dX12_rowsFrom_58 rfl (lv_at hl 1 rfl) ?_
                refine lv_dup hx hb dX12_rowsFrom_59 rfl ?_
                refine va_get (D := G) (ci := 12) (v := .int i_20) (C := RX12) (T := TX12) (N := 38) hx hb hts (mm_i inlX12) hown hK.1 hP 0 rfl rfl 36 (by decide) (mm_h hts mm_w1404) (fun _ h9 => h9) rfl dX12_rowsFrom_60 ?_
                refine lv_iconst (v := 1) hx hb dX12_rowsFrom_63 (by decide) ?_
                refine lv_iadd hx hb dX12_rowsFrom_64 ?_
                refine lv_topi (fun v59 ev59 => ?_)
                refine va_put (D := G) (ci := 12) (v := .int v59) (ty := tyX12 36) (C := RX12) (T := TX12) (N := 38) hx hb hts (mm_i inlX12) tyX12 tyX12_ok nmX12 hown hK.1 hP hD hS 0 rfl rfl 36 (by decide) (mm_h hts mm_w1404) (fun _ h9 => h9) rfl (tyX12_ok 36 (by decide)) rfl rfl (Nat.le_of_ble_eq_true rfl) dX12_rowsFrom_65 ?_
                clear hP hD hS
                clear H locs
                intro H locs (hP : va_P G vwCl [(a_0, .inr (12, [.int i_4, .ref a_1, .ref a_2, .ref a_3, .ref a_4, .ref a_5, .int i_5, .int i_6, .int i_7, .int i_8, .int i_9, .long j_0, .int i_10, .int i_11, .int i_12, .int i_13, .ref a_6, .ref a_7, .ref a_8, .ref a_9, .ref a_10, .ref a_11, .ref a_12, .ref a_13, .ref a_14, .ref a_15, .ref a_16, .ref a_17, .ref a_18, .int i_14, .int n3, .int n4, .int i_17, .int i_18, .int i_19, .ref a_19, .int v59, .ref a_20])), (a_7, .inl (cy 1, 30, .inl (mm_g [i_21, i_22, i_23, i_24, i_25, i_26, i_27, i_28, i_29, i_30, i_31, i_32, i_33, i_34, i_35, i_36, i_37, i_38, i_39, i_40, i_41, i_42, i_43, i_44, i_45, i_46, i_47, i_48, i_49, i_50]))), (a_8, .inl (cy 1, 90, .inl f_0)), (a_13, .inl (cy 1, 450, .inl f_1)), (a_15, .inl (cy 1, 7200, .inl f_2)), (a_16, .inl (cy 1, 3, .inl f_3)), (a_18, .inl (cy 1, 8, .inl f_4)), (a_20, .inl (cy 1, 4, .inl z25_7_52))] H) (hD : va_D A [(a_0, .inr (12, [.int i_4, .ref a_1, .ref a_2, .ref a_3, .ref a_4, .ref a_5, .int i_5, .int i_6, .int i_7, .int i_8, .int i_9, .long j_0, .int i_10, .int i_11, .int i_12, .int i_13, .ref a_6, .ref a_7, .ref a_8, .ref a_9, .ref a_10, .ref a_11, .ref a_12, .ref a_13, .ref a_14, .ref a_15, .ref a_16, .ref a_17, .ref a_18, .int i_14, .int n3, .int n4, .int i_17, .int i_18, .int i_19, .ref a_19, .int v59, .ref a_20])), (a_7, .inl (cy 1, 30, .inl (mm_g [i_21, i_22, i_23, i_24, i_25, i_26, i_27, i_28, i_29, i_30, i_31, i_32, i_33, i_34, i_35, i_36, i_37, i_38, i_39, i_40, i_41, i_42, i_43, i_44, i_45, i_46, i_47, i_48, i_49, i_50]))), (a_8, .inl (cy 1, 90, .inl f_0)), (a_13, .inl (cy 1, 450, .inl f_1)), (a_15, .inl (cy 1, 7200, .inl f_2)), (a_16, .inl (cy 1, 3, .inl f_3)), (a_18, .inl (cy 1, 8, .inl f_4)), (a_20, .inl (cy 1, 4, .inl z25_7_52))]) hS
                subst hAe
                rw [hQ]
                exact W.vret hx hb hr (fun t ht hW => ⟨⟨(n3, n4, v59, z25_7_52), rfl, trivial, by rw [ht]; exact hP, hK.warm hW, hD⟩, hS.F ht⟩) hS.2.2 dX12_rowsFrom_68
              · have q60 := mm_eqI (lo := 0) (hi := 0) c58 (mm_top i_20) mm_k0 (by decide)
                refine lv_aload_n hx hb dX12_rowsFrom_38 rfl (lv_at hl 1 rfl) ?_
                refine va_get (D := G) (ci := 12) (v := .ref a_20) (C := RX12) (T := TX12) (N := 38) hx hb hts (mm_i inlX12) hown hK.1 hP 0 rfl rfl 37 (by decide) (mm_h hts mm_w162) (fun _ h9 => h9) rfl dX12_rowsFrom_39 ?_
                refine lv_iload hx hb dX12_rowsFrom_42 (lv_at hl 0 rfl) ?_
                refine lv_aload_n hx hb dX12_rowsFrom_44 rfl (lv_at hl 1 rfl) ?_
                refine va_get (D := G) (ci := 12) (v := .ref a_18) (C := RX12) (T := TX12) (N := 38) hx hb hts (mm_i inlX12) hown hK.1 hP 0 rfl rfl 28 (by decide) (mm_h hts mm_w160) (fun _ h9 => h9) rfl dX12_rowsFrom_45 ?_
                refine lv_iload hx hb dX12_rowsFrom_48 (lv_at hl 0 rfl) ?_
                refine va_iald hx hb hK.1 hP 6 1 rfl rfl (mm_in q57 (by decide)) dX12_rowsFrom_50 ?_
                refine lv_topi (fun v61 ev61 => ?_)
                have rv61 : mm_rg v61 0 9 := mm_eqv ev61 (h39 _)
                refine va_iast hx hb hK.1 hP hD hS 7 1 rfl rfl (mm_in q57 (by decide)) dX12_rowsFrom_51 ?_
                clear hP hD hS
                clear H locs
                obtain ⟨g62, eg62⟩ : ∃ z : Nat → Int32, z = upd z25_7_52 x25_6_51.toNatClampNeg v61 := ⟨_, rfl⟩
                rw [← eg62]
                intro H locs (hP : va_P G vwCl [(a_0, .inr (12, [.int i_4, .ref a_1, .ref a_2, .ref a_3, .ref a_4, .ref a_5, .int i_5, .int i_6, .int i_7, .int i_8, .int i_9, .long j_0, .int i_10, .int i_11, .int i_12, .int i_13, .ref a_6, .ref a_7, .ref a_8, .ref a_9, .ref a_10, .ref a_11, .ref a_12, .ref a_13, .ref a_14, .ref a_15, .ref a_16, .ref a_17, .ref a_18, .int i_14, .int n3, .int n4, .int i_17, .int i_18, .int i_19, .ref a_19, .int i_20, .ref a_20])), (a_7, .inl (cy 1, 30, .inl (mm_g [i_21, i_22, i_23, i_24, i_25, i_26, i_27, i_28, i_29, i_30, i_31, i_32, i_33, i_34, i_35, i_36, i_37, i_38, i_39, i_40, i_41, i_42, i_43, i_44, i_45, i_46, i_47, i_48, i_49, i_50]))), (a_8, .inl (cy 1, 90, .inl f_0)), (a_13, .inl (cy 1, 450, .inl f_1)), (a_15, .inl (cy 1, 7200, .inl f_2)), (a_16, .inl (cy 1, 3, .inl f_3)), (a_18, .inl (cy 1, 8, .inl f_4)), (a_20, .inl (cy 1, 4, .inl g62))] H) (hD : va_D A [(a_0, .inr (12, [.int i_4, .ref a_1, .ref a_2, .ref a_3, .ref a_4, .ref a_5, .int i_5, .int i_6, .int i_7, .int i_8, .int i_9, .long j_0, .int i_10, .int i_11, .int i_12, .int i_13, .ref a_6, .ref a_7, .ref a_8, .ref a_9, .ref a_10, .ref a_11, .ref a_12, .ref a_13, .ref a_14, .ref a_15, .ref a_16, .ref a_17, .ref a_18, .int i_14, .int n3, .int n4, .int i_17, .int i_18, .int i_19, .ref a_19, .int i_20, .ref a_20])), (a_7, .inl (cy 1, 30, .inl (mm_g [i_21, i_22, i_23, i_24, i_25, i_26, i_27, i_28, i_29, i_30, i_31, i_32, i_33, i_34, i_35, i_36, i_37, i_38, i_39, i_40, i_41, i_42, i_43, i_44, i_45, i_46, i_47, i_48, i_49, i_50]))), (a_8, .inl (cy 1, 90, .inl f_0)), (a_13, .inl (cy 1, 450, .inl f_1)), (a_15, .inl (cy 1, 7200, .inl f_2)), (a_16, .inl (cy 1, 3, .inl f_3)), (a_18, .inl (cy 1, 8, .inl f_4)), (a_20, .inl (cy 1, 4, .inl g62))]) hS
                obtain ⟨v63, ev63⟩ : ∃ y : Int32, y = x25_6_51 + 1 := ⟨_, rfl⟩
                refine lv_iinc (v := v63) (lv' := [(6, .int v63), (0, .ref a_0), (1, .int 4), (2, .int i_0), (3, .int i_1), (4, .int i_2), (5, .int i_3)]) hx hb dX12_rowsFrom_52 hl (k := 0) rfl (by rw [ev63]; rfl) (by decide) rfl ?_
                clear hl
                clear ls
                intro ls hl
                have rv63 : mm_rg v63 1 4 := mm_add ev63 q57 mm_k1 (by decide) (by decide)
                have tv63 := mm_addEc ev63 q57 mm_k1 (by decide) (k := 1) (by decide)
                refine lv_goto (tgt := 25) hx hb dX12_rowsFrom_55 (by decide) ?_
                exact ih25 v63 g62 (mm_wk rv63 (by decide)) (mm_mu hm25 tv63 (by decide) (rv63).2 (by decide)) H locs hP hD hS ls (lv_sub hl [0, 1, 2, 3, 4, 5, 6] rfl)
        exact L25_52 _ 0 f_5 (mm_wk mm_k0 (by decide)) (Nat.lt_succ_self _) H locs hP hD hS ls (lv_sub hl [0, 1, 2, 3, 4, 5, 6] rfl)
      · exact mm_eqN c8.symm mm_k0 mm_k1 (by decide)

