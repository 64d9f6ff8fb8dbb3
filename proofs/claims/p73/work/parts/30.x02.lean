theorem dX7_kindTold_0 : decode cX7_kindTold 0 = .ok (.aload_n 0, 1) := by decide +kernel
theorem dX7_kindTold_1 : decode cX7_kindTold 1 = .ok (.ldc 124, 2) := by decide +kernel
theorem dX7_kindTold_3 : decode cX7_kindTold 3 = .ok (.invokevirtual 62, 3) := by decide +kernel
theorem dX7_kindTold_6 : decode cX7_kindTold 6 = .ok (.ifCond .eq 5, 3) := by decide +kernel
theorem dX7_kindTold_9 : decode cX7_kindTold 9 = .ok (.iconst 0, 1) := by decide +kernel
theorem dX7_kindTold_10 : decode cX7_kindTold 10 = .ok (.ireturn, 1) := by decide +kernel
theorem dX7_kindTold_11 : decode cX7_kindTold 11 = .ok (.aload_n 0, 1) := by decide +kernel
theorem dX7_kindTold_12 : decode cX7_kindTold 12 = .ok (.ldc 126, 2) := by decide +kernel
theorem dX7_kindTold_14 : decode cX7_kindTold 14 = .ok (.invokevirtual 62, 3) := by decide +kernel
theorem dX7_kindTold_17 : decode cX7_kindTold 17 = .ok (.ifCond .eq 5, 3) := by decide +kernel
theorem dX7_kindTold_20 : decode cX7_kindTold 20 = .ok (.iconst 1, 1) := by decide +kernel
theorem dX7_kindTold_21 : decode cX7_kindTold 21 = .ok (.ireturn, 1) := by decide +kernel
theorem dX7_kindTold_22 : decode cX7_kindTold 22 = .ok (.aload_n 0, 1) := by decide +kernel
theorem dX7_kindTold_23 : decode cX7_kindTold 23 = .ok (.ldc 128, 2) := by decide +kernel
theorem dX7_kindTold_25 : decode cX7_kindTold 25 = .ok (.invokevirtual 62, 3) := by decide +kernel
theorem dX7_kindTold_28 : decode cX7_kindTold 28 = .ok (.ifCond .eq 5, 3) := by decide +kernel
theorem dX7_kindTold_31 : decode cX7_kindTold 31 = .ok (.iconst 2, 1) := by decide +kernel
theorem dX7_kindTold_32 : decode cX7_kindTold 32 = .ok (.ireturn, 1) := by decide +kernel
theorem dX7_kindTold_33 : decode cX7_kindTold 33 = .ok (.aload_n 0, 1) := by decide +kernel
theorem dX7_kindTold_34 : decode cX7_kindTold 34 = .ok (.ldc 130, 2) := by decide +kernel
theorem dX7_kindTold_36 : decode cX7_kindTold 36 = .ok (.invokevirtual 62, 3) := by decide +kernel
theorem dX7_kindTold_39 : decode cX7_kindTold 39 = .ok (.ifCond .eq 5, 3) := by decide +kernel
theorem dX7_kindTold_42 : decode cX7_kindTold 42 = .ok (.iconst 3, 1) := by decide +kernel
theorem dX7_kindTold_43 : decode cX7_kindTold 43 = .ok (.ireturn, 1) := by decide +kernel
theorem dX7_kindTold_44 : decode cX7_kindTold 44 = .ok (.aload_n 0, 1) := by decide +kernel
theorem dX7_kindTold_45 : decode cX7_kindTold 45 = .ok (.ldc 132, 2) := by decide +kernel
theorem dX7_kindTold_47 : decode cX7_kindTold 47 = .ok (.invokevirtual 62, 3) := by decide +kernel
theorem dX7_kindTold_50 : decode cX7_kindTold 50 = .ok (.ifCond .eq 7, 3) := by decide +kernel
theorem dX7_kindTold_53 : decode cX7_kindTold 53 = .ok (.iconst 4, 1) := by decide +kernel
theorem dX7_kindTold_54 : decode cX7_kindTold 54 = .ok (.goto 4, 3) := by decide +kernel
theorem dX7_kindTold_57 : decode cX7_kindTold 57 = .ok (.iconst (-1), 1) := by decide +kernel
theorem dX7_kindTold_58 : decode cX7_kindTold 58 = .ok (.ireturn, 1) := by decide +kernel
theorem dX7_takeBookLine_0 : decode cX7_takeBookLine 0 = .ok (.aload_n 0, 1) := by decide +kernel
theorem dX7_takeBookLine_1 : decode cX7_takeBookLine 1 = .ok (.aload_n 0, 1) := by decide +kernel
theorem dX7_takeBookLine_2 : decode cX7_takeBookLine 2 = .ok (.ldc 95, 2) := by decide +kernel
theorem dX7_takeBookLine_4 : decode cX7_takeBookLine 4 = .ok (.invokevirtual 62, 3) := by decide +kernel
theorem dX7_takeBookLine_7 : decode cX7_takeBookLine 7 = .ok (.invokevirtual 44, 3) := by decide +kernel
theorem dX7_takeBookLine_10 : decode cX7_takeBookLine 10 = .ok (.aload_n 0, 1) := by decide +kernel
theorem dX7_takeBookLine_11 : decode cX7_takeBookLine 11 = .ok (.aload_n 0, 1) := by decide +kernel
theorem dX7_takeBookLine_12 : decode cX7_takeBookLine 12 = .ok (.ldc 97, 2) := by decide +kernel
theorem dX7_takeBookLine_14 : decode cX7_takeBookLine 14 = .ok (.invokevirtual 62, 3) := by decide +kernel
theorem dX7_takeBookLine_17 : decode cX7_takeBookLine 17 = .ok (.invokevirtual 44, 3) := by decide +kernel
theorem dX7_takeBookLine_20 : decode cX7_takeBookLine 20 = .ok (.aload_n 0, 1) := by decide +kernel
theorem dX7_takeBookLine_21 : decode cX7_takeBookLine 21 = .ok (.getfield 12, 3) := by decide +kernel
theorem dX7_takeBookLine_24 : decode cX7_takeBookLine 24 = .ok (.aload_n 0, 1) := by decide +kernel
theorem dX7_takeBookLine_25 : decode cX7_takeBookLine 25 = .ok (.iconst 0, 1) := by decide +kernel
theorem dX7_takeBookLine_26 : decode cX7_takeBookLine 26 = .ok (.bipush 10, 2) := by decide +kernel
theorem dX7_takeBookLine_28 : decode cX7_takeBookLine 28 = .ok (.invokevirtual 99, 3) := by decide +kernel
theorem dX7_takeBookLine_31 : decode cX7_takeBookLine 31 = .ok (.putfield 103, 3) := by decide +kernel
theorem dX7_takeBookLine_34 : decode cX7_takeBookLine 34 = .ok (.aload_n 0, 1) := by decide +kernel
theorem dX7_takeBookLine_35 : decode cX7_takeBookLine 35 = .ok (.aload_n 0, 1) := by decide +kernel
theorem dX7_takeBookLine_36 : decode cX7_takeBookLine 36 = .ok (.ldc 105, 2) := by decide +kernel
theorem dX7_takeBookLine_38 : decode cX7_takeBookLine 38 = .ok (.invokevirtual 62, 3) := by decide +kernel
theorem dX7_takeBookLine_41 : decode cX7_takeBookLine 41 = .ok (.invokevirtual 44, 3) := by decide +kernel
theorem dX7_takeBookLine_44 : decode cX7_takeBookLine 44 = .ok (.aload_n 0, 1) := by decide +kernel
theorem dX7_takeBookLine_45 : decode cX7_takeBookLine 45 = .ok (.getfield 12, 3) := by decide +kernel
theorem dX7_takeBookLine_48 : decode cX7_takeBookLine 48 = .ok (.aload_n 0, 1) := by decide +kernel
theorem dX7_takeBookLine_49 : decode cX7_takeBookLine 49 = .ok (.iconst 0, 1) := by decide +kernel
theorem dX7_takeBookLine_50 : decode cX7_takeBookLine 50 = .ok (.bipush 99, 2) := by decide +kernel
theorem dX7_takeBookLine_52 : decode cX7_takeBookLine 52 = .ok (.invokevirtual 99, 3) := by decide +kernel
theorem dX7_takeBookLine_55 : decode cX7_takeBookLine 55 = .ok (.putfield 51, 3) := by decide +kernel
theorem dX7_takeBookLine_58 : decode cX7_takeBookLine 58 = .ok (.return_, 1) := by decide +kernel
theorem dX7_takeLandLine_0 : decode cX7_takeLandLine 0 = .ok (.aload_n 0, 1) := by decide +kernel
theorem dX7_takeLandLine_1 : decode cX7_takeLandLine 1 = .ok (.getfield 12, 3) := by decide +kernel
theorem dX7_takeLandLine_4 : decode cX7_takeLandLine 4 = .ok (.getfield 80, 3) := by decide +kernel
theorem dX7_takeLandLine_7 : decode cX7_takeLandLine 7 = .ok (.iconst 3, 1) := by decide +kernel
theorem dX7_takeLandLine_8 : decode cX7_takeLandLine 8 = .ok (.if_icmp .lt 11, 3) := by decide +kernel
theorem dX7_takeLandLine_11 : decode cX7_takeLandLine 11 = .ok (.aload_n 0, 1) := by decide +kernel
theorem dX7_takeLandLine_12 : decode cX7_takeLandLine 12 = .ok (.iconst 3, 1) := by decide +kernel
theorem dX7_takeLandLine_13 : decode cX7_takeLandLine 13 = .ok (.invokevirtual 92, 3) := by decide +kernel
theorem dX7_takeLandLine_16 : decode cX7_takeLandLine 16 = .ok (.goto 20, 3) := by decide +kernel
theorem dX7_takeLandLine_19 : decode cX7_takeLandLine 19 = .ok (.aload_n 0, 1) := by decide +kernel
theorem dX7_takeLandLine_20 : decode cX7_takeLandLine 20 = .ok (.invokevirtual 35, 3) := by decide +kernel
theorem dX7_takeLandLine_23 : decode cX7_takeLandLine 23 = .ok (.aload_n 0, 1) := by decide +kernel
theorem dX7_takeLandLine_24 : decode cX7_takeLandLine 24 = .ok (.getfield 12, 3) := by decide +kernel
theorem dX7_takeLandLine_27 : decode cX7_takeLandLine 27 = .ok (.dup, 1) := by decide +kernel
theorem dX7_takeLandLine_28 : decode cX7_takeLandLine 28 = .ok (.getfield 80, 3) := by decide +kernel
theorem dX7_takeLandLine_31 : decode cX7_takeLandLine 31 = .ok (.iconst 1, 1) := by decide +kernel
theorem dX7_takeLandLine_32 : decode cX7_takeLandLine 32 = .ok (.iadd, 1) := by decide +kernel
theorem dX7_takeLandLine_33 : decode cX7_takeLandLine 33 = .ok (.putfield 80, 3) := by decide +kernel
theorem dX7_takeLandLine_36 : decode cX7_takeLandLine 36 = .ok (.return_, 1) := by decide +kernel
theorem dX7_takeSenseLine_0 : decode cX7_takeSenseLine 0 = .ok (.aload_n 0, 1) := by decide +kernel
theorem dX7_takeSenseLine_1 : decode cX7_takeSenseLine 1 = .ok (.getfield 12, 3) := by decide +kernel
theorem dX7_takeSenseLine_4 : decode cX7_takeSenseLine 4 = .ok (.getfield 80, 3) := by decide +kernel
theorem dX7_takeSenseLine_7 : decode cX7_takeSenseLine 7 = .ok (.ifCond .gt 13, 3) := by decide +kernel
theorem dX7_takeSenseLine_10 : decode cX7_takeSenseLine 10 = .ok (.aload_n 0, 1) := by decide +kernel
theorem dX7_takeSenseLine_11 : decode cX7_takeSenseLine 11 = .ok (.getfield 12, 3) := by decide +kernel
theorem dX7_takeSenseLine_14 : decode cX7_takeSenseLine 14 = .ok (.getfield 107, 3) := by decide +kernel
theorem dX7_takeSenseLine_17 : decode cX7_takeSenseLine 17 = .ok (.ifCond .le 11, 3) := by decide +kernel
theorem dX7_takeSenseLine_20 : decode cX7_takeSenseLine 20 = .ok (.aload_n 0, 1) := by decide +kernel
theorem dX7_takeSenseLine_21 : decode cX7_takeSenseLine 21 = .ok (.iconst 1, 1) := by decide +kernel
theorem dX7_takeSenseLine_22 : decode cX7_takeSenseLine 22 = .ok (.invokevirtual 92, 3) := by decide +kernel
theorem dX7_takeSenseLine_25 : decode cX7_takeSenseLine 25 = .ok (.goto 120, 3) := by decide +kernel
theorem dX7_takeSenseLine_28 : decode cX7_takeSenseLine 28 = .ok (.aload_n 0, 1) := by decide +kernel
theorem dX7_takeSenseLine_29 : decode cX7_takeSenseLine 29 = .ok (.getfield 12, 3) := by decide +kernel
theorem dX7_takeSenseLine_32 : decode cX7_takeSenseLine 32 = .ok (.getfield 110, 3) := by decide +kernel
theorem dX7_takeSenseLine_35 : decode cX7_takeSenseLine 35 = .ok (.bipush 9, 2) := by decide +kernel
theorem dX7_takeSenseLine_37 : decode cX7_takeSenseLine 37 = .ok (.if_icmp .lt 11, 3) := by decide +kernel
theorem dX7_takeSenseLine_40 : decode cX7_takeSenseLine 40 = .ok (.aload_n 0, 1) := by decide +kernel
theorem dX7_takeSenseLine_41 : decode cX7_takeSenseLine 41 = .ok (.iconst 3, 1) := by decide +kernel
theorem dX7_takeSenseLine_42 : decode cX7_takeSenseLine 42 = .ok (.invokevirtual 92, 3) := by decide +kernel
theorem dX7_takeSenseLine_45 : decode cX7_takeSenseLine 45 = .ok (.goto 100, 3) := by decide +kernel
theorem dX7_takeSenseLine_48 : decode cX7_takeSenseLine 48 = .ok (.aload_n 0, 1) := by decide +kernel
theorem dX7_takeSenseLine_49 : decode cX7_takeSenseLine 49 = .ok (.invokevirtual 35, 3) := by decide +kernel
theorem dX7_takeSenseLine_52 : decode cX7_takeSenseLine 52 = .ok (.aload_n 0, 1) := by decide +kernel
theorem dX7_takeSenseLine_53 : decode cX7_takeSenseLine 53 = .ok (.invokevirtual 113, 3) := by decide +kernel
theorem dX7_takeSenseLine_56 : decode cX7_takeSenseLine 56 = .ok (.istore_n 1, 1) := by decide +kernel
theorem dX7_takeSenseLine_57 : decode cX7_takeSenseLine 57 = .ok (.aload_n 0, 1) := by decide +kernel
theorem dX7_takeSenseLine_58 : decode cX7_takeSenseLine 58 = .ok (.iload_n 1, 1) := by decide +kernel
theorem dX7_takeSenseLine_59 : decode cX7_takeSenseLine 59 = .ok (.iconst (-1), 1) := by decide +kernel
theorem dX7_takeSenseLine_60 : decode cX7_takeSenseLine 60 = .ok (.if_icmp .eq 7, 3) := by decide +kernel
theorem dX7_takeSenseLine_63 : decode cX7_takeSenseLine 63 = .ok (.iconst 1, 1) := by decide +kernel
theorem dX7_takeSenseLine_64 : decode cX7_takeSenseLine 64 = .ok (.goto 4, 3) := by decide +kernel
theorem dX7_takeSenseLine_67 : decode cX7_takeSenseLine 67 = .ok (.iconst 0, 1) := by decide +kernel
theorem dX7_takeSenseLine_68 : decode cX7_takeSenseLine 68 = .ok (.invokevirtual 44, 3) := by decide +kernel
theorem dX7_takeSenseLine_71 : decode cX7_takeSenseLine 71 = .ok (.iload_n 1, 1) := by decide +kernel
theorem dX7_takeSenseLine_72 : decode cX7_takeSenseLine 72 = .ok (.ifCond .eq 8, 3) := by decide +kernel
theorem dX7_takeSenseLine_75 : decode cX7_takeSenseLine 75 = .ok (.iload_n 1, 1) := by decide +kernel
theorem dX7_takeSenseLine_76 : decode cX7_takeSenseLine 76 = .ok (.iconst 1, 1) := by decide +kernel
theorem dX7_takeSenseLine_77 : decode cX7_takeSenseLine 77 = .ok (.if_icmp .ne 7, 3) := by decide +kernel
theorem dX7_takeSenseLine_80 : decode cX7_takeSenseLine 80 = .ok (.iconst 1, 1) := by decide +kernel
theorem dX7_takeSenseLine_81 : decode cX7_takeSenseLine 81 = .ok (.goto 4, 3) := by decide +kernel
theorem dX7_takeSenseLine_84 : decode cX7_takeSenseLine 84 = .ok (.iconst 0, 1) := by decide +kernel
theorem dX7_takeSenseLine_85 : decode cX7_takeSenseLine 85 = .ok (.istore_n 2, 1) := by decide +kernel
theorem dX7_takeSenseLine_86 : decode cX7_takeSenseLine 86 = .ok (.aload_n 0, 1) := by decide +kernel
theorem dX7_takeSenseLine_87 : decode cX7_takeSenseLine 87 = .ok (.getfield 12, 3) := by decide +kernel
theorem dX7_takeSenseLine_90 : decode cX7_takeSenseLine 90 = .ok (.getfield 117, 3) := by decide +kernel
theorem dX7_takeSenseLine_93 : decode cX7_takeSenseLine 93 = .ok (.aload_n 0, 1) := by decide +kernel
theorem dX7_takeSenseLine_94 : decode cX7_takeSenseLine 94 = .ok (.getfield 12, 3) := by decide +kernel
theorem dX7_takeSenseLine_97 : decode cX7_takeSenseLine 97 = .ok (.getfield 110, 3) := by decide +kernel
theorem dX7_takeSenseLine_100 : decode cX7_takeSenseLine 100 = .ok (.iload_n 1, 1) := by decide +kernel
theorem dX7_takeSenseLine_101 : decode cX7_takeSenseLine 101 = .ok (.iastore, 1) := by decide +kernel
theorem dX7_takeSenseLine_102 : decode cX7_takeSenseLine 102 = .ok (.aload_n 0, 1) := by decide +kernel
theorem dX7_takeSenseLine_103 : decode cX7_takeSenseLine 103 = .ok (.getfield 12, 3) := by decide +kernel
theorem dX7_takeSenseLine_106 : decode cX7_takeSenseLine 106 = .ok (.getfield 121, 3) := by decide +kernel
theorem dX7_takeSenseLine_109 : decode cX7_takeSenseLine 109 = .ok (.aload_n 0, 1) := by decide +kernel
theorem dX7_takeSenseLine_110 : decode cX7_takeSenseLine 110 = .ok (.getfield 12, 3) := by decide +kernel
theorem dX7_takeSenseLine_113 : decode cX7_takeSenseLine 113 = .ok (.getfield 110, 3) := by decide +kernel
theorem dX7_takeSenseLine_116 : decode cX7_takeSenseLine 116 = .ok (.iload_n 2, 1) := by decide +kernel
theorem dX7_takeSenseLine_117 : decode cX7_takeSenseLine 117 = .ok (.ifCond .eq 13, 3) := by decide +kernel
theorem dX7_takeSenseLine_120 : decode cX7_takeSenseLine 120 = .ok (.aload_n 0, 1) := by decide +kernel
theorem dX7_takeSenseLine_121 : decode cX7_takeSenseLine 121 = .ok (.iconst 0, 1) := by decide +kernel
theorem dX7_takeSenseLine_122 : decode cX7_takeSenseLine 122 = .ok (.bipush 99, 2) := by decide +kernel
theorem dX7_takeSenseLine_124 : decode cX7_takeSenseLine 124 = .ok (.invokevirtual 99, 3) := by decide +kernel
theorem dX7_takeSenseLine_127 : decode cX7_takeSenseLine 127 = .ok (.goto 4, 3) := by decide +kernel
theorem dX7_takeSenseLine_130 : decode cX7_takeSenseLine 130 = .ok (.iconst 0, 1) := by decide +kernel
theorem dX7_takeSenseLine_131 : decode cX7_takeSenseLine 131 = .ok (.iastore, 1) := by decide +kernel
theorem dX7_takeSenseLine_132 : decode cX7_takeSenseLine 132 = .ok (.aload_n 0, 1) := by decide +kernel
theorem dX7_takeSenseLine_133 : decode cX7_takeSenseLine 133 = .ok (.getfield 12, 3) := by decide +kernel
theorem dX7_takeSenseLine_136 : decode cX7_takeSenseLine 136 = .ok (.dup, 1) := by decide +kernel
theorem dX7_takeSenseLine_137 : decode cX7_takeSenseLine 137 = .ok (.getfield 110, 3) := by decide +kernel
theorem dX7_takeSenseLine_140 : decode cX7_takeSenseLine 140 = .ok (.iconst 1, 1) := by decide +kernel
theorem dX7_takeSenseLine_141 : decode cX7_takeSenseLine 141 = .ok (.iadd, 1) := by decide +kernel
theorem dX7_takeSenseLine_142 : decode cX7_takeSenseLine 142 = .ok (.putfield 110, 3) := by decide +kernel
theorem dX7_takeSenseLine_145 : decode cX7_takeSenseLine 145 = .ok (.return_, 1) := by decide +kernel
theorem mm_k99 : mm_rg 99 99 99 := ⟨by decide, by decide⟩
theorem hd_X7_kindTold : yX7_kindTold.cls = RX7 ∧ yX7_kindTold.cls ≠ "java/lang/invoke/MethodHandle" ∧ yX7_kindTold.cls ≠ "java/lang/invoke/VarHandle" ∧ (parseMethodDescriptor yX7_kindTold.desc).map (fun d => d.parameters.length) = some 0 := by decide +kernel
set_option maxHeartbeats 4000000 in
set_option maxRecDepth 100000 in
theorem K175_X7_takeLandLine (l : Launch) (G : va_G) (cy : Nat → ClassId) (sz : Nat) (a_0 : Nat) (a_1 : Nat) (a_2 : Nat) (i_0 : Int32) (f_0 : Nat → Int32) (a_3 : Nat) (i_1 : Int32) (i_2 : Int32) (i_3 : Int32) (i_4 : Int32) (i_5 : Int32) (i_6 : Int32) (i_7 : Int32) (i_8 : Int32) (i_9 : Int32) (i_10 : Int32) (i_11 : Int32) (i_12 : Int32) (i_13 : Int32) (i_14 : Int32) (a_4 : Nat) (a_5 : Nat) (a_6 : Nat) (a_7 : Nat) (a_8 : Nat) (a_9 : Nat) (a_10 : Nat) (a_11 : Nat) (a_12 : Nat) (a_13 : Nat) (h0 : mm_rg i_0 0 600) (h1 : mm_ar f_0 (-128) 127) (h2 : mm_rg i_1 0 3) (h3 : mm_rg i_3 0 5) (h4 : mm_rg i_4 0 600) (h5 : mm_rg i_5 0 600) (h6 : mm_rg i_12 0 3)  : mm_CV l yX7_takeLandLine (mm_ws yX7_takeLandLine cX7_takeLandLine 1 (none)) ({ frames := 2, cells := 0, slots := 0, locals := 45 } : Room) G cy sz [(a_1, .inr (9, [.ref a_2, .int i_0])), (a_2, .inl (cy 0, 600, .inl f_0)), (a_0, .inr (7, [.ref a_1, .ref a_3, .int i_1, .int i_2, .int i_3, .int i_4, .int i_5, .int i_6])), (a_3, .inr (0, [.int i_7, .int i_8, .int i_9, .int i_10, .int i_11, .int i_12, .int i_13, .int i_14, .ref a_4, .ref a_5, .ref a_6, .ref a_7, .ref a_8, .ref a_9, .ref a_10, .ref a_11, .ref a_12, .ref a_13]))] [.ref a_0] (fun u : Int32 × Int32 × Int32 × Int32 × Int32 × Int32 × Int32 => [(a_1, .inr (9, [.ref a_2, .int i_0])), (a_2, .inl (cy 0, 600, .inl f_0)), (a_0, .inr (7, [.ref a_1, .ref a_3, .int u.1, .int u.2.1, .int u.2.2.1, .int u.2.2.2.1, .int u.2.2.2.2.1, .int u.2.2.2.2.2.1])), (a_3, .inr (0, [.int i_7, .int i_8, .int i_9, .int i_10, .int i_11, .int u.2.2.2.2.2.2, .int i_13, .int i_14, .ref a_4, .ref a_5, .ref a_6, .ref a_7, .ref a_8, .ref a_9, .ref a_10, .ref a_11, .ref a_12, .ref a_13]))]) (fun u : Int32 × Int32 × Int32 × Int32 × Int32 × Int32 × Int32 => mm_rg u.1 0 3 ∧ mm_rg u.2.2.1 0 5 ∧ mm_rg u.2.2.2.1 0 600 ∧ mm_rg u.2.2.2.2.1 0 600 ∧ mm_rg u.2.2.2.2.2.2 1 3) 0 0 := by
  refine mm_begin (lv := [(0, .ref a_0)]) (by decide) (Nat.le_of_ble_eq_true rfl) rfl ?_
  intro p e s m below meth c A ls R args Q H locs hRe hQ hAe hx hb hr hlocks hml hown hnm hts hsz hA hS hP hK hD hZ hl
  have hRf : R.frames = 2 := by rw [hRe]
  have hRl : R.locals = 45 := by rw [hRe]
  have hRc : R.cells = 0 := by rw [hRe]
  have hRs : R.slots = 0 := by rw [hRe]
  refine lv_aload_n hx hb dX7_takeLandLine_0 rfl (lv_at hl 0 rfl) ?_
  refine va_get (D := G) (ci := 7) (v := .ref a_3) (C := RX7) (T := TX7) (N := 8) hx hb hts (mm_i inlX7) hown hK.1 hP 2 rfl rfl 1 (by decide) (mm_h hts mm_w65) (fun _ h9 => h9) rfl dX7_takeLandLine_1 ?_
  refine va_get (D := G) (ci := 0) (v := .int i_12) (C := RX0) (T := TX0) (N := 18) hx hb hts (mm_i inlX0) hown hK.1 hP 3 rfl rfl 5 (by decide) (mm_h hts mm_w248) (fun _ h9 => h9) rfl dX7_takeLandLine_4 ?_
  refine lv_iconst (v := 3) hx hb dX7_takeLandLine_7 (by decide) ?_
  refine lv_icmp_lt (tgt := 19) hx hb dX7_takeLandLine_8 (by decide) (fun c1 => ?_) (fun c1 => ?_)
  · have q2 := mm_ltL (h := 2) (mm_lt c1) h6 mm_k3 (by decide)
    refine lv_aload_n hx hb dX7_takeLandLine_19 rfl (lv_at hl 0 rfl) ?_
    refine mm_finv (va_runV (As := []) (rest := []) ⟨hx, hb, hml, hown, hts⟩ (K9_X7_nextToken l G cy H.size a_0 a_1 a_2 i_0 f_0 a_3 i_1 i_2 i_3 i_4 i_5 i_6 h0 h1 h3 h4 h5) (cwV 0 hts (mm_gV mm_w227 mm_w228 mm_w229 mm_w19 mm_w230) rfl rfl rfl hd_X7_nextToken ⟨by rw [hRf]; exact Nat.le_of_ble_eq_true rfl, by rw [hRl]; exact Nat.le_of_ble_eq_true rfl⟩) (mm_preV hK hZ hS hA hP hD [0, 1, 2] rfl rfl 2 rfl rfl rfl) rfl rfl hl.1 rfl (lv_room (Nat.le_of_ble_eq_true rfl)) dX7_takeLandLine_20 ⟨by rw [hRc]; exact Nat.le_of_ble_eq_true rfl, by rw [hRs]; exact Nat.le_of_ble_eq_true rfl⟩) hP hD hS hA (fun u : Int32 × Int32 × Int32 × Int32 => [(a_1, .inr (9, [.ref a_2, .int i_0])), (a_2, .inl (cy 0, 600, .inl f_0)), (a_0, .inr (7, [.ref a_1, .ref a_3, .int i_1, .int i_2, .int u.1, .int u.2.1, .int u.2.2.1, .int u.2.2.2])), (a_3, .inr (0, [.int i_7, .int i_8, .int i_9, .int i_10, .int i_11, .int i_12, .int i_13, .int i_14, .ref a_4, .ref a_5, .ref a_6, .ref a_7, .ref a_8, .ref a_9, .ref a_10, .ref a_11, .ref a_12, .ref a_13]))]) [0, 1, 2] [3] (n := 4) (fun _ => rfl) (by decide +kernel) (by decide +kernel) rfl (fun _ => rfl) (wr := [(a_3, .inr (0, [.int i_7, .int i_8, .int i_9, .int i_10, .int i_11, .int i_12, .int i_13, .int i_14, .ref a_4, .ref a_5, .ref a_6, .ref a_7, .ref a_8, .ref a_9, .ref a_10, .ref a_11, .ref a_12, .ref a_13]))]) rfl (fun _ => rfl) (fun _ => rfl) ?_
    clear hP hD hS
    clear H locs
    intro u
    obtain ⟨n3, n4, n5, n6⟩ := u
    intro H locs hw (hP : va_P G vwCl [(a_1, .inr (9, [.ref a_2, .int i_0])), (a_2, .inl (cy 0, 600, .inl f_0)), (a_0, .inr (7, [.ref a_1, .ref a_3, .int i_1, .int i_2, .int n3, .int n4, .int n5, .int n6])), (a_3, .inr (0, [.int i_7, .int i_8, .int i_9, .int i_10, .int i_11, .int i_12, .int i_13, .int i_14, .ref a_4, .ref a_5, .ref a_6, .ref a_7, .ref a_8, .ref a_9, .ref a_10, .ref a_11, .ref a_12, .ref a_13]))] H) (hD : va_D A [(a_1, .inr (9, [.ref a_2, .int i_0])), (a_2, .inl (cy 0, 600, .inl f_0)), (a_0, .inr (7, [.ref a_1, .ref a_3, .int i_1, .int i_2, .int n3, .int n4, .int n5, .int n6])), (a_3, .inr (0, [.int i_7, .int i_8, .int i_9, .int i_10, .int i_11, .int i_12, .int i_13, .int i_14, .ref a_4, .ref a_5, .ref a_6, .ref a_7, .ref a_8, .ref a_9, .ref a_10, .ref a_11, .ref a_12, .ref a_13]))]) hS
    obtain ⟨w7, w8, w9⟩ := hw
    refine lv_aload_n hx hb dX7_takeLandLine_23 rfl (lv_at hl 0 rfl) ?_
    refine va_get (D := G) (ci := 7) (v := .ref a_3) (C := RX7) (T := TX7) (N := 8) hx hb hts (mm_i inlX7) hown hK.1 hP 2 rfl rfl 1 (by decide) (mm_h hts mm_w65) (fun _ h9 => h9) rfl dX7_takeLandLine_24 ?_
    refine lv_dup hx hb dX7_takeLandLine_27 rfl ?_
    refine va_get (D := G) (ci := 0) (v := .int i_12) (C := RX0) (T := TX0) (N := 18) hx hb hts (mm_i inlX0) hown hK.1 hP 3 rfl rfl 5 (by decide) (mm_h hts mm_w248) (fun _ h9 => h9) rfl dX7_takeLandLine_28 ?_
    refine lv_iconst (v := 1) hx hb dX7_takeLandLine_31 (by decide) ?_
    refine lv_iadd hx hb dX7_takeLandLine_32 ?_
    refine lv_topi (fun v10 ev10 => ?_)
    have rv10 : mm_rg v10 1 3 := mm_add ev10 q2 mm_k1 (by decide) (by decide)
    have tv10 := mm_addEc ev10 q2 mm_k1 (by decide) (k := 1) (by decide)
    refine va_put (D := G) (ci := 0) (v := .int v10) (ty := tyX0 5) (C := RX0) (T := TX0) (N := 18) hx hb hts (mm_i inlX0) tyX0 tyX0_ok nmX0 hown hK.1 hP hD hS 3 rfl rfl 5 (by decide) (mm_h hts mm_w248) (fun _ h9 => h9) rfl (tyX0_ok 5 (by decide)) rfl rfl (Nat.le_of_ble_eq_true rfl) dX7_takeLandLine_33 ?_
    clear hP hD hS
    clear H locs
    intro H locs (hP : va_P G vwCl [(a_1, .inr (9, [.ref a_2, .int i_0])), (a_2, .inl (cy 0, 600, .inl f_0)), (a_0, .inr (7, [.ref a_1, .ref a_3, .int i_1, .int i_2, .int n3, .int n4, .int n5, .int n6])), (a_3, .inr (0, [.int i_7, .int i_8, .int i_9, .int i_10, .int i_11, .int v10, .int i_13, .int i_14, .ref a_4, .ref a_5, .ref a_6, .ref a_7, .ref a_8, .ref a_9, .ref a_10, .ref a_11, .ref a_12, .ref a_13]))] H) (hD : va_D A [(a_1, .inr (9, [.ref a_2, .int i_0])), (a_2, .inl (cy 0, 600, .inl f_0)), (a_0, .inr (7, [.ref a_1, .ref a_3, .int i_1, .int i_2, .int n3, .int n4, .int n5, .int n6])), (a_3, .inr (0, [.int i_7, .int i_8, .int i_9, .int i_10, .int i_11, .int v10, .int i_13, .int i_14, .ref a_4, .ref a_5, .ref a_6, .ref a_7, .ref a_8, .ref a_9, .ref a_10, .ref a_11, .ref a_12, .ref a_13]))]) hS
    subst hAe
    rw [hQ]
    exact W.vret hx hb hr (fun t ht hW => ⟨⟨(i_1, i_2, n3, n4, n5, n6, v10), rfl, ⟨h2, w7, w8, w9, rv10⟩, by rw [ht]; exact hP, hK.warm hW, hD⟩, hS.F ht⟩) hS.2.2 dX7_takeLandLine_36
  · have q11 := mm_leR (mm_nlt c1) mm_k3 h6
    refine lv_aload_n hx hb dX7_takeLandLine_11 rfl (lv_at hl 0 rfl) ?_
    refine lv_iconst (v := 3) hx hb dX7_takeLandLine_12 (by decide) ?_
    refine mm_finv (va_runV (As := [.int 3]) (rest := []) ⟨hx, hb, hml, hown, hts⟩ (K105_X7_blame l G cy H.size a_0 a_1 a_3 i_1 i_2 i_3 i_4 i_5 i_6 h2 h4) (cwV 1 hts (mm_gV mm_w311 mm_w312 mm_w313 mm_w19 mm_w314) rfl rfl rfl hd_X7_blame ⟨by rw [hRf]; exact Nat.le_of_ble_eq_true rfl, by rw [hRl]; exact Nat.le_of_ble_eq_true rfl⟩) (mm_preV hK hZ hS hA hP hD [2] rfl rfl 2 rfl rfl rfl) rfl rfl hl.1 rfl (lv_room (Nat.le_of_ble_eq_true rfl)) dX7_takeLandLine_13 ⟨by rw [hRc]; exact Nat.le_of_ble_eq_true rfl, by rw [hRs]; exact Nat.le_of_ble_eq_true rfl⟩) hP hD hS hA (fun u : Int32 × Int32 => [(a_1, .inr (9, [.ref a_2, .int i_0])), (a_2, .inl (cy 0, 600, .inl f_0)), (a_0, .inr (7, [.ref a_1, .ref a_3, .int u.1, .int u.2, .int i_3, .int i_4, .int i_5, .int i_6])), (a_3, .inr (0, [.int i_7, .int i_8, .int i_9, .int i_10, .int i_11, .int i_12, .int i_13, .int i_14, .ref a_4, .ref a_5, .ref a_6, .ref a_7, .ref a_8, .ref a_9, .ref a_10, .ref a_11, .ref a_12, .ref a_13]))]) [2] [0, 1, 3] (n := 4) (fun _ => rfl) (by decide +kernel) (by decide +kernel) rfl (fun _ => rfl) (wr := [(a_1, .inr (9, [.ref a_2, .int i_0])), (a_2, .inl (cy 0, 600, .inl f_0)), (a_3, .inr (0, [.int i_7, .int i_8, .int i_9, .int i_10, .int i_11, .int i_12, .int i_13, .int i_14, .ref a_4, .ref a_5, .ref a_6, .ref a_7, .ref a_8, .ref a_9, .ref a_10, .ref a_11, .ref a_12, .ref a_13]))]) rfl (fun _ => rfl) (fun _ => rfl) ?_
    clear hP hD hS
    clear H locs
    intro u
    obtain ⟨n12, n13⟩ := u
    intro H locs hw (hP : va_P G vwCl [(a_1, .inr (9, [.ref a_2, .int i_0])), (a_2, .inl (cy 0, 600, .inl f_0)), (a_0, .inr (7, [.ref a_1, .ref a_3, .int n12, .int n13, .int i_3, .int i_4, .int i_5, .int i_6])), (a_3, .inr (0, [.int i_7, .int i_8, .int i_9, .int i_10, .int i_11, .int i_12, .int i_13, .int i_14, .ref a_4, .ref a_5, .ref a_6, .ref a_7, .ref a_8, .ref a_9, .ref a_10, .ref a_11, .ref a_12, .ref a_13]))] H) (hD : va_D A [(a_1, .inr (9, [.ref a_2, .int i_0])), (a_2, .inl (cy 0, 600, .inl f_0)), (a_0, .inr (7, [.ref a_1, .ref a_3, .int n12, .int n13, .int i_3, .int i_4, .int i_5, .int i_6])), (a_3, .inr (0, [.int i_7, .int i_8, .int i_9, .int i_10, .int i_11, .int i_12, .int i_13, .int i_14, .ref a_4, .ref a_5, .ref a_6, .ref a_7, .ref a_8, .ref a_9, .ref a_10, .ref a_11, .ref a_12, .ref a_13]))]) hS
    have w14 := hw
    refine lv_goto (tgt := 36) hx hb dX7_takeLandLine_16 (by decide) ?_
    subst hAe
    rw [hQ]
    exact W.vret hx hb hr (fun t ht hW => ⟨⟨(n12, n13, i_3, i_4, i_5, i_6, i_12), rfl, ⟨(mm_wk w14 (by decide)), h3, h4, h5, (mm_wk q11 (by decide))⟩, by rw [ht]; exact hP, hK.warm hW, hD⟩, hS.F ht⟩) hS.2.2 dX7_takeLandLine_36

set_option maxHeartbeats 4000000 in
set_option maxRecDepth 100000 in
theorem K176_J0_coder_7d493 (l : Launch) (G : va_G) (cy : Nat → ClassId) (sz : Nat)    : mm_CI l yJ0_coder_7d493 (mm_ws yJ0_coder_7d493 cJ0_coder_7d493 1 (some .byte)) ({ frames := 0, cells := 0, slots := 0, locals := 0 } : Room) G cy sz [] [.ref (cy 108)] (fun u : Unit => []) (fun (r : Int32) (u : Unit) => 0 = r) 0 0 := by
  refine mm_begin (lv := [(0, .ref (cy 108))]) (by decide) (Nat.le_of_ble_eq_true rfl) rfl ?_
  intro p e s m below meth c A ls R args Q H locs hRe hQ hAe hx hb hr hlocks hml hown hnm hts hsz hA hS hP hK hD hZ hl
  have hRf : R.frames = 0 := by rw [hRe]
  have hRl : R.locals = 0 := by rw [hRe]
  have hRc : R.cells = 0 := by rw [hRe]
  have hRs : R.slots = 0 := by rw [hRe]
  refine va_gets hx hb hZ.2.1 hS hown (mm_h hts mm_w268) (fun _ h9 => h9) dJ0_coder_7d493_0 ?_
  refine lv_if_eq (tgt := 13) hx hb dJ0_coder_7d493_3 (by decide) (fun c1 => ?_) (fun c1 => ?_)
  · exact mm_eqN c1.symm mm_k0 mm_k1 (by decide)
  · refine lv_aload_n hx hb dJ0_coder_7d493_6 rfl (lv_at hl 0 rfl) ?_
    refine vk_getf hx hb ((hZ.1.1 4 (by decide)).2.1) hS hown (mm_h hts mm_w269) (fun _ h9 => h9) dJ0_coder_7d493_7 ?_
    refine W.eq (g2 := F0 m 10 ls [.int 0]) rfl ?_
    refine lv_goto (tgt := 14) hx hb dJ0_coder_7d493_10 (by decide) ?_
    subst hAe
    rw [hQ]
    exact W.zret (v := 0) hx hb hr rfl (fun t ht hW => ⟨⟨0, (), rfl, rfl, by rw [ht]; exact hP, hK.warm hW, hD⟩, hS.F ht⟩) hS.2.2 dJ0_coder_7d493_14

set_option maxHeartbeats 4000000 in
set_option maxRecDepth 100000 in
theorem K177_J0_length_8abf5 (l : Launch) (G : va_G) (cy : Nat → ClassId) (sz : Nat)    : mm_CI l yJ0_length_8abf5 (mm_ws yJ0_length_8abf5 cJ0_length_8abf5 1 (some .int)) ({ frames := 1, cells := 0, slots := 0, locals := 20 } : Room) G cy sz [] [.ref (cy 108)] (fun u : Unit => []) (fun (r : Int32) (u : Unit) => 4 = r) 0 0 := by
  refine mm_begin (lv := [(0, .ref (cy 108))]) (by decide) (Nat.le_of_ble_eq_true rfl) rfl ?_
  intro p e s m below meth c A ls R args Q H locs hRe hQ hAe hx hb hr hlocks hml hown hnm hts hsz hA hS hP hK hD hZ hl
  have hRf : R.frames = 1 := by rw [hRe]
  have hRl : R.locals = 20 := by rw [hRe]
  have hRc : R.cells = 0 := by rw [hRe]
  have hRs : R.slots = 0 := by rw [hRe]
  refine lv_aload_n hx hb dJ0_length_8abf5_0 rfl (lv_at hl 0 rfl) ?_
  refine vk_getf hx hb ((hZ.1.1 4 (by decide)).2.2.1) hS hown (mm_h hts mm_w263) (fun _ h9 => h9) dJ0_length_8abf5_1 ?_
  refine W.eq (g2 := F0 m 4 ls [.ref (cy 109)]) rfl ?_
  refine va_tlen hx hb ((hZ.1.1 4 (by decide)).2.2.2) hS (v := 4) (by decide) dJ0_length_8abf5_4 ?_
  refine lv_aload_n hx hb dJ0_length_8abf5_5 rfl (lv_at hl 0 rfl) ?_
  refine mm_finir (va_runV (As := []) (rest := [.int 4]) ⟨hx, hb, hml, hown, hts⟩ (K176_J0_coder_7d493 l G cy H.size  ) (cwV 0 hts (mm_gV mm_w264 mm_w265 mm_w266 mm_w261 mm_w267) rfl rfl rfl hd_J0_coder_7d493 ⟨by rw [hRf]; exact Nat.le_of_ble_eq_true rfl, by rw [hRl]; exact Nat.le_of_ble_eq_true rfl⟩) (mm_preVS hK hZ hS hA hP hD [] rfl rfl 4 (by decide)) rfl rfl hl.1 rfl (lv_room (Nat.le_of_ble_eq_true rfl)) dJ0_length_8abf5_6 ⟨by rw [hRc]; exact Nat.le_of_ble_eq_true rfl, by rw [hRs]; exact Nat.le_of_ble_eq_true rfl⟩) hP hD hS hA [] rfl (fun _ => rfl) ?_
  clear hP hD hS
  clear H locs
  intro v1 _u H locs hw hP hD hS
  subst hw
  refine lv_ishr hx hb dJ0_length_8abf5_9 ?_
  refine lv_topi (fun v2 ev2 => ?_)
  obtain rfl : v2 = 4 := ev2.trans (by decide)
  subst hAe
  rw [hQ]
  exact W.iret (v := 4) hx hb hr (fun t ht hW => ⟨⟨4, (), rfl, rfl, by rw [ht]; exact hP, hK.warm hW, hD⟩, hS.F ht⟩) hS.2.2 dJ0_length_8abf5_10

set_option maxHeartbeats 4000000 in
set_option maxRecDepth 100000 in
theorem K178_J0_isLatin1_aae02 (l : Launch) (G : va_G) (cy : Nat → ClassId) (sz : Nat)    : mm_CI l yJ0_isLatin1_aae02 (mm_ws yJ0_isLatin1_aae02 cJ0_isLatin1_aae02 1 (some .boolean)) ({ frames := 0, cells := 0, slots := 0, locals := 0 } : Room) G cy sz [] [.ref (cy 108)] (fun u : Unit => []) (fun (r : Int32) (u : Unit) => 1 = r) 0 0 := by
  refine mm_begin (lv := [(0, .ref (cy 108))]) (by decide) (Nat.le_of_ble_eq_true rfl) rfl ?_
  intro p e s m below meth c A ls R args Q H locs hRe hQ hAe hx hb hr hlocks hml hown hnm hts hsz hA hS hP hK hD hZ hl
  have hRf : R.frames = 0 := by rw [hRe]
  have hRl : R.locals = 0 := by rw [hRe]
  have hRc : R.cells = 0 := by rw [hRe]
  have hRs : R.slots = 0 := by rw [hRe]
  refine va_gets hx hb hZ.2.1 hS hown (mm_h hts mm_w268) (fun _ h9 => h9) dJ0_isLatin1_aae02_0 ?_
  refine lv_if_eq (tgt := 17) hx hb dJ0_isLatin1_aae02_3 (by decide) (fun c1 => ?_) (fun c1 => ?_)
  · exact mm_eqN c1.symm mm_k0 mm_k1 (by decide)
  · refine lv_aload_n hx hb dJ0_isLatin1_aae02_6 rfl (lv_at hl 0 rfl) ?_
    refine vk_getf hx hb ((hZ.1.1 4 (by decide)).2.1) hS hown (mm_h hts mm_w269) (fun _ h9 => h9) dJ0_isLatin1_aae02_7 ?_
    refine W.eq (g2 := F0 m 10 ls [.int 0]) rfl ?_
    refine lv_if_ne (tgt := 17) hx hb dJ0_isLatin1_aae02_10 (by decide) (fun c2 => ?_) (fun c2 => ?_)
    · have q3 := mm_neL (lo := 1) (mm_ne c2) mm_k0 mm_k0 (by decide) (by decide)
      exact mm_no q3 (by decide)
    · refine lv_iconst (v := 1) hx hb dJ0_isLatin1_aae02_13 (by decide) ?_
      refine lv_goto (tgt := 18) hx hb dJ0_isLatin1_aae02_14 (by decide) ?_
      subst hAe
      rw [hQ]
      exact W.zret (v := 1) hx hb hr rfl (fun t ht hW => ⟨⟨1, (), rfl, rfl, by rw [ht]; exact hP, hK.warm hW, hD⟩, hS.F ht⟩) hS.2.2 dJ0_isLatin1_aae02_18

set_option maxHeartbeats 4000000 in
set_option maxRecDepth 100000 in
theorem K187_J1_charAt_3b067 (l : Launch) (G : va_G) (cy : Nat → ClassId) (sz : Nat) (i_0 : Int32) (h0 : mm_rg i_0 0 3)  : mm_CI l yJ1_charAt_3b067 (mm_ws yJ1_charAt_3b067 cJ1_charAt_3b067 2 (some .char)) ({ frames := 2, cells := 0, slots := 0, locals := 43 } : Room) G cy sz [] [.ref (cy 109), .int i_0] (fun u : Unit => []) (fun (r : Int32) (u : Unit) => mm_rg r 0 65535) 0 0 := by
  refine mm_begin (lv := [(0, .ref (cy 109)), (1, .int i_0)]) (by decide) (Nat.le_of_ble_eq_true rfl) rfl ?_
  intro p e s m below meth c A ls R args Q H locs hRe hQ hAe hx hb hr hlocks hml hown hnm hts hsz hA hS hP hK hD hZ hl
  have hRf : R.frames = 2 := by rw [hRe]
  have hRl : R.locals = 43 := by rw [hRe]
  have hRc : R.cells = 0 := by rw [hRe]
  have hRs : R.slots = 0 := by rw [hRe]
  refine lv_iload_n hx hb dJ1_charAt_3b067_0 rfl (lv_at hl 1 rfl) ?_
  refine lv_aload_n hx hb dJ1_charAt_3b067_1 rfl (lv_at hl 0 rfl) ?_
  refine va_tlen hx hb ((hZ.1.1 4 (by decide)).2.2.2) hS (v := 4) (by decide) dJ1_charAt_3b067_2 ?_
  refine mm_finvr (va_runS (As := [.int i_0, .int 4]) (rest := []) ⟨hx, hb, hml, hown, hts⟩ (K69_J0_checkIndex_df160 l G cy H.size i_0 h0) (va_cwS 2 hts (mm_gS mm_w282 mm_w283 mm_w261 mm_w284) rfl rfl rfl hs_J0_checkIndex_df160 ⟨by rw [hRf]; exact Nat.le_of_ble_eq_true rfl, by rw [hRl]; exact Nat.le_of_ble_eq_true rfl⟩) (mm_preS hK hZ hS hA hP hD [] rfl rfl) rfl rfl hl.1 rfl (lv_room (Nat.le_of_ble_eq_true rfl)) dJ1_charAt_3b067_3 ⟨by rw [hRc]; exact Nat.le_of_ble_eq_true rfl, by rw [hRs]; exact Nat.le_of_ble_eq_true rfl⟩) hP hD hS hA [] rfl (fun _ => rfl) ?_
  clear hP hD hS
  clear H locs
  intro _u H locs hw hP hD hS
  refine lv_aload_n hx hb dJ1_charAt_3b067_6 rfl (lv_at hl 0 rfl) ?_
  refine lv_iload_n hx hb dJ1_charAt_3b067_7 rfl (lv_at hl 1 rfl) ?_
  refine va_tb hx hb ((hZ.1.1 4 (by decide)).2.2.2) hS (mm_in h0 (by decide)) rfl dJ1_charAt_3b067_8 ?_
  refine lv_topi (fun v1 ev1 => ?_)
  refine lv_sipush (v := 255) hx hb dJ1_charAt_3b067_9 (by decide) ?_
  refine lv_iand hx hb dJ1_charAt_3b067_12 ?_
  refine lv_topi (fun v2 ev2 => ?_)
  have rv2 : mm_rg v2 0 255 := mm_andR ev2 mm_k255 (by decide)
  obtain ⟨v3, ev3⟩ : ∃ y : Int32, y = (v2.toUInt32 % 65536).toInt32 := ⟨_, rfl⟩
  refine lv_i2c hx hb dJ1_charAt_3b067_13 ev3.symm ?_
  have rv3 : mm_rg v3 0 65535 := mm_i2c ev3
  subst hAe
  rw [hQ]
  exact W.zret (v := v3) hx hb hr (mm_nch rv3) (fun t ht hW => ⟨⟨v3, (), rfl, rv3, by rw [ht]; exact hP, hK.warm hW, hD⟩, hS.F ht⟩) hS.2.2 dJ1_charAt_3b067_14

set_option maxHeartbeats 4000000 in
set_option maxRecDepth 100000 in
theorem K188_J0_charAt_5068e (l : Launch) (G : va_G) (cy : Nat → ClassId) (sz : Nat) (i_0 : Int32) (h0 : mm_rg i_0 0 3)  : mm_CI l yJ0_charAt_5068e (mm_ws yJ0_charAt_5068e cJ0_charAt_5068e 2 (some .char)) ({ frames := 3, cells := 0, slots := 0, locals := 64 } : Room) G cy sz [] [.ref (cy 108), .int i_0] (fun u : Unit => []) (fun (r : Int32) (u : Unit) => mm_rg r 0 65535) 0 0 := by
  refine mm_begin (lv := [(0, .ref (cy 108)), (1, .int i_0)]) (by decide) (Nat.le_of_ble_eq_true rfl) rfl ?_
  intro p e s m below meth c A ls R args Q H locs hRe hQ hAe hx hb hr hlocks hml hown hnm hts hsz hA hS hP hK hD hZ hl
  have hRf : R.frames = 3 := by rw [hRe]
  have hRl : R.locals = 64 := by rw [hRe]
  have hRc : R.cells = 0 := by rw [hRe]
  have hRs : R.slots = 0 := by rw [hRe]
  refine lv_aload_n hx hb dJ0_charAt_5068e_0 rfl (lv_at hl 0 rfl) ?_
  refine mm_finir (va_runV (As := []) (rest := []) ⟨hx, hb, hml, hown, hts⟩ (K178_J0_isLatin1_aae02 l G cy H.size  ) (cwV 0 hts (mm_gV mm_w274 mm_w275 mm_w276 mm_w261 mm_w277) rfl rfl rfl hd_J0_isLatin1_aae02 ⟨by rw [hRf]; exact Nat.le_of_ble_eq_true rfl, by rw [hRl]; exact Nat.le_of_ble_eq_true rfl⟩) (mm_preVS hK hZ hS hA hP hD [] rfl rfl 4 (by decide)) rfl rfl hl.1 rfl (lv_room (Nat.le_of_ble_eq_true rfl)) dJ0_charAt_5068e_1 ⟨by rw [hRc]; exact Nat.le_of_ble_eq_true rfl, by rw [hRs]; exact Nat.le_of_ble_eq_true rfl⟩) hP hD hS hA [] rfl (fun _ => rfl) ?_
  clear hP hD hS
  clear H locs
  intro v1 _u H locs hw hP hD hS
  subst hw
  refine lv_if_eq (tgt := 16) hx hb dJ0_charAt_5068e_4 (by decide) (fun c2 => ?_) (fun c2 => ?_)
  · exact mm_eqN c2.symm mm_k0 mm_k1 (by decide)
  · refine lv_aload_n hx hb dJ0_charAt_5068e_7 rfl (lv_at hl 0 rfl) ?_
    refine vk_getf hx hb ((hZ.1.1 4 (by decide)).2.2.1) hS hown (mm_h hts mm_w263) (fun _ h9 => h9) dJ0_charAt_5068e_8 ?_
    refine W.eq (g2 := F0 m 11 ls [.ref (cy 109)]) rfl ?_
    refine lv_iload_n hx hb dJ0_charAt_5068e_11 rfl (lv_at hl 1 rfl) ?_
    refine mm_finir (va_runS (As := [.ref (cy 109), .int i_0]) (rest := []) ⟨hx, hb, hml, hown, hts⟩ (K187_J1_charAt_3b067 l G cy H.size i_0 h0) (va_cwS 2 hts (mm_gS mm_w278 mm_w279 mm_w280 mm_w281) rfl rfl rfl hs_J1_charAt_3b067 ⟨by rw [hRf]; exact Nat.le_of_ble_eq_true rfl, by rw [hRl]; exact Nat.le_of_ble_eq_true rfl⟩) (mm_preS hK hZ hS hA hP hD [] rfl rfl) rfl rfl hl.1 rfl (lv_room (Nat.le_of_ble_eq_true rfl)) dJ0_charAt_5068e_12 ⟨by rw [hRc]; exact Nat.le_of_ble_eq_true rfl, by rw [hRs]; exact Nat.le_of_ble_eq_true rfl⟩) hP hD hS hA [] rfl (fun _ => rfl) ?_
    clear hP hD hS
    clear H locs
    intro v3 _u H locs hw hP hD hS
    have w4 := hw
    subst hAe
    rw [hQ]
    exact W.zret (v := v3) hx hb hr (mm_nch w4) (fun t ht hW => ⟨⟨v3, (), rfl, w4, by rw [ht]; exact hP, hK.warm hW, hD⟩, hS.F ht⟩) hS.2.2 dJ0_charAt_5068e_15

set_option maxHeartbeats 4000000 in
set_option maxRecDepth 100000 in
theorem K189_X7_isName (l : Launch) (G : va_G) (cy : Nat → ClassId) (sz : Nat) (a_0 : Nat) (a_1 : Nat) (a_2 : Nat) (i_0 : Int32) (f_0 : Nat → Int32) (a_3 : Nat) (i_1 : Int32) (i_2 : Int32) (i_3 : Int32) (i_4 : Int32) (i_5 : Int32) (i_6 : Int32) (h0 : mm_rg i_0 0 600) (h1 : mm_ar f_0 (-128) 127) (h2 : mm_rg i_3 0 5) (h3 : mm_rg i_4 0 600) (h4 : mm_rg i_5 0 600)  : mm_CI l yX7_isName (mm_ws yX7_isName cX7_isName 4 (some .boolean)) ({ frames := 4, cells := 0, slots := 0, locals := 85 } : Room) G cy sz [(a_1, .inr (9, [.ref a_2, .int i_0])), (a_2, .inl (cy 0, 600, .inl f_0)), (a_0, .inr (7, [.ref a_1, .ref a_3, .int i_1, .int i_2, .int i_3, .int i_4, .int i_5, .int i_6]))] [.ref a_0, .ref (cy 108)] (fun u : Unit => [(a_1, .inr (9, [.ref a_2, .int i_0])), (a_2, .inl (cy 0, 600, .inl f_0)), (a_0, .inr (7, [.ref a_1, .ref a_3, .int i_1, .int i_2, .int i_3, .int i_4, .int i_5, .int i_6]))]) (fun (r : Int32) (u : Unit) => ((0 = r) ∨ (1 = r))) 0 0 := by
  refine mm_begin (lv := [(0, .ref a_0), (1, .ref (cy 108))]) (by decide) (Nat.le_of_ble_eq_true rfl) rfl ?_
  intro p e s m below meth c A ls R args Q H locs hRe hQ hAe hx hb hr hlocks hml hown hnm hts hsz hA hS hP hK hD hZ hl
  have hRf : R.frames = 4 := by rw [hRe]
  have hRl : R.locals = 85 := by rw [hRe]
  have hRc : R.cells = 0 := by rw [hRe]
  have hRs : R.slots = 0 := by rw [hRe]
  refine lv_aload_n hx hb dX7_isName_0 rfl (lv_at hl 1 rfl) ?_
  refine mm_finir (va_runV (As := []) (rest := []) ⟨hx, hb, hml, hown, hts⟩ (K177_J0_length_8abf5 l G cy H.size  ) (cwV 0 hts (mm_gV mm_w258 mm_w259 mm_w260 mm_w261 mm_w262) rfl rfl rfl hd_J0_length_8abf5 ⟨by rw [hRf]; exact Nat.le_of_ble_eq_true rfl, by rw [hRl]; exact Nat.le_of_ble_eq_true rfl⟩) (mm_preVS hK hZ hS hA hP hD [] rfl rfl 4 (by decide)) rfl rfl hl.1 rfl (lv_room (Nat.le_of_ble_eq_true rfl)) dX7_isName_1 ⟨by rw [hRc]; exact Nat.le_of_ble_eq_true rfl, by rw [hRs]; exact Nat.le_of_ble_eq_true rfl⟩) hP hD hS hA [] rfl (fun _ => rfl) ?_
  clear hP hD hS
  clear H locs
  intro v1 _u H locs hw hP hD hS
  subst hw
  refine lv_istore_n (lv' := [(2, .int 4), (0, .ref a_0), (1, .ref (cy 108))]) hx hb dX7_isName_4 rfl hl (by decide) rfl ?_
  clear hl
  clear ls
  intro ls hl
  refine lv_aload_n hx hb dX7_isName_5 rfl (lv_at hl 1 rfl) ?_
  refine va_get (D := G) (ci := 7) (v := .int i_3) (C := RX7) (T := TX7) (N := 8) hx hb hts (mm_i inlX7) hown hK.1 hP 2 rfl rfl 4 (by decide) (mm_h hts mm_w207) (fun _ h9 => h9) rfl dX7_isName_6 ?_
  refine lv_iconst (v := 2) hx hb dX7_isName_9 (by decide) ?_
  refine lv_icmp_ne (tgt := 40) hx hb dX7_isName_10 (by decide) (fun c2 => ?_) (fun c2 => ?_)
  · refine lv_iconst (v := 0) hx hb dX7_isName_40 (by decide) ?_
    subst hAe
    rw [hQ]
    exact W.zret (v := 0) hx hb hr rfl (fun t ht hW => ⟨⟨0, (), rfl, (Or.inl rfl), by rw [ht]; exact hP, hK.warm hW, hD⟩, hS.F ht⟩) hS.2.2 dX7_isName_41
  · have q3 := mm_eqI (lo := 2) (hi := 2) c2 h2 mm_k2 (by decide)
    refine lv_aload_n hx hb dX7_isName_13 rfl (lv_at hl 1 rfl) ?_
    refine va_get (D := G) (ci := 7) (v := .int i_5) (C := RX7) (T := TX7) (N := 8) hx hb hts (mm_i inlX7) hown hK.1 hP 2 rfl rfl 6 (by decide) (mm_h hts mm_w206) (fun _ h9 => h9) rfl dX7_isName_14 ?_
    refine lv_aload_n hx hb dX7_isName_17 rfl (lv_at hl 1 rfl) ?_
    refine va_get (D := G) (ci := 7) (v := .int i_4) (C := RX7) (T := TX7) (N := 8) hx hb hts (mm_i inlX7) hown hK.1 hP 2 rfl rfl 5 (by decide) (mm_h hts mm_w232) (fun _ h9 => h9) rfl dX7_isName_18 ?_
    refine lv_isub hx hb dX7_isName_21 ?_
    refine lv_topi (fun v4 ev4 => ?_)
    have rv4 : mm_rg v4 (-600) 600 := mm_sub ev4 h4 h3 (by decide) (by decide)
    have tv4 := mm_subE ev4 h4 h3 (by decide)
    refine lv_iload_n hx hb dX7_isName_22 rfl (lv_at hl 0 rfl) ?_
    refine lv_icmp_ne (tgt := 40) hx hb dX7_isName_23 (by decide) (fun c5 => ?_) (fun c5 => ?_)
    · refine lv_iconst (v := 0) hx hb dX7_isName_40 (by decide) ?_
      subst hAe
      rw [hQ]
      exact W.zret (v := 0) hx hb hr rfl (fun t ht hW => ⟨⟨0, (), rfl, (Or.inl rfl), by rw [ht]; exact hP, hK.warm hW, hD⟩, hS.F ht⟩) hS.2.2 dX7_isName_41
    · have q6 := mm_eqI (lo := 4) (hi := 4) c5 rv4 mm_k4 (by decide)
      have q7 : mm_rg i_4 0 596 := mm_unsubY tv4 q6 h4 h3 (by decide)
      have q8 : mm_rg i_5 4 600 := mm_unsubX tv4 q6 q7 h4 (by decide)
      refine lv_aload_n hx hb dX7_isName_26 rfl (lv_at hl 1 rfl) ?_
      refine va_get (D := G) (ci := 7) (v := .int i_5) (C := RX7) (T := TX7) (N := 8) hx hb hts (mm_i inlX7) hown hK.1 hP 2 rfl rfl 6 (by decide) (mm_h hts mm_w206) (fun _ h9 => h9) rfl dX7_isName_27 ?_
      refine lv_aload_n hx hb dX7_isName_30 rfl (lv_at hl 1 rfl) ?_
      refine va_get (D := G) (ci := 7) (v := .ref a_1) (C := RX7) (T := TX7) (N := 8) hx hb hts (mm_i inlX7) hown hK.1 hP 2 rfl rfl 0 (by decide) (mm_h hts mm_w67) (fun _ h9 => h9) rfl dX7_isName_31 ?_
      refine va_get (D := G) (ci := 9) (v := .int i_0) (C := RX9) (T := TX9) (N := 2) hx hb hts (mm_i inlX9) hown hK.1 hP 0 rfl rfl 1 (by decide) (mm_h hts mm_w231) (fun _ h9 => h9) rfl dX7_isName_34 ?_
      refine lv_icmp_le (tgt := 42) hx hb dX7_isName_37 (by decide) (fun c9 => ?_) (fun c9 => ?_)
      · have q10 := mm_leR (mm_le c9) q8 h0
        refine lv_iconst (v := 0) hx hb dX7_isName_42 (by decide) ?_
        refine lv_istore_n (lv' := [(3, .int 0), (2, .int 4), (0, .ref a_0), (1, .ref (cy 108))]) hx hb dX7_isName_43 rfl hl (by decide) rfl ?_
        clear hl
        clear ls
        intro ls hl
        have L44_71 : ∀ (n : Nat) (x44_3_71 : Int32), mm_rg x44_3_71 0 4 → (4 - x44_3_71.toInt).toNat < n → ∀ (H : Heap) (locs : List Loc), va_P G vwCl [(a_1, .inr (9, [.ref a_2, .int i_0])), (a_2, .inl (cy 0, 600, .inl f_0)), (a_0, .inr (7, [.ref a_1, .ref a_3, .int i_1, .int i_2, .int i_3, .int i_4, .int i_5, .int i_6]))] H → va_D A [(a_1, .inr (9, [.ref a_2, .int i_0])), (a_2, .inl (cy 0, 600, .inl f_0)), (a_0, .inr (7, [.ref a_1, .ref a_3, .int i_1, .int i_2, .int i_3, .int i_4, .int i_5, .int i_6]))] → va_S A s.heap H locs → ∀ (ls : Array Slot), lv_has ls 4 [(3, .int x44_3_71), (2, .int 4), (0, .ref a_0), (1, .ref (cy 108))] → W p l e R s m args below meth c H locs 0 0 Q (F0 m 44 ls []) := by
          intro n
          induction n with
          | zero => intro x44_3_71 rx44_3_71 hm; exact absurd hm (Nat.not_lt_zero _)
          | succ n ih44 =>
            intro x44_3_71 rx44_3_71 hm44 H locs hP hD hS ls hl
            refine lv_iload_n hx hb dX7_isName_44 rfl (lv_at hl 0 rfl) ?_
            refine lv_iload_n hx hb dX7_isName_45 rfl (lv_at hl 1 rfl) ?_
            refine lv_icmp_ge (tgt := 79) hx hb dX7_isName_46 (by decide) (fun c73 => ?_) (fun c73 => ?_)
            · have q74 := mm_leR (mm_le c73) mm_k4 rx44_3_71
              refine lv_iconst (v := 1) hx hb dX7_isName_79 (by decide) ?_
              subst hAe
              rw [hQ]
              exact W.zret (v := 1) hx hb hr rfl (fun t ht hW => ⟨⟨1, (), rfl, (Or.inr rfl), by rw [ht]; exact hP, hK.warm hW, hD⟩, hS.F ht⟩) hS.2.2 dX7_isName_80
            · have q75 := mm_ltL (h := 3) (mm_nle c73) rx44_3_71 mm_k4 (by decide)
              refine lv_aload_n hx hb dX7_isName_49 rfl (lv_at hl 2 rfl) ?_
              refine va_get (D := G) (ci := 7) (v := .ref a_1) (C := RX7) (T := TX7) (N := 8) hx hb hts (mm_i inlX7) hown hK.1 hP 2 rfl rfl 0 (by decide) (mm_h hts mm_w67) (fun _ h9 => h9) rfl dX7_isName_50 ?_
              refine va_get (D := G) (ci := 9) (v := .ref a_2) (C := RX9) (T := TX9) (N := 2) hx hb hts (mm_i inlX9) hown hK.1 hP 0 rfl rfl 0 (by decide) (mm_h hts mm_w238) (fun _ h9 => h9) rfl dX7_isName_53 ?_
              refine lv_aload_n hx hb dX7_isName_56 rfl (lv_at hl 2 rfl) ?_
              refine va_get (D := G) (ci := 7) (v := .int i_4) (C := RX7) (T := TX7) (N := 8) hx hb hts (mm_i inlX7) hown hK.1 hP 2 rfl rfl 5 (by decide) (mm_h hts mm_w232) (fun _ h9 => h9) rfl dX7_isName_57 ?_
              refine lv_iload_n hx hb dX7_isName_60 rfl (lv_at hl 0 rfl) ?_
              refine lv_iadd hx hb dX7_isName_61 ?_
              refine lv_topi (fun v76 ev76 => ?_)
              have rv76 : mm_rg v76 0 599 := mm_add ev76 q7 q75 (by decide) (by decide)
              have tv76 := mm_addE ev76 q7 q75 (by decide)
              refine va_bald hx hb hK.1 hP 1 0 rfl rfl (mm_in rv76 (by decide)) dX7_isName_62 ?_
              refine lv_topi (fun v77 ev77 => ?_)
              have rv77 : mm_rg v77 (-128) 127 := mm_eqv ev77 (h1 _)
              refine lv_aload_n hx hb dX7_isName_63 rfl (lv_at hl 3 rfl) ?_
              refine lv_iload_n hx hb dX7_isName_64 rfl (lv_at hl 0 rfl) ?_
              refine mm_finir (va_runV (As := [.int x44_3_71]) (rest := [.int v77]) ⟨hx, hb, hml, hown, hts⟩ (K188_J0_charAt_5068e l G cy H.size x44_3_71 q75) (cwV 1 hts (mm_gV mm_w270 mm_w271 mm_w272 mm_w261 mm_w273) rfl rfl rfl hd_J0_charAt_5068e ⟨by rw [hRf]; exact Nat.le_of_ble_eq_true rfl, by rw [hRl]; exact Nat.le_of_ble_eq_true rfl⟩) (mm_preVS hK hZ hS hA hP hD [] rfl rfl 4 (by decide)) rfl rfl hl.1 rfl (lv_room (Nat.le_of_ble_eq_true rfl)) dX7_isName_65 ⟨by rw [hRc]; exact Nat.le_of_ble_eq_true rfl, by rw [hRs]; exact Nat.le_of_ble_eq_true rfl⟩) hP hD hS hA [] rfl (fun _ => rfl) ?_
              clear hP hD hS
              clear H locs
              intro v78 _u H locs hw hP hD hS
              have w79 := hw
              refine lv_icmp_eq (tgt := 73) hx hb dX7_isName_68 (by decide) (fun c80 => ?_) (fun c80 => ?_)
              · have q81 := mm_eqI (lo := 0) (hi := 127) c80 rv77 w79 (by decide)
                have q82 := mm_eqI (lo := 0) (hi := 127) c80.symm w79 rv77 (by decide)
                obtain ⟨v83, ev83⟩ : ∃ y : Int32, y = x44_3_71 + 1 := ⟨_, rfl⟩
                refine lv_iinc (v := v83) (lv' := [(3, .int v83), (2, .int 4), (0, .ref a_0), (1, .ref (cy 108))]) hx hb dX7_isName_73 hl (k := 0) rfl (by rw [ev83]; rfl) (by decide) rfl ?_
                clear hl
                clear ls
                intro ls hl
                have rv83 : mm_rg v83 1 4 := mm_add ev83 q75 mm_k1 (by decide) (by decide)
                have tv83 := mm_addEc ev83 q75 mm_k1 (by decide) (k := 1) (by decide)
                refine lv_goto (tgt := 44) hx hb dX7_isName_76 (by decide) ?_
                exact ih44 v83 (mm_wk rv83 (by decide)) (mm_mu hm44 tv83 (by decide) (rv83).2 (by decide)) H locs hP hD hS ls (lv_sub hl [0, 1, 2, 3] rfl)
              · refine lv_iconst (v := 0) hx hb dX7_isName_71 (by decide) ?_
                subst hAe
                rw [hQ]
                exact W.zret (v := 0) hx hb hr rfl (fun t ht hW => ⟨⟨0, (), rfl, (Or.inl rfl), by rw [ht]; exact hP, hK.warm hW, hD⟩, hS.F ht⟩) hS.2.2 dX7_isName_72
        exact L44_71 _ 0 (mm_wk mm_k0 (by decide)) (Nat.lt_succ_self _) H locs hP hD hS ls (lv_sub hl [0, 1, 2, 3] rfl)
      · have q84 := mm_ltL (h := 599) (mm_nle c9) h0 q8 (by decide)
        refine lv_iconst (v := 0) hx hb dX7_isName_40 (by decide) ?_
        subst hAe
        rw [hQ]
        exact W.zret (v := 0) hx hb hr rfl (fun t ht hW => ⟨⟨0, (), rfl, (Or.inl rfl), by rw [ht]; exact hP, hK.warm hW, hD⟩, hS.F ht⟩) hS.2.2 dX7_isName_41

set_option maxHeartbeats 4000000 in
set_option maxRecDepth 100000 in
theorem K190_J0_coder_7d493 (l : Launch) (G : va_G) (cy : Nat → ClassId) (sz : Nat)    : mm_CI l yJ0_coder_7d493 (mm_ws yJ0_coder_7d493 cJ0_coder_7d493 1 (some .byte)) ({ frames := 0, cells := 0, slots := 0, locals := 0 } : Room) G cy sz [] [.ref (cy 110)] (fun u : Unit => []) (fun (r : Int32) (u : Unit) => 0 = r) 0 0 := by
  refine mm_begin (lv := [(0, .ref (cy 110))]) (by decide) (Nat.le_of_ble_eq_true rfl) rfl ?_
  intro p e s m below meth c A ls R args Q H locs hRe hQ hAe hx hb hr hlocks hml hown hnm hts hsz hA hS hP hK hD hZ hl
  have hRf : R.frames = 0 := by rw [hRe]
  have hRl : R.locals = 0 := by rw [hRe]
  have hRc : R.cells = 0 := by rw [hRe]
  have hRs : R.slots = 0 := by rw [hRe]
  refine va_gets hx hb hZ.2.1 hS hown (mm_h hts mm_w268) (fun _ h9 => h9) dJ0_coder_7d493_0 ?_
  refine lv_if_eq (tgt := 13) hx hb dJ0_coder_7d493_3 (by decide) (fun c1 => ?_) (fun c1 => ?_)
  · exact mm_eqN c1.symm mm_k0 mm_k1 (by decide)
  · refine lv_aload_n hx hb dJ0_coder_7d493_6 rfl (lv_at hl 0 rfl) ?_
    refine vk_getf hx hb ((hZ.1.1 5 (by decide)).2.1) hS hown (mm_h hts mm_w269) (fun _ h9 => h9) dJ0_coder_7d493_7 ?_
    refine W.eq (g2 := F0 m 10 ls [.int 0]) rfl ?_
    refine lv_goto (tgt := 14) hx hb dJ0_coder_7d493_10 (by decide) ?_
    subst hAe
    rw [hQ]
    exact W.zret (v := 0) hx hb hr rfl (fun t ht hW => ⟨⟨0, (), rfl, rfl, by rw [ht]; exact hP, hK.warm hW, hD⟩, hS.F ht⟩) hS.2.2 dJ0_coder_7d493_14

set_option maxHeartbeats 4000000 in
set_option maxRecDepth 100000 in
theorem K191_J0_length_8abf5 (l : Launch) (G : va_G) (cy : Nat → ClassId) (sz : Nat)    : mm_CI l yJ0_length_8abf5 (mm_ws yJ0_length_8abf5 cJ0_length_8abf5 1 (some .int)) ({ frames := 1, cells := 0, slots := 0, locals := 20 } : Room) G cy sz [] [.ref (cy 110)] (fun u : Unit => []) (fun (r : Int32) (u : Unit) => 4 = r) 0 0 := by
  refine mm_begin (lv := [(0, .ref (cy 110))]) (by decide) (Nat.le_of_ble_eq_true rfl) rfl ?_
  intro p e s m below meth c A ls R args Q H locs hRe hQ hAe hx hb hr hlocks hml hown hnm hts hsz hA hS hP hK hD hZ hl
  have hRf : R.frames = 1 := by rw [hRe]
  have hRl : R.locals = 20 := by rw [hRe]
  have hRc : R.cells = 0 := by rw [hRe]
  have hRs : R.slots = 0 := by rw [hRe]
  refine lv_aload_n hx hb dJ0_length_8abf5_0 rfl (lv_at hl 0 rfl) ?_
  refine vk_getf hx hb ((hZ.1.1 5 (by decide)).2.2.1) hS hown (mm_h hts mm_w263) (fun _ h9 => h9) dJ0_length_8abf5_1 ?_
  refine W.eq (g2 := F0 m 4 ls [.ref (cy 111)]) rfl ?_
  refine va_tlen hx hb ((hZ.1.1 5 (by decide)).2.2.2) hS (v := 4) (by decide) dJ0_length_8abf5_4 ?_
  refine lv_aload_n hx hb dJ0_length_8abf5_5 rfl (lv_at hl 0 rfl) ?_
  refine mm_finir (va_runV (As := []) (rest := [.int 4]) ⟨hx, hb, hml, hown, hts⟩ (K190_J0_coder_7d493 l G cy H.size  ) (cwV 0 hts (mm_gV mm_w264 mm_w265 mm_w266 mm_w261 mm_w267) rfl rfl rfl hd_J0_coder_7d493 ⟨by rw [hRf]; exact Nat.le_of_ble_eq_true rfl, by rw [hRl]; exact Nat.le_of_ble_eq_true rfl⟩) (mm_preVS hK hZ hS hA hP hD [] rfl rfl 5 (by decide)) rfl rfl hl.1 rfl (lv_room (Nat.le_of_ble_eq_true rfl)) dJ0_length_8abf5_6 ⟨by rw [hRc]; exact Nat.le_of_ble_eq_true rfl, by rw [hRs]; exact Nat.le_of_ble_eq_true rfl⟩) hP hD hS hA [] rfl (fun _ => rfl) ?_
  clear hP hD hS
  clear H locs
  intro v1 _u H locs hw hP hD hS
  subst hw
  refine lv_ishr hx hb dJ0_length_8abf5_9 ?_
  refine lv_topi (fun v2 ev2 => ?_)
  obtain rfl : v2 = 4 := ev2.trans (by decide)
  subst hAe
  rw [hQ]
  exact W.iret (v := 4) hx hb hr (fun t ht hW => ⟨⟨4, (), rfl, rfl, by rw [ht]; exact hP, hK.warm hW, hD⟩, hS.F ht⟩) hS.2.2 dJ0_length_8abf5_10

set_option maxHeartbeats 4000000 in
set_option maxRecDepth 100000 in
theorem K192_J0_isLatin1_aae02 (l : Launch) (G : va_G) (cy : Nat → ClassId) (sz : Nat)    : mm_CI l yJ0_isLatin1_aae02 (mm_ws yJ0_isLatin1_aae02 cJ0_isLatin1_aae02 1 (some .boolean)) ({ frames := 0, cells := 0, slots := 0, locals := 0 } : Room) G cy sz [] [.ref (cy 110)] (fun u : Unit => []) (fun (r : Int32) (u : Unit) => 1 = r) 0 0 := by
  refine mm_begin (lv := [(0, .ref (cy 110))]) (by decide) (Nat.le_of_ble_eq_true rfl) rfl ?_
  intro p e s m below meth c A ls R args Q H locs hRe hQ hAe hx hb hr hlocks hml hown hnm hts hsz hA hS hP hK hD hZ hl
  have hRf : R.frames = 0 := by rw [hRe]
  have hRl : R.locals = 0 := by rw [hRe]
  have hRc : R.cells = 0 := by rw [hRe]
  have hRs : R.slots = 0 := by rw [hRe]
  refine va_gets hx hb hZ.2.1 hS hown (mm_h hts mm_w268) (fun _ h9 => h9) dJ0_isLatin1_aae02_0 ?_
  refine lv_if_eq (tgt := 17) hx hb dJ0_isLatin1_aae02_3 (by decide) (fun c1 => ?_) (fun c1 => ?_)
  · exact mm_eqN c1.symm mm_k0 mm_k1 (by decide)
  · refine lv_aload_n hx hb dJ0_isLatin1_aae02_6 rfl (lv_at hl 0 rfl) ?_
    refine vk_getf hx hb ((hZ.1.1 5 (by decide)).2.1) hS hown (mm_h hts mm_w269) (fun _ h9 => h9) dJ0_isLatin1_aae02_7 ?_
    refine W.eq (g2 := F0 m 10 ls [.int 0]) rfl ?_
    refine lv_if_ne (tgt := 17) hx hb dJ0_isLatin1_aae02_10 (by decide) (fun c2 => ?_) (fun c2 => ?_)
    · have q3 := mm_neL (lo := 1) (mm_ne c2) mm_k0 mm_k0 (by decide) (by decide)
      exact mm_no q3 (by decide)
    · refine lv_iconst (v := 1) hx hb dJ0_isLatin1_aae02_13 (by decide) ?_
      refine lv_goto (tgt := 18) hx hb dJ0_isLatin1_aae02_14 (by decide) ?_
      subst hAe
      rw [hQ]
      exact W.zret (v := 1) hx hb hr rfl (fun t ht hW => ⟨⟨1, (), rfl, rfl, by rw [ht]; exact hP, hK.warm hW, hD⟩, hS.F ht⟩) hS.2.2 dJ0_isLatin1_aae02_18

set_option maxHeartbeats 4000000 in
set_option maxRecDepth 100000 in
theorem K201_J1_charAt_3b067 (l : Launch) (G : va_G) (cy : Nat → ClassId) (sz : Nat) (i_0 : Int32) (h0 : mm_rg i_0 0 3)  : mm_CI l yJ1_charAt_3b067 (mm_ws yJ1_charAt_3b067 cJ1_charAt_3b067 2 (some .char)) ({ frames := 2, cells := 0, slots := 0, locals := 43 } : Room) G cy sz [] [.ref (cy 111), .int i_0] (fun u : Unit => []) (fun (r : Int32) (u : Unit) => mm_rg r 0 65535) 0 0 := by
  refine mm_begin (lv := [(0, .ref (cy 111)), (1, .int i_0)]) (by decide) (Nat.le_of_ble_eq_true rfl) rfl ?_
  intro p e s m below meth c A ls R args Q H locs hRe hQ hAe hx hb hr hlocks hml hown hnm hts hsz hA hS hP hK hD hZ hl
  have hRf : R.frames = 2 := by rw [hRe]
  have hRl : R.locals = 43 := by rw [hRe]
  have hRc : R.cells = 0 := by rw [hRe]
  have hRs : R.slots = 0 := by rw [hRe]
  refine lv_iload_n hx hb dJ1_charAt_3b067_0 rfl (lv_at hl 1 rfl) ?_
  refine lv_aload_n hx hb dJ1_charAt_3b067_1 rfl (lv_at hl 0 rfl) ?_
  refine va_tlen hx hb ((hZ.1.1 5 (by decide)).2.2.2) hS (v := 4) (by decide) dJ1_charAt_3b067_2 ?_
  refine mm_finvr (va_runS (As := [.int i_0, .int 4]) (rest := []) ⟨hx, hb, hml, hown, hts⟩ (K69_J0_checkIndex_df160 l G cy H.size i_0 h0) (va_cwS 2 hts (mm_gS mm_w282 mm_w283 mm_w261 mm_w284) rfl rfl rfl hs_J0_checkIndex_df160 ⟨by rw [hRf]; exact Nat.le_of_ble_eq_true rfl, by rw [hRl]; exact Nat.le_of_ble_eq_true rfl⟩) (mm_preS hK hZ hS hA hP hD [] rfl rfl) rfl rfl hl.1 rfl (lv_room (Nat.le_of_ble_eq_true rfl)) dJ1_charAt_3b067_3 ⟨by rw [hRc]; exact Nat.le_of_ble_eq_true rfl, by rw [hRs]; exact Nat.le_of_ble_eq_true rfl⟩) hP hD hS hA [] rfl (fun _ => rfl) ?_
  clear hP hD hS
  clear H locs
  intro _u H locs hw hP hD hS
  refine lv_aload_n hx hb dJ1_charAt_3b067_6 rfl (lv_at hl 0 rfl) ?_
  refine lv_iload_n hx hb dJ1_charAt_3b067_7 rfl (lv_at hl 1 rfl) ?_
  refine va_tb hx hb ((hZ.1.1 5 (by decide)).2.2.2) hS (mm_in h0 (by decide)) rfl dJ1_charAt_3b067_8 ?_
  refine lv_topi (fun v1 ev1 => ?_)
  refine lv_sipush (v := 255) hx hb dJ1_charAt_3b067_9 (by decide) ?_
  refine lv_iand hx hb dJ1_charAt_3b067_12 ?_
  refine lv_topi (fun v2 ev2 => ?_)
  have rv2 : mm_rg v2 0 255 := mm_andR ev2 mm_k255 (by decide)
  obtain ⟨v3, ev3⟩ : ∃ y : Int32, y = (v2.toUInt32 % 65536).toInt32 := ⟨_, rfl⟩
  refine lv_i2c hx hb dJ1_charAt_3b067_13 ev3.symm ?_
  have rv3 : mm_rg v3 0 65535 := mm_i2c ev3
  subst hAe
  rw [hQ]
  exact W.zret (v := v3) hx hb hr (mm_nch rv3) (fun t ht hW => ⟨⟨v3, (), rfl, rv3, by rw [ht]; exact hP, hK.warm hW, hD⟩, hS.F ht⟩) hS.2.2 dJ1_charAt_3b067_14

set_option maxHeartbeats 4000000 in
set_option maxRecDepth 100000 in
theorem K202_J0_charAt_5068e (l : Launch) (G : va_G) (cy : Nat → ClassId) (sz : Nat) (i_0 : Int32) (h0 : mm_rg i_0 0 3)  : mm_CI l yJ0_charAt_5068e (mm_ws yJ0_charAt_5068e cJ0_charAt_5068e 2 (some .char)) ({ frames := 3, cells := 0, slots := 0, locals := 64 } : Room) G cy sz [] [.ref (cy 110), .int i_0] (fun u : Unit => []) (fun (r : Int32) (u : Unit) => mm_rg r 0 65535) 0 0 := by
  refine mm_begin (lv := [(0, .ref (cy 110)), (1, .int i_0)]) (by decide) (Nat.le_of_ble_eq_true rfl) rfl ?_
  intro p e s m below meth c A ls R args Q H locs hRe hQ hAe hx hb hr hlocks hml hown hnm hts hsz hA hS hP hK hD hZ hl
  have hRf : R.frames = 3 := by rw [hRe]
  have hRl : R.locals = 64 := by rw [hRe]
  have hRc : R.cells = 0 := by rw [hRe]
  have hRs : R.slots = 0 := by rw [hRe]
  refine lv_aload_n hx hb dJ0_charAt_5068e_0 rfl (lv_at hl 0 rfl) ?_
  refine mm_finir (va_runV (As := []) (rest := []) ⟨hx, hb, hml, hown, hts⟩ (K192_J0_isLatin1_aae02 l G cy H.size  ) (cwV 0 hts (mm_gV mm_w274 mm_w275 mm_w276 mm_w261 mm_w277) rfl rfl rfl hd_J0_isLatin1_aae02 ⟨by rw [hRf]; exact Nat.le_of_ble_eq_true rfl, by rw [hRl]; exact Nat.le_of_ble_eq_true rfl⟩) (mm_preVS hK hZ hS hA hP hD [] rfl rfl 5 (by decide)) rfl rfl hl.1 rfl (lv_room (Nat.le_of_ble_eq_true rfl)) dJ0_charAt_5068e_1 ⟨by rw [hRc]; exact Nat.le_of_ble_eq_true rfl, by rw [hRs]; exact Nat.le_of_ble_eq_true rfl⟩) hP hD hS hA [] rfl (fun _ => rfl) ?_
  clear hP hD hS
  clear H locs
  intro v1 _u H locs hw hP hD hS
  subst hw
  refine lv_if_eq (tgt := 16) hx hb dJ0_charAt_5068e_4 (by decide) (fun c2 => ?_) (fun c2 => ?_)
  · exact mm_eqN c2.symm mm_k0 mm_k1 (by decide)
  · refine lv_aload_n hx hb dJ0_charAt_5068e_7 rfl (lv_at hl 0 rfl) ?_
    refine vk_getf hx hb ((hZ.1.1 5 (by decide)).2.2.1) hS hown (mm_h hts mm_w263) (fun _ h9 => h9) dJ0_charAt_5068e_8 ?_
    refine W.eq (g2 := F0 m 11 ls [.ref (cy 111)]) rfl ?_
    refine lv_iload_n hx hb dJ0_charAt_5068e_11 rfl (lv_at hl 1 rfl) ?_
    refine mm_finir (va_runS (As := [.ref (cy 111), .int i_0]) (rest := []) ⟨hx, hb, hml, hown, hts⟩ (K201_J1_charAt_3b067 l G cy H.size i_0 h0) (va_cwS 2 hts (mm_gS mm_w278 mm_w279 mm_w280 mm_w281) rfl rfl rfl hs_J1_charAt_3b067 ⟨by rw [hRf]; exact Nat.le_of_ble_eq_true rfl, by rw [hRl]; exact Nat.le_of_ble_eq_true rfl⟩) (mm_preS hK hZ hS hA hP hD [] rfl rfl) rfl rfl hl.1 rfl (lv_room (Nat.le_of_ble_eq_true rfl)) dJ0_charAt_5068e_12 ⟨by rw [hRc]; exact Nat.le_of_ble_eq_true rfl, by rw [hRs]; exact Nat.le_of_ble_eq_true rfl⟩) hP hD hS hA [] rfl (fun _ => rfl) ?_
    clear hP hD hS
    clear H locs
    intro v3 _u H locs hw hP hD hS
    have w4 := hw
    subst hAe
    rw [hQ]
    exact W.zret (v := v3) hx hb hr (mm_nch w4) (fun t ht hW => ⟨⟨v3, (), rfl, w4, by rw [ht]; exact hP, hK.warm hW, hD⟩, hS.F ht⟩) hS.2.2 dJ0_charAt_5068e_15

set_option maxHeartbeats 4000000 in
set_option maxRecDepth 100000 in
theorem K203_X7_isName (l : Launch) (G : va_G) (cy : Nat → ClassId) (sz : Nat) (a_0 : Nat) (a_1 : Nat) (a_2 : Nat) (i_0 : Int32) (f_0 : Nat → Int32) (a_3 : Nat) (i_1 : Int32) (i_2 : Int32) (i_3 : Int32) (i_4 : Int32) (i_5 : Int32) (i_6 : Int32) (h0 : mm_rg i_0 0 600) (h1 : mm_ar f_0 (-128) 127) (h2 : mm_rg i_3 0 5) (h3 : mm_rg i_4 0 600) (h4 : mm_rg i_5 0 600)  : mm_CI l yX7_isName (mm_ws yX7_isName cX7_isName 4 (some .boolean)) ({ frames := 4, cells := 0, slots := 0, locals := 85 } : Room) G cy sz [(a_1, .inr (9, [.ref a_2, .int i_0])), (a_2, .inl (cy 0, 600, .inl f_0)), (a_0, .inr (7, [.ref a_1, .ref a_3, .int i_1, .int i_2, .int i_3, .int i_4, .int i_5, .int i_6]))] [.ref a_0, .ref (cy 110)] (fun u : Unit => [(a_1, .inr (9, [.ref a_2, .int i_0])), (a_2, .inl (cy 0, 600, .inl f_0)), (a_0, .inr (7, [.ref a_1, .ref a_3, .int i_1, .int i_2, .int i_3, .int i_4, .int i_5, .int i_6]))]) (fun (r : Int32) (u : Unit) => ((0 = r) ∨ (1 = r))) 0 0 := by
  refine mm_begin (lv := [(0, .ref a_0), (1, .ref (cy 110))]) (by decide) (Nat.le_of_ble_eq_true rfl) rfl ?_
  intro p e s m below meth c A ls R args Q H locs hRe hQ hAe hx hb hr hlocks hml hown hnm hts hsz hA hS hP hK hD hZ hl
  have hRf : R.frames = 4 := by rw [hRe]
  have hRl : R.locals = 85 := by rw [hRe]
  have hRc : R.cells = 0 := by rw [hRe]
  have hRs : R.slots = 0 := by rw [hRe]
  refine lv_aload_n hx hb dX7_isName_0 rfl (lv_at hl 1 rfl) ?_
  refine mm_finir (va_runV (As := []) (rest := []) ⟨hx, hb, hml, hown, hts⟩ (K191_J0_length_8abf5 l G cy H.size  ) (cwV 0 hts (mm_gV mm_w258 mm_w259 mm_w260 mm_w261 mm_w262) rfl rfl rfl hd_J0_length_8abf5 ⟨by rw [hRf]; exact Nat.le_of_ble_eq_true rfl, by rw [hRl]; exact Nat.le_of_ble_eq_true rfl⟩) (mm_preVS hK hZ hS hA hP hD [] rfl rfl 5 (by decide)) rfl rfl hl.1 rfl (lv_room (Nat.le_of_ble_eq_true rfl)) dX7_isName_1 ⟨by rw [hRc]; exact Nat.le_of_ble_eq_true rfl, by rw [hRs]; exact Nat.le_of_ble_eq_true rfl⟩) hP hD hS hA [] rfl (fun _ => rfl) ?_
  clear hP hD hS
  clear H locs
  intro v1 _u H locs hw hP hD hS
  subst hw
  refine lv_istore_n (lv' := [(2, .int 4), (0, .ref a_0), (1, .ref (cy 110))]) hx hb dX7_isName_4 rfl hl (by decide) rfl ?_
  clear hl
  clear ls
  intro ls hl
  refine lv_aload_n hx hb dX7_isName_5 rfl (lv_at hl 1 rfl) ?_
  refine va_get (D := G) (ci := 7) (v := .int i_3) (C := RX7) (T := TX7) (N := 8) hx hb hts (mm_i inlX7) hown hK.1 hP 2 rfl rfl 4 (by decide) (mm_h hts mm_w207) (fun _ h9 => h9) rfl dX7_isName_6 ?_
  refine lv_iconst (v := 2) hx hb dX7_isName_9 (by decide) ?_
  refine lv_icmp_ne (tgt := 40) hx hb dX7_isName_10 (by decide) (fun c2 => ?_) (fun c2 => ?_)
  · refine lv_iconst (v := 0) hx hb dX7_isName_40 (by decide) ?_
    subst hAe
    rw [hQ]
    exact W.zret (v := 0) hx hb hr rfl (fun t ht hW => ⟨⟨0, (), rfl, (Or.inl rfl), by rw [ht]; exact hP, hK.warm hW, hD⟩, hS.F ht⟩) hS.2.2 dX7_isName_41
  · have q3 := mm_eqI (lo := 2) (hi := 2) c2 h2 mm_k2 (by decide)
    refine lv_aload_n hx hb dX7_isName_13 rfl (lv_at hl 1 rfl) ?_
    refine va_get (D := G) (ci := 7) (v := .int i_5) (C := RX7) (T := TX7) (N := 8) hx hb hts (mm_i inlX7) hown hK.1 hP 2 rfl rfl 6 (by decide) (mm_h hts mm_w206) (fun _ h9 => h9) rfl dX7_isName_14 ?_
    refine lv_aload_n hx hb dX7_isName_17 rfl (lv_at hl 1 rfl) ?_
    refine va_get (D := G) (ci := 7) (v := .int i_4) (C := RX7) (T := TX7) (N := 8) hx hb hts (mm_i inlX7) hown hK.1 hP 2 rfl rfl 5 (by decide) (mm_h hts mm_w232) (fun _ h9 => h9) rfl dX7_isName_18 ?_
    refine lv_isub hx hb dX7_isName_21 ?_
    refine lv_topi (fun v4 ev4 => ?_)
    have rv4 : mm_rg v4 (-600) 600 := mm_sub ev4 h4 h3 (by decide) (by decide)
    have tv4 := mm_subE ev4 h4 h3 (by decide)
    refine lv_iload_n hx hb dX7_isName_22 rfl (lv_at hl 0 rfl) ?_
    refine lv_icmp_ne (tgt := 40) hx hb dX7_isName_23 (by decide) (fun c5 => ?_) (fun c5 => ?_)
    · refine lv_iconst (v := 0) hx hb dX7_isName_40 (by decide) ?_
      subst hAe
      rw [hQ]
      exact W.zret (v := 0) hx hb hr rfl (fun t ht hW => ⟨⟨0, (), rfl, (Or.inl rfl), by rw [ht]; exact hP, hK.warm hW, hD⟩, hS.F ht⟩) hS.2.2 dX7_isName_41
    · have q6 := mm_eqI (lo := 4) (hi := 4) c5 rv4 mm_k4 (by decide)
      have q7 : mm_rg i_4 0 596 := mm_unsubY tv4 q6 h4 h3 (by decide)
      have q8 : mm_rg i_5 4 600 := mm_unsubX tv4 q6 q7 h4 (by decide)
      refine lv_aload_n hx hb dX7_isName_26 rfl (lv_at hl 1 rfl) ?_
      refine va_get (D := G) (ci := 7) (v := .int i_5) (C := RX7) (T := TX7) (N := 8) hx hb hts (mm_i inlX7) hown hK.1 hP 2 rfl rfl 6 (by decide) (mm_h hts mm_w206) (fun _ h9 => h9) rfl dX7_isName_27 ?_
      refine lv_aload_n hx hb dX7_isName_30 rfl (lv_at hl 1 rfl) ?_
      refine va_get (D := G) (ci := 7) (v := .ref a_1) (C := RX7) (T := TX7) (N := 8) hx hb hts (mm_i inlX7) hown hK.1 hP 2 rfl rfl 0 (by decide) (mm_h hts mm_w67) (fun _ h9 => h9) rfl dX7_isName_31 ?_
      refine va_get (D := G) (ci := 9) (v := .int i_0) (C := RX9) (T := TX9) (N := 2) hx hb hts (mm_i inlX9) hown hK.1 hP 0 rfl rfl 1 (by decide) (mm_h hts mm_w231) (fun _ h9 => h9) rfl dX7_isName_34 ?_
      refine lv_icmp_le (tgt := 42) hx hb dX7_isName_37 (by decide) (fun c9 => ?_) (fun c9 => ?_)
      · have q10 := mm_leR (mm_le c9) q8 h0
        refine lv_iconst (v := 0) hx hb dX7_isName_42 (by decide) ?_
        refine lv_istore_n (lv' := [(3, .int 0), (2, .int 4), (0, .ref a_0), (1, .ref (cy 110))]) hx hb dX7_isName_43 rfl hl (by decide) rfl ?_
        clear hl
        clear ls
        intro ls hl
        have L44_71 : ∀ (n : Nat) (x44_3_71 : Int32), mm_rg x44_3_71 0 4 → (4 - x44_3_71.toInt).toNat < n → ∀ (H : Heap) (locs : List Loc), va_P G vwCl [(a_1, .inr (9, [.ref a_2, .int i_0])), (a_2, .inl (cy 0, 600, .inl f_0)), (a_0, .inr (7, [.ref a_1, .ref a_3, .int i_1, .int i_2, .int i_3, .int i_4, .int i_5, .int i_6]))] H → va_D A [(a_1, .inr (9, [.ref a_2, .int i_0])), (a_2, .inl (cy 0, 600, .inl f_0)), (a_0, .inr (7, [.ref a_1, .ref a_3, .int i_1, .int i_2, .int i_3, .int i_4, .int i_5, .int i_6]))] → va_S A s.heap H locs → ∀ (ls : Array Slot), lv_has ls 4 [(3, .int x44_3_71), (2, .int 4), (0, .ref a_0), (1, .ref (cy 110))] → W p l e R s m args below meth c H locs 0 0 Q (F0 m 44 ls []) := by
          intro n
          induction n with
          | zero => intro x44_3_71 rx44_3_71 hm; exact absurd hm (Nat.not_lt_zero _)
          | succ n ih44 =>
            intro x44_3_71 rx44_3_71 hm44 H locs hP hD hS ls hl
            refine lv_iload_n hx hb dX7_isName_44 rfl (lv_at hl 0 rfl) ?_
            refine lv_iload_n hx hb dX7_isName_45 rfl (lv_at hl 1 rfl) ?_
            refine lv_icmp_ge (tgt := 79) hx hb dX7_isName_46 (by decide) (fun c73 => ?_) (fun c73 => ?_)
            · have q74 := mm_leR (mm_le c73) mm_k4 rx44_3_71
              refine lv_iconst (v := 1) hx hb dX7_isName_79 (by decide) ?_
              subst hAe
              rw [hQ]
              exact W.zret (v := 1) hx hb hr rfl (fun t ht hW => ⟨⟨1, (), rfl, (Or.inr rfl), by rw [ht]; exact hP, hK.warm hW, hD⟩, hS.F ht⟩) hS.2.2 dX7_isName_80
            · have q75 := mm_ltL (h := 3) (mm_nle c73) rx44_3_71 mm_k4 (by decide)
              refine lv_aload_n hx hb dX7_isName_49 rfl (lv_at hl 2 rfl) ?_
              refine va_get (D := G) (ci := 7) (v := .ref a_1) (C := RX7) (T := TX7) (N := 8) hx hb hts (mm_i inlX7) hown hK.1 hP 2 rfl rfl 0 (by decide) (mm_h hts mm_w67) (fun _ h9 => h9) rfl dX7_isName_50 ?_
              refine va_get (D := G) (ci := 9) (v := .ref a_2) (C := RX9) (T := TX9) (N := 2) hx hb hts (mm_i inlX9) hown hK.1 hP 0 rfl rfl 0 (by decide) (mm_h hts mm_w238) (fun _ h9 => h9) rfl dX7_isName_53 ?_
              refine lv_aload_n hx hb dX7_isName_56 rfl (lv_at hl 2 rfl) ?_
              refine va_get (D := G) (ci := 7) (v := .int i_4) (C := RX7) (T := TX7) (N := 8) hx hb hts (mm_i inlX7) hown hK.1 hP 2 rfl rfl 5 (by decide) (mm_h hts mm_w232) (fun _ h9 => h9) rfl dX7_isName_57 ?_
              refine lv_iload_n hx hb dX7_isName_60 rfl (lv_at hl 0 rfl) ?_
              refine lv_iadd hx hb dX7_isName_61 ?_
              refine lv_topi (fun v76 ev76 => ?_)
              have rv76 : mm_rg v76 0 599 := mm_add ev76 q7 q75 (by decide) (by decide)
              have tv76 := mm_addE ev76 q7 q75 (by decide)
              refine va_bald hx hb hK.1 hP 1 0 rfl rfl (mm_in rv76 (by decide)) dX7_isName_62 ?_
              refine lv_topi (fun v77 ev77 => ?_)
              have rv77 : mm_rg v77 (-128) 127 := mm_eqv ev77 (h1 _)
              refine lv_aload_n hx hb dX7_isName_63 rfl (lv_at hl 3 rfl) ?_
              refine lv_iload_n hx hb dX7_isName_64 rfl (lv_at hl 0 rfl) ?_
              refine mm_finir (va_runV (As := [.int x44_3_71]) (rest := [.int v77]) ⟨hx, hb, hml, hown, hts⟩ (K202_J0_charAt_5068e l G cy H.size x44_3_71 q75) (cwV 1 hts (mm_gV mm_w270 mm_w271 mm_w272 mm_w261 mm_w273) rfl rfl rfl hd_J0_charAt_5068e ⟨by rw [hRf]; exact Nat.le_of_ble_eq_true rfl, by rw [hRl]; exact Nat.le_of_ble_eq_true rfl⟩) (mm_preVS hK hZ hS hA hP hD [] rfl rfl 5 (by decide)) rfl rfl hl.1 rfl (lv_room (Nat.le_of_ble_eq_true rfl)) dX7_isName_65 ⟨by rw [hRc]; exact Nat.le_of_ble_eq_true rfl, by rw [hRs]; exact Nat.le_of_ble_eq_true rfl⟩) hP hD hS hA [] rfl (fun _ => rfl) ?_
              clear hP hD hS
              clear H locs
              intro v78 _u H locs hw hP hD hS
              have w79 := hw
              refine lv_icmp_eq (tgt := 73) hx hb dX7_isName_68 (by decide) (fun c80 => ?_) (fun c80 => ?_)
              · have q81 := mm_eqI (lo := 0) (hi := 127) c80 rv77 w79 (by decide)
                have q82 := mm_eqI (lo := 0) (hi := 127) c80.symm w79 rv77 (by decide)
                obtain ⟨v83, ev83⟩ : ∃ y : Int32, y = x44_3_71 + 1 := ⟨_, rfl⟩
                refine lv_iinc (v := v83) (lv' := [(3, .int v83), (2, .int 4), (0, .ref a_0), (1, .ref (cy 110))]) hx hb dX7_isName_73 hl (k := 0) rfl (by rw [ev83]; rfl) (by decide) rfl ?_
                clear hl
                clear ls
                intro ls hl
                have rv83 : mm_rg v83 1 4 := mm_add ev83 q75 mm_k1 (by decide) (by decide)
                have tv83 := mm_addEc ev83 q75 mm_k1 (by decide) (k := 1) (by decide)
                refine lv_goto (tgt := 44) hx hb dX7_isName_76 (by decide) ?_
                exact ih44 v83 (mm_wk rv83 (by decide)) (mm_mu hm44 tv83 (by decide) (rv83).2 (by decide)) H locs hP hD hS ls (lv_sub hl [0, 1, 2, 3] rfl)
              · refine lv_iconst (v := 0) hx hb dX7_isName_71 (by decide) ?_
                subst hAe
                rw [hQ]
                exact W.zret (v := 0) hx hb hr rfl (fun t ht hW => ⟨⟨0, (), rfl, (Or.inl rfl), by rw [ht]; exact hP, hK.warm hW, hD⟩, hS.F ht⟩) hS.2.2 dX7_isName_72
        exact L44_71 _ 0 (mm_wk mm_k0 (by decide)) (Nat.lt_succ_self _) H locs hP hD hS ls (lv_sub hl [0, 1, 2, 3] rfl)
      · have q84 := mm_ltL (h := 599) (mm_nle c9) h0 q8 (by decide)
        refine lv_iconst (v := 0) hx hb dX7_isName_40 (by decide) ?_
        subst hAe
        rw [hQ]
        exact W.zret (v := 0) hx hb hr rfl (fun t ht hW => ⟨⟨0, (), rfl, (Or.inl rfl), by rw [ht]; exact hP, hK.warm hW, hD⟩, hS.F ht⟩) hS.2.2 dX7_isName_41

set_option maxHeartbeats 4000000 in
set_option maxRecDepth 100000 in
theorem K204_J0_coder_7d493 (l : Launch) (G : va_G) (cy : Nat → ClassId) (sz : Nat)    : mm_CI l yJ0_coder_7d493 (mm_ws yJ0_coder_7d493 cJ0_coder_7d493 1 (some .byte)) ({ frames := 0, cells := 0, slots := 0, locals := 0 } : Room) G cy sz [] [.ref (cy 112)] (fun u : Unit => []) (fun (r : Int32) (u : Unit) => 0 = r) 0 0 := by
  refine mm_begin (lv := [(0, .ref (cy 112))]) (by decide) (Nat.le_of_ble_eq_true rfl) rfl ?_
  intro p e s m below meth c A ls R args Q H locs hRe hQ hAe hx hb hr hlocks hml hown hnm hts hsz hA hS hP hK hD hZ hl
  have hRf : R.frames = 0 := by rw [hRe]
  have hRl : R.locals = 0 := by rw [hRe]
  have hRc : R.cells = 0 := by rw [hRe]
  have hRs : R.slots = 0 := by rw [hRe]
  refine va_gets hx hb hZ.2.1 hS hown (mm_h hts mm_w268) (fun _ h9 => h9) dJ0_coder_7d493_0 ?_
  refine lv_if_eq (tgt := 13) hx hb dJ0_coder_7d493_3 (by decide) (fun c1 => ?_) (fun c1 => ?_)
  · exact mm_eqN c1.symm mm_k0 mm_k1 (by decide)
  · refine lv_aload_n hx hb dJ0_coder_7d493_6 rfl (lv_at hl 0 rfl) ?_
    refine vk_getf hx hb ((hZ.1.1 6 (by decide)).2.1) hS hown (mm_h hts mm_w269) (fun _ h9 => h9) dJ0_coder_7d493_7 ?_
    refine W.eq (g2 := F0 m 10 ls [.int 0]) rfl ?_
    refine lv_goto (tgt := 14) hx hb dJ0_coder_7d493_10 (by decide) ?_
    subst hAe
    rw [hQ]
    exact W.zret (v := 0) hx hb hr rfl (fun t ht hW => ⟨⟨0, (), rfl, rfl, by rw [ht]; exact hP, hK.warm hW, hD⟩, hS.F ht⟩) hS.2.2 dJ0_coder_7d493_14

set_option maxHeartbeats 4000000 in
set_option maxRecDepth 100000 in
theorem K205_J0_length_8abf5 (l : Launch) (G : va_G) (cy : Nat → ClassId) (sz : Nat)    : mm_CI l yJ0_length_8abf5 (mm_ws yJ0_length_8abf5 cJ0_length_8abf5 1 (some .int)) ({ frames := 1, cells := 0, slots := 0, locals := 20 } : Room) G cy sz [] [.ref (cy 112)] (fun u : Unit => []) (fun (r : Int32) (u : Unit) => 6 = r) 0 0 := by
  refine mm_begin (lv := [(0, .ref (cy 112))]) (by decide) (Nat.le_of_ble_eq_true rfl) rfl ?_
  intro p e s m below meth c A ls R args Q H locs hRe hQ hAe hx hb hr hlocks hml hown hnm hts hsz hA hS hP hK hD hZ hl
  have hRf : R.frames = 1 := by rw [hRe]
  have hRl : R.locals = 20 := by rw [hRe]
  have hRc : R.cells = 0 := by rw [hRe]
  have hRs : R.slots = 0 := by rw [hRe]
  refine lv_aload_n hx hb dJ0_length_8abf5_0 rfl (lv_at hl 0 rfl) ?_
  refine vk_getf hx hb ((hZ.1.1 6 (by decide)).2.2.1) hS hown (mm_h hts mm_w263) (fun _ h9 => h9) dJ0_length_8abf5_1 ?_
  refine W.eq (g2 := F0 m 4 ls [.ref (cy 113)]) rfl ?_
  refine va_tlen hx hb ((hZ.1.1 6 (by decide)).2.2.2) hS (v := 6) (by decide) dJ0_length_8abf5_4 ?_
  refine lv_aload_n hx hb dJ0_length_8abf5_5 rfl (lv_at hl 0 rfl) ?_
  refine mm_finir (va_runV (As := []) (rest := [.int 6]) ⟨hx, hb, hml, hown, hts⟩ (K204_J0_coder_7d493 l G cy H.size  ) (cwV 0 hts (mm_gV mm_w264 mm_w265 mm_w266 mm_w261 mm_w267) rfl rfl rfl hd_J0_coder_7d493 ⟨by rw [hRf]; exact Nat.le_of_ble_eq_true rfl, by rw [hRl]; exact Nat.le_of_ble_eq_true rfl⟩) (mm_preVS hK hZ hS hA hP hD [] rfl rfl 6 (by decide)) rfl rfl hl.1 rfl (lv_room (Nat.le_of_ble_eq_true rfl)) dJ0_length_8abf5_6 ⟨by rw [hRc]; exact Nat.le_of_ble_eq_true rfl, by rw [hRs]; exact Nat.le_of_ble_eq_true rfl⟩) hP hD hS hA [] rfl (fun _ => rfl) ?_
  clear hP hD hS
  clear H locs
  intro v1 _u H locs hw hP hD hS
  subst hw
  refine lv_ishr hx hb dJ0_length_8abf5_9 ?_
  refine lv_topi (fun v2 ev2 => ?_)
  obtain rfl : v2 = 6 := ev2.trans (by decide)
  subst hAe
  rw [hQ]
  exact W.iret (v := 6) hx hb hr (fun t ht hW => ⟨⟨6, (), rfl, rfl, by rw [ht]; exact hP, hK.warm hW, hD⟩, hS.F ht⟩) hS.2.2 dJ0_length_8abf5_10

set_option maxHeartbeats 4000000 in
set_option maxRecDepth 100000 in
theorem K206_J0_isLatin1_aae02 (l : Launch) (G : va_G) (cy : Nat → ClassId) (sz : Nat)    : mm_CI l yJ0_isLatin1_aae02 (mm_ws yJ0_isLatin1_aae02 cJ0_isLatin1_aae02 1 (some .boolean)) ({ frames := 0, cells := 0, slots := 0, locals := 0 } : Room) G cy sz [] [.ref (cy 112)] (fun u : Unit => []) (fun (r : Int32) (u : Unit) => 1 = r) 0 0 := by
  refine mm_begin (lv := [(0, .ref (cy 112))]) (by decide) (Nat.le_of_ble_eq_true rfl) rfl ?_
  intro p e s m below meth c A ls R args Q H locs hRe hQ hAe hx hb hr hlocks hml hown hnm hts hsz hA hS hP hK hD hZ hl
  have hRf : R.frames = 0 := by rw [hRe]
  have hRl : R.locals = 0 := by rw [hRe]
  have hRc : R.cells = 0 := by rw [hRe]
  have hRs : R.slots = 0 := by rw [hRe]
  refine va_gets hx hb hZ.2.1 hS hown (mm_h hts mm_w268) (fun _ h9 => h9) dJ0_isLatin1_aae02_0 ?_
  refine lv_if_eq (tgt := 17) hx hb dJ0_isLatin1_aae02_3 (by decide) (fun c1 => ?_) (fun c1 => ?_)
  · exact mm_eqN c1.symm mm_k0 mm_k1 (by decide)
  · refine lv_aload_n hx hb dJ0_isLatin1_aae02_6 rfl (lv_at hl 0 rfl) ?_
    refine vk_getf hx hb ((hZ.1.1 6 (by decide)).2.1) hS hown (mm_h hts mm_w269) (fun _ h9 => h9) dJ0_isLatin1_aae02_7 ?_
    refine W.eq (g2 := F0 m 10 ls [.int 0]) rfl ?_
    refine lv_if_ne (tgt := 17) hx hb dJ0_isLatin1_aae02_10 (by decide) (fun c2 => ?_) (fun c2 => ?_)
    · have q3 := mm_neL (lo := 1) (mm_ne c2) mm_k0 mm_k0 (by decide) (by decide)
      exact mm_no q3 (by decide)
    · refine lv_iconst (v := 1) hx hb dJ0_isLatin1_aae02_13 (by decide) ?_
      refine lv_goto (tgt := 18) hx hb dJ0_isLatin1_aae02_14 (by decide) ?_
      subst hAe
      rw [hQ]
      exact W.zret (v := 1) hx hb hr rfl (fun t ht hW => ⟨⟨1, (), rfl, rfl, by rw [ht]; exact hP, hK.warm hW, hD⟩, hS.F ht⟩) hS.2.2 dJ0_isLatin1_aae02_18

set_option maxHeartbeats 4000000 in
set_option maxRecDepth 100000 in
theorem K237_J3_checkIndex_8e157 (l : Launch) (G : va_G) (cy : Nat → ClassId) (sz : Nat) (i_0 : Int32) (h0 : mm_rg i_0 0 5)  : mm_CI l yJ3_checkIndex_8e157 (mm_ws yJ3_checkIndex_8e157 cJ3_checkIndex_8e157 3 (some .int)) ({ frames := 0, cells := 0, slots := 0, locals := 0 } : Room) G cy sz [] [.int i_0, .int 6, .null] (fun u : Unit => []) (fun (r : Int32) (u : Unit) => mm_rg r 0 5) 0 0 := by
  refine mm_begin (lv := [(0, .int i_0), (1, .int 6), (2, .null)]) (by decide) (Nat.le_of_ble_eq_true rfl) rfl ?_
  intro p e s m below meth c A ls R args Q H locs hRe hQ hAe hx hb hr hlocks hml hown hnm hts hsz hA hS hP hK hD hZ hl
  have hRf : R.frames = 0 := by rw [hRe]
  have hRl : R.locals = 0 := by rw [hRe]
  have hRc : R.cells = 0 := by rw [hRe]
  have hRs : R.slots = 0 := by rw [hRe]
  refine lv_iload_n hx hb dJ3_checkIndex_8e157_0 rfl (lv_at hl 0 rfl) ?_
  refine lv_if_lt (tgt := 9) hx hb dJ3_checkIndex_8e157_1 (by decide) (fun c1 => ?_) (fun c1 => ?_)
  · have q2 := mm_ltL (h := (-1)) (mm_lt c1) h0 mm_k0 (by decide)
    exact mm_no q2 (by decide)
  · refine lv_iload_n hx hb dJ3_checkIndex_8e157_4 rfl (lv_at hl 0 rfl) ?_
    refine lv_iload_n hx hb dJ3_checkIndex_8e157_5 rfl (lv_at hl 1 rfl) ?_
    refine lv_icmp_lt (tgt := 16) hx hb dJ3_checkIndex_8e157_6 (by decide) (fun c3 => ?_) (fun c3 => ?_)
    · refine lv_iload_n hx hb dJ3_checkIndex_8e157_16 rfl (lv_at hl 0 rfl) ?_
      subst hAe
      rw [hQ]
      exact W.iret (v := i_0) hx hb hr (fun t ht hW => ⟨⟨i_0, (), rfl, h0, by rw [ht]; exact hP, hK.warm hW, hD⟩, hS.F ht⟩) hS.2.2 dJ3_checkIndex_8e157_17
    · have q4 := mm_leL (mm_nlt c3) mm_k6 h0
      exact mm_no q4 (by decide)

set_option maxHeartbeats 4000000 in
set_option maxRecDepth 100000 in
theorem K238_J3_checkIndex_8e157 (l : Launch) (G : va_G) (cy : Nat → ClassId) (sz : Nat) (i_0 : Int32) (a_0 : Nat) (h0 : mm_rg i_0 0 5)  : mm_CI l yJ3_checkIndex_8e157 (mm_ws yJ3_checkIndex_8e157 cJ3_checkIndex_8e157 3 (some .int)) ({ frames := 0, cells := 0, slots := 0, locals := 0 } : Room) G cy sz [] [.int i_0, .int 6, .ref a_0] (fun u : Unit => []) (fun (r : Int32) (u : Unit) => mm_rg r 0 5) 0 0 := by
  refine mm_begin (lv := [(0, .int i_0), (1, .int 6), (2, .ref a_0)]) (by decide) (Nat.le_of_ble_eq_true rfl) rfl ?_
  intro p e s m below meth c A ls R args Q H locs hRe hQ hAe hx hb hr hlocks hml hown hnm hts hsz hA hS hP hK hD hZ hl
  have hRf : R.frames = 0 := by rw [hRe]
  have hRl : R.locals = 0 := by rw [hRe]
  have hRc : R.cells = 0 := by rw [hRe]
  have hRs : R.slots = 0 := by rw [hRe]
  refine lv_iload_n hx hb dJ3_checkIndex_8e157_0 rfl (lv_at hl 0 rfl) ?_
  refine lv_if_lt (tgt := 9) hx hb dJ3_checkIndex_8e157_1 (by decide) (fun c1 => ?_) (fun c1 => ?_)
  · have q2 := mm_ltL (h := (-1)) (mm_lt c1) h0 mm_k0 (by decide)
    exact mm_no q2 (by decide)
  · refine lv_iload_n hx hb dJ3_checkIndex_8e157_4 rfl (lv_at hl 0 rfl) ?_
    refine lv_iload_n hx hb dJ3_checkIndex_8e157_5 rfl (lv_at hl 1 rfl) ?_
    refine lv_icmp_lt (tgt := 16) hx hb dJ3_checkIndex_8e157_6 (by decide) (fun c3 => ?_) (fun c3 => ?_)
    · refine lv_iload_n hx hb dJ3_checkIndex_8e157_16 rfl (lv_at hl 0 rfl) ?_
      subst hAe
      rw [hQ]
      exact W.iret (v := i_0) hx hb hr (fun t ht hW => ⟨⟨i_0, (), rfl, h0, by rw [ht]; exact hP, hK.warm hW, hD⟩, hS.F ht⟩) hS.2.2 dJ3_checkIndex_8e157_17
    · have q4 := mm_leL (mm_nlt c3) mm_k6 h0
      exact mm_no q4 (by decide)

set_option maxHeartbeats 4000000 in
set_option maxRecDepth 100000 in
theorem K239_J0_checkIndex_df160 (l : Launch) (G : va_G) (cy : Nat → ClassId) (sz : Nat) (i_0 : Int32) (h0 : mm_rg i_0 0 5)  : mm_CV l yJ0_checkIndex_df160 (mm_ws yJ0_checkIndex_df160 cJ0_checkIndex_df160 2 (none)) ({ frames := 1, cells := 0, slots := 0, locals := 22 } : Room) G cy sz [] [.int i_0, .int 6] (fun u : Unit => []) (fun u : Unit => True) 0 0 := by
  refine mm_begin (lv := [(0, .int i_0), (1, .int 6)]) (by decide) (Nat.le_of_ble_eq_true rfl) rfl ?_
  intro p e s m below meth c A ls R args Q H locs hRe hQ hAe hx hb hr hlocks hml hown hnm hts hsz hA hS hP hK hD hZ hl
  have hRf : R.frames = 1 := by rw [hRe]
  have hRl : R.locals = 22 := by rw [hRe]
  have hRc : R.cells = 0 := by rw [hRe]
  have hRs : R.slots = 0 := by rw [hRe]
  refine lv_iload_n hx hb dJ0_checkIndex_df160_0 rfl (lv_at hl 0 rfl) ?_
  refine lv_iload_n hx hb dJ0_checkIndex_df160_1 rfl (lv_at hl 1 rfl) ?_
  rcases hZ.2.2 with hz1 | ⟨z1, hz1⟩
  · refine va_gets hx hb hz1 hS hown (mm_h hts mm_w285) (fun _ h9 => h9) dJ0_checkIndex_df160_2 ?_
    refine mm_finir (va_runS (As := [.int i_0, .int 6, .null]) (rest := []) ⟨hx, hb, hml, hown, hts⟩ (K237_J3_checkIndex_8e157 l G cy H.size i_0 h0) (va_cwS 3 hts (mm_gS mm_w286 mm_w287 mm_w288 mm_w289) rfl rfl rfl hs_J3_checkIndex_8e157 ⟨by rw [hRf]; exact Nat.le_of_ble_eq_true rfl, by rw [hRl]; exact Nat.le_of_ble_eq_true rfl⟩) (mm_preS hK hZ hS hA hP hD [] rfl rfl) rfl rfl hl.1 rfl (lv_room (Nat.le_of_ble_eq_true rfl)) dJ0_checkIndex_df160_5 ⟨by rw [hRc]; exact Nat.le_of_ble_eq_true rfl, by rw [hRs]; exact Nat.le_of_ble_eq_true rfl⟩) hP hD hS hA [] rfl (fun _ => rfl) ?_
    clear hP hD hS
    clear H locs
    intro v2 _u H locs hw hP hD hS
    have w3 := hw
    refine lv_pop hx hb dJ0_checkIndex_df160_8 rfl ?_
    subst hAe
    rw [hQ]
    exact W.vret hx hb hr (fun t ht hW => ⟨⟨(), rfl, trivial, by rw [ht]; exact hP, hK.warm hW, hD⟩, hS.F ht⟩) hS.2.2 dJ0_checkIndex_df160_9
  · refine va_gets hx hb hz1 hS hown (mm_h hts mm_w285) (fun _ h9 => h9) dJ0_checkIndex_df160_2 ?_
    refine mm_finir (va_runS (As := [.int i_0, .int 6, .ref z1]) (rest := []) ⟨hx, hb, hml, hown, hts⟩ (K238_J3_checkIndex_8e157 l G cy H.size i_0 z1 h0) (va_cwS 3 hts (mm_gS mm_w286 mm_w287 mm_w288 mm_w289) rfl rfl rfl hs_J3_checkIndex_8e157 ⟨by rw [hRf]; exact Nat.le_of_ble_eq_true rfl, by rw [hRl]; exact Nat.le_of_ble_eq_true rfl⟩) (mm_preS hK hZ hS hA hP hD [] rfl rfl) rfl rfl hl.1 rfl (lv_room (Nat.le_of_ble_eq_true rfl)) dJ0_checkIndex_df160_5 ⟨by rw [hRc]; exact Nat.le_of_ble_eq_true rfl, by rw [hRs]; exact Nat.le_of_ble_eq_true rfl⟩) hP hD hS hA [] rfl (fun _ => rfl) ?_
    clear hP hD hS
    clear H locs
    intro v4 _u H locs hw hP hD hS
    have w5 := hw
    refine lv_pop hx hb dJ0_checkIndex_df160_8 rfl ?_
    subst hAe
    rw [hQ]
    exact W.vret hx hb hr (fun t ht hW => ⟨⟨(), rfl, trivial, by rw [ht]; exact hP, hK.warm hW, hD⟩, hS.F ht⟩) hS.2.2 dJ0_checkIndex_df160_9

set_option maxHeartbeats 4000000 in
set_option maxRecDepth 100000 in
theorem K240_J1_charAt_3b067 (l : Launch) (G : va_G) (cy : Nat → ClassId) (sz : Nat) (i_0 : Int32) (h0 : mm_rg i_0 0 5)  : mm_CI l yJ1_charAt_3b067 (mm_ws yJ1_charAt_3b067 cJ1_charAt_3b067 2 (some .char)) ({ frames := 2, cells := 0, slots := 0, locals := 43 } : Room) G cy sz [] [.ref (cy 113), .int i_0] (fun u : Unit => []) (fun (r : Int32) (u : Unit) => mm_rg r 0 65535) 0 0 := by
  refine mm_begin (lv := [(0, .ref (cy 113)), (1, .int i_0)]) (by decide) (Nat.le_of_ble_eq_true rfl) rfl ?_
  intro p e s m below meth c A ls R args Q H locs hRe hQ hAe hx hb hr hlocks hml hown hnm hts hsz hA hS hP hK hD hZ hl
  have hRf : R.frames = 2 := by rw [hRe]
  have hRl : R.locals = 43 := by rw [hRe]
  have hRc : R.cells = 0 := by rw [hRe]
  have hRs : R.slots = 0 := by rw [hRe]
  refine lv_iload_n hx hb dJ1_charAt_3b067_0 rfl (lv_at hl 1 rfl) ?_
  refine lv_aload_n hx hb dJ1_charAt_3b067_1 rfl (lv_at hl 0 rfl) ?_
  refine va_tlen hx hb ((hZ.1.1 6 (by decide)).2.2.2) hS (v := 6) (by decide) dJ1_charAt_3b067_2 ?_
  refine mm_finvr (va_runS (As := [.int i_0, .int 6]) (rest := []) ⟨hx, hb, hml, hown, hts⟩ (K239_J0_checkIndex_df160 l G cy H.size i_0 h0) (va_cwS 2 hts (mm_gS mm_w282 mm_w283 mm_w261 mm_w284) rfl rfl rfl hs_J0_checkIndex_df160 ⟨by rw [hRf]; exact Nat.le_of_ble_eq_true rfl, by rw [hRl]; exact Nat.le_of_ble_eq_true rfl⟩) (mm_preS hK hZ hS hA hP hD [] rfl rfl) rfl rfl hl.1 rfl (lv_room (Nat.le_of_ble_eq_true rfl)) dJ1_charAt_3b067_3 ⟨by rw [hRc]; exact Nat.le_of_ble_eq_true rfl, by rw [hRs]; exact Nat.le_of_ble_eq_true rfl⟩) hP hD hS hA [] rfl (fun _ => rfl) ?_
  clear hP hD hS
  clear H locs
  intro _u H locs hw hP hD hS
  refine lv_aload_n hx hb dJ1_charAt_3b067_6 rfl (lv_at hl 0 rfl) ?_
  refine lv_iload_n hx hb dJ1_charAt_3b067_7 rfl (lv_at hl 1 rfl) ?_
  refine va_tb hx hb ((hZ.1.1 6 (by decide)).2.2.2) hS (mm_in h0 (by decide)) rfl dJ1_charAt_3b067_8 ?_
  refine lv_topi (fun v1 ev1 => ?_)
  refine lv_sipush (v := 255) hx hb dJ1_charAt_3b067_9 (by decide) ?_
  refine lv_iand hx hb dJ1_charAt_3b067_12 ?_
  refine lv_topi (fun v2 ev2 => ?_)
  have rv2 : mm_rg v2 0 255 := mm_andR ev2 mm_k255 (by decide)
  obtain ⟨v3, ev3⟩ : ∃ y : Int32, y = (v2.toUInt32 % 65536).toInt32 := ⟨_, rfl⟩
  refine lv_i2c hx hb dJ1_charAt_3b067_13 ev3.symm ?_
  have rv3 : mm_rg v3 0 65535 := mm_i2c ev3
  subst hAe
  rw [hQ]
  exact W.zret (v := v3) hx hb hr (mm_nch rv3) (fun t ht hW => ⟨⟨v3, (), rfl, rv3, by rw [ht]; exact hP, hK.warm hW, hD⟩, hS.F ht⟩) hS.2.2 dJ1_charAt_3b067_14

set_option maxHeartbeats 4000000 in
set_option maxRecDepth 100000 in
theorem K241_J0_charAt_5068e (l : Launch) (G : va_G) (cy : Nat → ClassId) (sz : Nat) (i_0 : Int32) (h0 : mm_rg i_0 0 5)  : mm_CI l yJ0_charAt_5068e (mm_ws yJ0_charAt_5068e cJ0_charAt_5068e 2 (some .char)) ({ frames := 3, cells := 0, slots := 0, locals := 64 } : Room) G cy sz [] [.ref (cy 112), .int i_0] (fun u : Unit => []) (fun (r : Int32) (u : Unit) => mm_rg r 0 65535) 0 0 := by
  refine mm_begin (lv := [(0, .ref (cy 112)), (1, .int i_0)]) (by decide) (Nat.le_of_ble_eq_true rfl) rfl ?_
  intro p e s m below meth c A ls R args Q H locs hRe hQ hAe hx hb hr hlocks hml hown hnm hts hsz hA hS hP hK hD hZ hl
  have hRf : R.frames = 3 := by rw [hRe]
  have hRl : R.locals = 64 := by rw [hRe]
  have hRc : R.cells = 0 := by rw [hRe]
  have hRs : R.slots = 0 := by rw [hRe]
  refine lv_aload_n hx hb dJ0_charAt_5068e_0 rfl (lv_at hl 0 rfl) ?_
  refine mm_finir (va_runV (As := []) (rest := []) ⟨hx, hb, hml, hown, hts⟩ (K206_J0_isLatin1_aae02 l G cy H.size  ) (cwV 0 hts (mm_gV mm_w274 mm_w275 mm_w276 mm_w261 mm_w277) rfl rfl rfl hd_J0_isLatin1_aae02 ⟨by rw [hRf]; exact Nat.le_of_ble_eq_true rfl, by rw [hRl]; exact Nat.le_of_ble_eq_true rfl⟩) (mm_preVS hK hZ hS hA hP hD [] rfl rfl 6 (by decide)) rfl rfl hl.1 rfl (lv_room (Nat.le_of_ble_eq_true rfl)) dJ0_charAt_5068e_1 ⟨by rw [hRc]; exact Nat.le_of_ble_eq_true rfl, by rw [hRs]; exact Nat.le_of_ble_eq_true rfl⟩) hP hD hS hA [] rfl (fun _ => rfl) ?_
  clear hP hD hS
  clear H locs
  intro v1 _u H locs hw hP hD hS
  subst hw
  refine lv_if_eq (tgt := 16) hx hb dJ0_charAt_5068e_4 (by decide) (fun c2 => ?_) (fun c2 => ?_)
  · exact mm_eqN c2.symm mm_k0 mm_k1 (by decide)
  · refine lv_aload_n hx hb dJ0_charAt_5068e_7 rfl (lv_at hl 0 rfl) ?_
    refine vk_getf hx hb ((hZ.1.1 6 (by decide)).2.2.1) hS hown (mm_h hts mm_w263) (fun _ h9 => h9) dJ0_charAt_5068e_8 ?_
    refine W.eq (g2 := F0 m 11 ls [.ref (cy 113)]) rfl ?_
    refine lv_iload_n hx hb dJ0_charAt_5068e_11 rfl (lv_at hl 1 rfl) ?_
    refine mm_finir (va_runS (As := [.ref (cy 113), .int i_0]) (rest := []) ⟨hx, hb, hml, hown, hts⟩ (K240_J1_charAt_3b067 l G cy H.size i_0 h0) (va_cwS 2 hts (mm_gS mm_w278 mm_w279 mm_w280 mm_w281) rfl rfl rfl hs_J1_charAt_3b067 ⟨by rw [hRf]; exact Nat.le_of_ble_eq_true rfl, by rw [hRl]; exact Nat.le_of_ble_eq_true rfl⟩) (mm_preS hK hZ hS hA hP hD [] rfl rfl) rfl rfl hl.1 rfl (lv_room (Nat.le_of_ble_eq_true rfl)) dJ0_charAt_5068e_12 ⟨by rw [hRc]; exact Nat.le_of_ble_eq_true rfl, by rw [hRs]; exact Nat.le_of_ble_eq_true rfl⟩) hP hD hS hA [] rfl (fun _ => rfl) ?_
    clear hP hD hS
    clear H locs
    intro v3 _u H locs hw hP hD hS
    have w4 := hw
    subst hAe
    rw [hQ]
    exact W.zret (v := v3) hx hb hr (mm_nch w4) (fun t ht hW => ⟨⟨v3, (), rfl, w4, by rw [ht]; exact hP, hK.warm hW, hD⟩, hS.F ht⟩) hS.2.2 dJ0_charAt_5068e_15

set_option maxHeartbeats 4000000 in
set_option maxRecDepth 100000 in
theorem K242_X7_isName (l : Launch) (G : va_G) (cy : Nat → ClassId) (sz : Nat) (a_0 : Nat) (a_1 : Nat) (a_2 : Nat) (i_0 : Int32) (f_0 : Nat → Int32) (a_3 : Nat) (i_1 : Int32) (i_2 : Int32) (i_3 : Int32) (i_4 : Int32) (i_5 : Int32) (i_6 : Int32) (h0 : mm_rg i_0 0 600) (h1 : mm_ar f_0 (-128) 127) (h2 : mm_rg i_3 0 5) (h3 : mm_rg i_4 0 600) (h4 : mm_rg i_5 0 600)  : mm_CI l yX7_isName (mm_ws yX7_isName cX7_isName 4 (some .boolean)) ({ frames := 4, cells := 0, slots := 0, locals := 85 } : Room) G cy sz [(a_1, .inr (9, [.ref a_2, .int i_0])), (a_2, .inl (cy 0, 600, .inl f_0)), (a_0, .inr (7, [.ref a_1, .ref a_3, .int i_1, .int i_2, .int i_3, .int i_4, .int i_5, .int i_6]))] [.ref a_0, .ref (cy 112)] (fun u : Unit => [(a_1, .inr (9, [.ref a_2, .int i_0])), (a_2, .inl (cy 0, 600, .inl f_0)), (a_0, .inr (7, [.ref a_1, .ref a_3, .int i_1, .int i_2, .int i_3, .int i_4, .int i_5, .int i_6]))]) (fun (r : Int32) (u : Unit) => ((0 = r) ∨ (1 = r))) 0 0 := by
  refine mm_begin (lv := [(0, .ref a_0), (1, .ref (cy 112))]) (by decide) (Nat.le_of_ble_eq_true rfl) rfl ?_
  intro p e s m below meth c A ls R args Q H locs hRe hQ hAe hx hb hr hlocks hml hown hnm hts hsz hA hS hP hK hD hZ hl
  have hRf : R.frames = 4 := by rw [hRe]
  have hRl : R.locals = 85 := by rw [hRe]
  have hRc : R.cells = 0 := by rw [hRe]
  have hRs : R.slots = 0 := by rw [hRe]
  refine lv_aload_n hx hb dX7_isName_0 rfl (lv_at hl 1 rfl) ?_
  refine mm_finir (va_runV (As := []) (rest := []) ⟨hx, hb, hml, hown, hts⟩ (K205_J0_length_8abf5 l G cy H.size  ) (cwV 0 hts (mm_gV mm_w258 mm_w259 mm_w260 mm_w261 mm_w262) rfl rfl rfl hd_J0_length_8abf5 ⟨by rw [hRf]; exact Nat.le_of_ble_eq_true rfl, by rw [hRl]; exact Nat.le_of_ble_eq_true rfl⟩) (mm_preVS hK hZ hS hA hP hD [] rfl rfl 6 (by decide)) rfl rfl hl.1 rfl (lv_room (Nat.le_of_ble_eq_true rfl)) dX7_isName_1 ⟨by rw [hRc]; exact Nat.le_of_ble_eq_true rfl, by rw [hRs]; exact Nat.le_of_ble_eq_true rfl⟩) hP hD hS hA [] rfl (fun _ => rfl) ?_
  clear hP hD hS
  clear H locs
  intro v1 _u H locs hw hP hD hS
  subst hw
  refine lv_istore_n (lv' := [(2, .int 6), (0, .ref a_0), (1, .ref (cy 112))]) hx hb dX7_isName_4 rfl hl (by decide) rfl ?_
  clear hl
  clear ls
  intro ls hl
  refine lv_aload_n hx hb dX7_isName_5 rfl (lv_at hl 1 rfl) ?_
  refine va_get (D := G) (ci := 7) (v := .int i_3) (C := RX7) (T := TX7) (N := 8) hx hb hts (mm_i inlX7) hown hK.1 hP 2 rfl rfl 4 (by decide) (mm_h hts mm_w207) (fun _ h9 => h9) rfl dX7_isName_6 ?_
  refine lv_iconst (v := 2) hx hb dX7_isName_9 (by decide) ?_
  refine lv_icmp_ne (tgt := 40) hx hb dX7_isName_10 (by decide) (fun c2 => ?_) (fun c2 => ?_)
  · refine lv_iconst (v := 0) hx hb dX7_isName_40 (by decide) ?_
    subst hAe
    rw [hQ]
    exact W.zret (v := 0) hx hb hr rfl (fun t ht hW => ⟨⟨0, (), rfl, (Or.inl rfl), by rw [ht]; exact hP, hK.warm hW, hD⟩, hS.F ht⟩) hS.2.2 dX7_isName_41
  · have q3 := mm_eqI (lo := 2) (hi := 2) c2 h2 mm_k2 (by decide)
    refine lv_aload_n hx hb dX7_isName_13 rfl (lv_at hl 1 rfl) ?_
    refine va_get (D := G) (ci := 7) (v := .int i_5) (C := RX7) (T := TX7) (N := 8) hx hb hts (mm_i inlX7) hown hK.1 hP 2 rfl rfl 6 (by decide) (mm_h hts mm_w206) (fun _ h9 => h9) rfl dX7_isName_14 ?_
    refine lv_aload_n hx hb dX7_isName_17 rfl (lv_at hl 1 rfl) ?_
    refine va_get (D := G) (ci := 7) (v := .int i_4) (C := RX7) (T := TX7) (N := 8) hx hb hts (mm_i inlX7) hown hK.1 hP 2 rfl rfl 5 (by decide) (mm_h hts mm_w232) (fun _ h9 => h9) rfl dX7_isName_18 ?_
    refine lv_isub hx hb dX7_isName_21 ?_
    refine lv_topi (fun v4 ev4 => ?_)
    have rv4 : mm_rg v4 (-600) 600 := mm_sub ev4 h4 h3 (by decide) (by decide)
    have tv4 := mm_subE ev4 h4 h3 (by decide)
    refine lv_iload_n hx hb dX7_isName_22 rfl (lv_at hl 0 rfl) ?_
    refine lv_icmp_ne (tgt := 40) hx hb dX7_isName_23 (by decide) (fun c5 => ?_) (fun c5 => ?_)
    · refine lv_iconst (v := 0) hx hb dX7_isName_40 (by decide) ?_
      subst hAe
      rw [hQ]
      exact W.zret (v := 0) hx hb hr rfl (fun t ht hW => ⟨⟨0, (), rfl, (Or.inl rfl), by rw [ht]; exact hP, hK.warm hW, hD⟩, hS.F ht⟩) hS.2.2 dX7_isName_41
    · have q6 := mm_eqI (lo := 6) (hi := 6) c5 rv4 mm_k6 (by decide)
      have q7 : mm_rg i_4 0 594 := mm_unsubY tv4 q6 h4 h3 (by decide)
      have q8 : mm_rg i_5 6 600 := mm_unsubX tv4 q6 q7 h4 (by decide)
      refine lv_aload_n hx hb dX7_isName_26 rfl (lv_at hl 1 rfl) ?_
      refine va_get (D := G) (ci := 7) (v := .int i_5) (C := RX7) (T := TX7) (N := 8) hx hb hts (mm_i inlX7) hown hK.1 hP 2 rfl rfl 6 (by decide) (mm_h hts mm_w206) (fun _ h9 => h9) rfl dX7_isName_27 ?_
      refine lv_aload_n hx hb dX7_isName_30 rfl (lv_at hl 1 rfl) ?_
      refine va_get (D := G) (ci := 7) (v := .ref a_1) (C := RX7) (T := TX7) (N := 8) hx hb hts (mm_i inlX7) hown hK.1 hP 2 rfl rfl 0 (by decide) (mm_h hts mm_w67) (fun _ h9 => h9) rfl dX7_isName_31 ?_
      refine va_get (D := G) (ci := 9) (v := .int i_0) (C := RX9) (T := TX9) (N := 2) hx hb hts (mm_i inlX9) hown hK.1 hP 0 rfl rfl 1 (by decide) (mm_h hts mm_w231) (fun _ h9 => h9) rfl dX7_isName_34 ?_
      refine lv_icmp_le (tgt := 42) hx hb dX7_isName_37 (by decide) (fun c9 => ?_) (fun c9 => ?_)
      · have q10 := mm_leR (mm_le c9) q8 h0
        refine lv_iconst (v := 0) hx hb dX7_isName_42 (by decide) ?_
        refine lv_istore_n (lv' := [(3, .int 0), (2, .int 6), (0, .ref a_0), (1, .ref (cy 112))]) hx hb dX7_isName_43 rfl hl (by decide) rfl ?_
        clear hl
        clear ls
        intro ls hl
        have L44_91 : ∀ (n : Nat) (x44_3_91 : Int32), mm_rg x44_3_91 0 6 → (6 - x44_3_91.toInt).toNat < n → ∀ (H : Heap) (locs : List Loc), va_P G vwCl [(a_1, .inr (9, [.ref a_2, .int i_0])), (a_2, .inl (cy 0, 600, .inl f_0)), (a_0, .inr (7, [.ref a_1, .ref a_3, .int i_1, .int i_2, .int i_3, .int i_4, .int i_5, .int i_6]))] H → va_D A [(a_1, .inr (9, [.ref a_2, .int i_0])), (a_2, .inl (cy 0, 600, .inl f_0)), (a_0, .inr (7, [.ref a_1, .ref a_3, .int i_1, .int i_2, .int i_3, .int i_4, .int i_5, .int i_6]))] → va_S A s.heap H locs → ∀ (ls : Array Slot), lv_has ls 4 [(3, .int x44_3_91), (2, .int 6), (0, .ref a_0), (1, .ref (cy 112))] → W p l e R s m args below meth c H locs 0 0 Q (F0 m 44 ls []) := by
          intro n
          induction n with
          | zero => intro x44_3_91 rx44_3_91 hm; exact absurd hm (Nat.not_lt_zero _)
          | succ n ih44 =>
            intro x44_3_91 rx44_3_91 hm44 H locs hP hD hS ls hl
            refine lv_iload_n hx hb dX7_isName_44 rfl (lv_at hl 0 rfl) ?_
            refine lv_iload_n hx hb dX7_isName_45 rfl (lv_at hl 1 rfl) ?_
            refine lv_icmp_ge (tgt := 79) hx hb dX7_isName_46 (by decide) (fun c93 => ?_) (fun c93 => ?_)
            · have q94 := mm_leR (mm_le c93) mm_k6 rx44_3_91
              refine lv_iconst (v := 1) hx hb dX7_isName_79 (by decide) ?_
              subst hAe
              rw [hQ]
              exact W.zret (v := 1) hx hb hr rfl (fun t ht hW => ⟨⟨1, (), rfl, (Or.inr rfl), by rw [ht]; exact hP, hK.warm hW, hD⟩, hS.F ht⟩) hS.2.2 dX7_isName_80
            · have q95 := mm_ltL (h := 5) (mm_nle c93) rx44_3_91 mm_k6 (by decide)
              refine lv_aload_n hx hb dX7_isName_49 rfl (lv_at hl 2 rfl) ?_
              refine va_get (D := G) (ci := 7) (v := .ref a_1) (C := RX7) (T := TX7) (N := 8) hx hb hts (mm_i inlX7) hown hK.1 hP 2 rfl rfl 0 (by decide) (mm_h hts mm_w67) (fun _ h9 => h9) rfl dX7_isName_50 ?_
              refine va_get (D := G) (ci := 9) (v := .ref a_2) (C := RX9) (T := TX9) (N := 2) hx hb hts (mm_i inlX9) hown hK.1 hP 0 rfl rfl 0 (by decide) (mm_h hts mm_w238) (fun _ h9 => h9) rfl dX7_isName_53 ?_
              refine lv_aload_n hx hb dX7_isName_56 rfl (lv_at hl 2 rfl) ?_
              refine va_get (D := G) (ci := 7) (v := .int i_4) (C := RX7) (T := TX7) (N := 8) hx hb hts (mm_i inlX7) hown hK.1 hP 2 rfl rfl 5 (by decide) (mm_h hts mm_w232) (fun _ h9 => h9) rfl dX7_isName_57 ?_
              refine lv_iload_n hx hb dX7_isName_60 rfl (lv_at hl 0 rfl) ?_
              refine lv_iadd hx hb dX7_isName_61 ?_
              refine lv_topi (fun v96 ev96 => ?_)
              have rv96 : mm_rg v96 0 599 := mm_add ev96 q7 q95 (by decide) (by decide)
              have tv96 := mm_addE ev96 q7 q95 (by decide)
              refine va_bald hx hb hK.1 hP 1 0 rfl rfl (mm_in rv96 (by decide)) dX7_isName_62 ?_
              refine lv_topi (fun v97 ev97 => ?_)
              have rv97 : mm_rg v97 (-128) 127 := mm_eqv ev97 (h1 _)
              refine lv_aload_n hx hb dX7_isName_63 rfl (lv_at hl 3 rfl) ?_
              refine lv_iload_n hx hb dX7_isName_64 rfl (lv_at hl 0 rfl) ?_
              refine mm_finir (va_runV (As := [.int x44_3_91]) (rest := [.int v97]) ⟨hx, hb, hml, hown, hts⟩ (K241_J0_charAt_5068e l G cy H.size x44_3_91 q95) (cwV 1 hts (mm_gV mm_w270 mm_w271 mm_w272 mm_w261 mm_w273) rfl rfl rfl hd_J0_charAt_5068e ⟨by rw [hRf]; exact Nat.le_of_ble_eq_true rfl, by rw [hRl]; exact Nat.le_of_ble_eq_true rfl⟩) (mm_preVS hK hZ hS hA hP hD [] rfl rfl 6 (by decide)) rfl rfl hl.1 rfl (lv_room (Nat.le_of_ble_eq_true rfl)) dX7_isName_65 ⟨by rw [hRc]; exact Nat.le_of_ble_eq_true rfl, by rw [hRs]; exact Nat.le_of_ble_eq_true rfl⟩) hP hD hS hA [] rfl (fun _ => rfl) ?_
              clear hP hD hS
              clear H locs
              intro v98 _u H locs hw hP hD hS
              have w99 := hw
              refine lv_icmp_eq (tgt := 73) hx hb dX7_isName_68 (by decide) (fun c100 => ?_) (fun c100 => ?_)
              · have q101 := mm_eqI (lo := 0) (hi := 127) c100 rv97 w99 (by decide)
                have q102 := mm_eqI (lo := 0) (hi := 127) c100.symm w99 rv97 (by decide)
                obtain ⟨v103, ev103⟩ : ∃ y : Int32, y = x44_3_91 + 1 := ⟨_, rfl⟩
                refine lv_iinc (v := v103) (lv' := [(3, .int v103), (2, .int 6), (0, .ref a_0), (1, .ref (cy 112))]) hx hb dX7_isName_73 hl (k := 0) rfl (by rw [ev103]; rfl) (by decide) rfl ?_
                clear hl
                clear ls
                intro ls hl
                have rv103 : mm_rg v103 1 6 := mm_add ev103 q95 mm_k1 (by decide) (by decide)
                have tv103 := mm_addEc ev103 q95 mm_k1 (by decide) (k := 1) (by decide)
                refine lv_goto (tgt := 44) hx hb dX7_isName_76 (by decide) ?_
                exact ih44 v103 (mm_wk rv103 (by decide)) (mm_mu hm44 tv103 (by decide) (rv103).2 (by decide)) H locs hP hD hS ls (lv_sub hl [0, 1, 2, 3] rfl)
              · refine lv_iconst (v := 0) hx hb dX7_isName_71 (by decide) ?_
                subst hAe
                rw [hQ]
                exact W.zret (v := 0) hx hb hr rfl (fun t ht hW => ⟨⟨0, (), rfl, (Or.inl rfl), by rw [ht]; exact hP, hK.warm hW, hD⟩, hS.F ht⟩) hS.2.2 dX7_isName_72
        exact L44_91 _ 0 (mm_wk mm_k0 (by decide)) (Nat.lt_succ_self _) H locs hP hD hS ls (lv_sub hl [0, 1, 2, 3] rfl)
      · have q104 := mm_ltL (h := 599) (mm_nle c9) h0 q8 (by decide)
        refine lv_iconst (v := 0) hx hb dX7_isName_40 (by decide) ?_
        subst hAe
        rw [hQ]
        exact W.zret (v := 0) hx hb hr rfl (fun t ht hW => ⟨⟨0, (), rfl, (Or.inl rfl), by rw [ht]; exact hP, hK.warm hW, hD⟩, hS.F ht⟩) hS.2.2 dX7_isName_41

set_option maxHeartbeats 4000000 in
set_option maxRecDepth 100000 in
theorem K243_J0_coder_7d493 (l : Launch) (G : va_G) (cy : Nat → ClassId) (sz : Nat)    : mm_CI l yJ0_coder_7d493 (mm_ws yJ0_coder_7d493 cJ0_coder_7d493 1 (some .byte)) ({ frames := 0, cells := 0, slots := 0, locals := 0 } : Room) G cy sz [] [.ref (cy 114)] (fun u : Unit => []) (fun (r : Int32) (u : Unit) => 0 = r) 0 0 := by
  refine mm_begin (lv := [(0, .ref (cy 114))]) (by decide) (Nat.le_of_ble_eq_true rfl) rfl ?_
  intro p e s m below meth c A ls R args Q H locs hRe hQ hAe hx hb hr hlocks hml hown hnm hts hsz hA hS hP hK hD hZ hl
  have hRf : R.frames = 0 := by rw [hRe]
  have hRl : R.locals = 0 := by rw [hRe]
  have hRc : R.cells = 0 := by rw [hRe]
  have hRs : R.slots = 0 := by rw [hRe]
  refine va_gets hx hb hZ.2.1 hS hown (mm_h hts mm_w268) (fun _ h9 => h9) dJ0_coder_7d493_0 ?_
  refine lv_if_eq (tgt := 13) hx hb dJ0_coder_7d493_3 (by decide) (fun c1 => ?_) (fun c1 => ?_)
  · exact mm_eqN c1.symm mm_k0 mm_k1 (by decide)
  · refine lv_aload_n hx hb dJ0_coder_7d493_6 rfl (lv_at hl 0 rfl) ?_
    refine vk_getf hx hb ((hZ.1.1 7 (by decide)).2.1) hS hown (mm_h hts mm_w269) (fun _ h9 => h9) dJ0_coder_7d493_7 ?_
    refine W.eq (g2 := F0 m 10 ls [.int 0]) rfl ?_
    refine lv_goto (tgt := 14) hx hb dJ0_coder_7d493_10 (by decide) ?_
    subst hAe
    rw [hQ]
    exact W.zret (v := 0) hx hb hr rfl (fun t ht hW => ⟨⟨0, (), rfl, rfl, by rw [ht]; exact hP, hK.warm hW, hD⟩, hS.F ht⟩) hS.2.2 dJ0_coder_7d493_14

set_option maxHeartbeats 4000000 in
set_option maxRecDepth 100000 in
theorem K244_J0_length_8abf5 (l : Launch) (G : va_G) (cy : Nat → ClassId) (sz : Nat)    : mm_CI l yJ0_length_8abf5 (mm_ws yJ0_length_8abf5 cJ0_length_8abf5 1 (some .int)) ({ frames := 1, cells := 0, slots := 0, locals := 20 } : Room) G cy sz [] [.ref (cy 114)] (fun u : Unit => []) (fun (r : Int32) (u : Unit) => 4 = r) 0 0 := by
  refine mm_begin (lv := [(0, .ref (cy 114))]) (by decide) (Nat.le_of_ble_eq_true rfl) rfl ?_
  intro p e s m below meth c A ls R args Q H locs hRe hQ hAe hx hb hr hlocks hml hown hnm hts hsz hA hS hP hK hD hZ hl
  have hRf : R.frames = 1 := by rw [hRe]
  have hRl : R.locals = 20 := by rw [hRe]
  have hRc : R.cells = 0 := by rw [hRe]
  have hRs : R.slots = 0 := by rw [hRe]
  refine lv_aload_n hx hb dJ0_length_8abf5_0 rfl (lv_at hl 0 rfl) ?_
  refine vk_getf hx hb ((hZ.1.1 7 (by decide)).2.2.1) hS hown (mm_h hts mm_w263) (fun _ h9 => h9) dJ0_length_8abf5_1 ?_
  refine W.eq (g2 := F0 m 4 ls [.ref (cy 115)]) rfl ?_
  refine va_tlen hx hb ((hZ.1.1 7 (by decide)).2.2.2) hS (v := 4) (by decide) dJ0_length_8abf5_4 ?_
  refine lv_aload_n hx hb dJ0_length_8abf5_5 rfl (lv_at hl 0 rfl) ?_
  refine mm_finir (va_runV (As := []) (rest := [.int 4]) ⟨hx, hb, hml, hown, hts⟩ (K243_J0_coder_7d493 l G cy H.size  ) (cwV 0 hts (mm_gV mm_w264 mm_w265 mm_w266 mm_w261 mm_w267) rfl rfl rfl hd_J0_coder_7d493 ⟨by rw [hRf]; exact Nat.le_of_ble_eq_true rfl, by rw [hRl]; exact Nat.le_of_ble_eq_true rfl⟩) (mm_preVS hK hZ hS hA hP hD [] rfl rfl 7 (by decide)) rfl rfl hl.1 rfl (lv_room (Nat.le_of_ble_eq_true rfl)) dJ0_length_8abf5_6 ⟨by rw [hRc]; exact Nat.le_of_ble_eq_true rfl, by rw [hRs]; exact Nat.le_of_ble_eq_true rfl⟩) hP hD hS hA [] rfl (fun _ => rfl) ?_
  clear hP hD hS
  clear H locs
  intro v1 _u H locs hw hP hD hS
  subst hw
  refine lv_ishr hx hb dJ0_length_8abf5_9 ?_
  refine lv_topi (fun v2 ev2 => ?_)
  obtain rfl : v2 = 4 := ev2.trans (by decide)
  subst hAe
  rw [hQ]
  exact W.iret (v := 4) hx hb hr (fun t ht hW => ⟨⟨4, (), rfl, rfl, by rw [ht]; exact hP, hK.warm hW, hD⟩, hS.F ht⟩) hS.2.2 dJ0_length_8abf5_10

set_option maxHeartbeats 4000000 in
set_option maxRecDepth 100000 in
theorem K245_J0_isLatin1_aae02 (l : Launch) (G : va_G) (cy : Nat → ClassId) (sz : Nat)    : mm_CI l yJ0_isLatin1_aae02 (mm_ws yJ0_isLatin1_aae02 cJ0_isLatin1_aae02 1 (some .boolean)) ({ frames := 0, cells := 0, slots := 0, locals := 0 } : Room) G cy sz [] [.ref (cy 114)] (fun u : Unit => []) (fun (r : Int32) (u : Unit) => 1 = r) 0 0 := by
  refine mm_begin (lv := [(0, .ref (cy 114))]) (by decide) (Nat.le_of_ble_eq_true rfl) rfl ?_
  intro p e s m below meth c A ls R args Q H locs hRe hQ hAe hx hb hr hlocks hml hown hnm hts hsz hA hS hP hK hD hZ hl
  have hRf : R.frames = 0 := by rw [hRe]
  have hRl : R.locals = 0 := by rw [hRe]
  have hRc : R.cells = 0 := by rw [hRe]
  have hRs : R.slots = 0 := by rw [hRe]
  refine va_gets hx hb hZ.2.1 hS hown (mm_h hts mm_w268) (fun _ h9 => h9) dJ0_isLatin1_aae02_0 ?_
  refine lv_if_eq (tgt := 17) hx hb dJ0_isLatin1_aae02_3 (by decide) (fun c1 => ?_) (fun c1 => ?_)
  · exact mm_eqN c1.symm mm_k0 mm_k1 (by decide)
  · refine lv_aload_n hx hb dJ0_isLatin1_aae02_6 rfl (lv_at hl 0 rfl) ?_
    refine vk_getf hx hb ((hZ.1.1 7 (by decide)).2.1) hS hown (mm_h hts mm_w269) (fun _ h9 => h9) dJ0_isLatin1_aae02_7 ?_
    refine W.eq (g2 := F0 m 10 ls [.int 0]) rfl ?_
    refine lv_if_ne (tgt := 17) hx hb dJ0_isLatin1_aae02_10 (by decide) (fun c2 => ?_) (fun c2 => ?_)
    · have q3 := mm_neL (lo := 1) (mm_ne c2) mm_k0 mm_k0 (by decide) (by decide)
      exact mm_no q3 (by decide)
    · refine lv_iconst (v := 1) hx hb dJ0_isLatin1_aae02_13 (by decide) ?_
      refine lv_goto (tgt := 18) hx hb dJ0_isLatin1_aae02_14 (by decide) ?_
      subst hAe
      rw [hQ]
      exact W.zret (v := 1) hx hb hr rfl (fun t ht hW => ⟨⟨1, (), rfl, rfl, by rw [ht]; exact hP, hK.warm hW, hD⟩, hS.F ht⟩) hS.2.2 dJ0_isLatin1_aae02_18

set_option maxHeartbeats 4000000 in
set_option maxRecDepth 100000 in
theorem K254_J1_charAt_3b067 (l : Launch) (G : va_G) (cy : Nat → ClassId) (sz : Nat) (i_0 : Int32) (h0 : mm_rg i_0 0 3)  : mm_CI l yJ1_charAt_3b067 (mm_ws yJ1_charAt_3b067 cJ1_charAt_3b067 2 (some .char)) ({ frames := 2, cells := 0, slots := 0, locals := 43 } : Room) G cy sz [] [.ref (cy 115), .int i_0] (fun u : Unit => []) (fun (r : Int32) (u : Unit) => mm_rg r 0 65535) 0 0 := by
  refine mm_begin (lv := [(0, .ref (cy 115)), (1, .int i_0)]) (by decide) (Nat.le_of_ble_eq_true rfl) rfl ?_
  intro p e s m below meth c A ls R args Q H locs hRe hQ hAe hx hb hr hlocks hml hown hnm hts hsz hA hS hP hK hD hZ hl
  have hRf : R.frames = 2 := by rw [hRe]
  have hRl : R.locals = 43 := by rw [hRe]
  have hRc : R.cells = 0 := by rw [hRe]
  have hRs : R.slots = 0 := by rw [hRe]
  refine lv_iload_n hx hb dJ1_charAt_3b067_0 rfl (lv_at hl 1 rfl) ?_
  refine lv_aload_n hx hb dJ1_charAt_3b067_1 rfl (lv_at hl 0 rfl) ?_
  refine va_tlen hx hb ((hZ.1.1 7 (by decide)).2.2.2) hS (v := 4) (by decide) dJ1_charAt_3b067_2 ?_
  refine mm_finvr (va_runS (As := [.int i_0, .int 4]) (rest := []) ⟨hx, hb, hml, hown, hts⟩ (K69_J0_checkIndex_df160 l G cy H.size i_0 h0) (va_cwS 2 hts (mm_gS mm_w282 mm_w283 mm_w261 mm_w284) rfl rfl rfl hs_J0_checkIndex_df160 ⟨by rw [hRf]; exact Nat.le_of_ble_eq_true rfl, by rw [hRl]; exact Nat.le_of_ble_eq_true rfl⟩) (mm_preS hK hZ hS hA hP hD [] rfl rfl) rfl rfl hl.1 rfl (lv_room (Nat.le_of_ble_eq_true rfl)) dJ1_charAt_3b067_3 ⟨by rw [hRc]; exact Nat.le_of_ble_eq_true rfl, by rw [hRs]; exact Nat.le_of_ble_eq_true rfl⟩) hP hD hS hA [] rfl (fun _ => rfl) ?_
  clear hP hD hS
  clear H locs
  intro _u H locs hw hP hD hS
  refine lv_aload_n hx hb dJ1_charAt_3b067_6 rfl (lv_at hl 0 rfl) ?_
  refine lv_iload_n hx hb dJ1_charAt_3b067_7 rfl (lv_at hl 1 rfl) ?_
  refine va_tb hx hb ((hZ.1.1 7 (by decide)).2.2.2) hS (mm_in h0 (by decide)) rfl dJ1_charAt_3b067_8 ?_
  refine lv_topi (fun v1 ev1 => ?_)
  refine lv_sipush (v := 255) hx hb dJ1_charAt_3b067_9 (by decide) ?_
  refine lv_iand hx hb dJ1_charAt_3b067_12 ?_
  refine lv_topi (fun v2 ev2 => ?_)
  have rv2 : mm_rg v2 0 255 := mm_andR ev2 mm_k255 (by decide)
  obtain ⟨v3, ev3⟩ : ∃ y : Int32, y = (v2.toUInt32 % 65536).toInt32 := ⟨_, rfl⟩
  refine lv_i2c hx hb dJ1_charAt_3b067_13 ev3.symm ?_
  have rv3 : mm_rg v3 0 65535 := mm_i2c ev3
  subst hAe
  rw [hQ]
  exact W.zret (v := v3) hx hb hr (mm_nch rv3) (fun t ht hW => ⟨⟨v3, (), rfl, rv3, by rw [ht]; exact hP, hK.warm hW, hD⟩, hS.F ht⟩) hS.2.2 dJ1_charAt_3b067_14

set_option maxHeartbeats 4000000 in
set_option maxRecDepth 100000 in
theorem K255_J0_charAt_5068e (l : Launch) (G : va_G) (cy : Nat → ClassId) (sz : Nat) (i_0 : Int32) (h0 : mm_rg i_0 0 3)  : mm_CI l yJ0_charAt_5068e (mm_ws yJ0_charAt_5068e cJ0_charAt_5068e 2 (some .char)) ({ frames := 3, cells := 0, slots := 0, locals := 64 } : Room) G cy sz [] [.ref (cy 114), .int i_0] (fun u : Unit => []) (fun (r : Int32) (u : Unit) => mm_rg r 0 65535) 0 0 := by
  refine mm_begin (lv := [(0, .ref (cy 114)), (1, .int i_0)]) (by decide) (Nat.le_of_ble_eq_true rfl) rfl ?_
  intro p e s m below meth c A ls R args Q H locs hRe hQ hAe hx hb hr hlocks hml hown hnm hts hsz hA hS hP hK hD hZ hl
  have hRf : R.frames = 3 := by rw [hRe]
  have hRl : R.locals = 64 := by rw [hRe]
  have hRc : R.cells = 0 := by rw [hRe]
  have hRs : R.slots = 0 := by rw [hRe]
  refine lv_aload_n hx hb dJ0_charAt_5068e_0 rfl (lv_at hl 0 rfl) ?_
  refine mm_finir (va_runV (As := []) (rest := []) ⟨hx, hb, hml, hown, hts⟩ (K245_J0_isLatin1_aae02 l G cy H.size  ) (cwV 0 hts (mm_gV mm_w274 mm_w275 mm_w276 mm_w261 mm_w277) rfl rfl rfl hd_J0_isLatin1_aae02 ⟨by rw [hRf]; exact Nat.le_of_ble_eq_true rfl, by rw [hRl]; exact Nat.le_of_ble_eq_true rfl⟩) (mm_preVS hK hZ hS hA hP hD [] rfl rfl 7 (by decide)) rfl rfl hl.1 rfl (lv_room (Nat.le_of_ble_eq_true rfl)) dJ0_charAt_5068e_1 ⟨by rw [hRc]; exact Nat.le_of_ble_eq_true rfl, by rw [hRs]; exact Nat.le_of_ble_eq_true rfl⟩) hP hD hS hA [] rfl (fun _ => rfl) ?_
  clear hP hD hS
  clear H locs
  intro v1 _u H locs hw hP hD hS
  subst hw
  refine lv_if_eq (tgt := 16) hx hb dJ0_charAt_5068e_4 (by decide) (fun c2 => ?_) (fun c2 => ?_)
  · exact mm_eqN c2.symm mm_k0 mm_k1 (by decide)
  · refine lv_aload_n hx hb dJ0_charAt_5068e_7 rfl (lv_at hl 0 rfl) ?_
    refine vk_getf hx hb ((hZ.1.1 7 (by decide)).2.2.1) hS hown (mm_h hts mm_w263) (fun _ h9 => h9) dJ0_charAt_5068e_8 ?_
    refine W.eq (g2 := F0 m 11 ls [.ref (cy 115)]) rfl ?_
    refine lv_iload_n hx hb dJ0_charAt_5068e_11 rfl (lv_at hl 1 rfl) ?_
    refine mm_finir (va_runS (As := [.ref (cy 115), .int i_0]) (rest := []) ⟨hx, hb, hml, hown, hts⟩ (K254_J1_charAt_3b067 l G cy H.size i_0 h0) (va_cwS 2 hts (mm_gS mm_w278 mm_w279 mm_w280 mm_w281) rfl rfl rfl hs_J1_charAt_3b067 ⟨by rw [hRf]; exact Nat.le_of_ble_eq_true rfl, by rw [hRl]; exact Nat.le_of_ble_eq_true rfl⟩) (mm_preS hK hZ hS hA hP hD [] rfl rfl) rfl rfl hl.1 rfl (lv_room (Nat.le_of_ble_eq_true rfl)) dJ0_charAt_5068e_12 ⟨by rw [hRc]; exact Nat.le_of_ble_eq_true rfl, by rw [hRs]; exact Nat.le_of_ble_eq_true rfl⟩) hP hD hS hA [] rfl (fun _ => rfl) ?_
    clear hP hD hS
    clear H locs
    intro v3 _u H locs hw hP hD hS
    have w4 := hw
    subst hAe
    rw [hQ]
    exact W.zret (v := v3) hx hb hr (mm_nch w4) (fun t ht hW => ⟨⟨v3, (), rfl, w4, by rw [ht]; exact hP, hK.warm hW, hD⟩, hS.F ht⟩) hS.2.2 dJ0_charAt_5068e_15

set_option maxHeartbeats 4000000 in
set_option maxRecDepth 100000 in
theorem K256_X7_isName (l : Launch) (G : va_G) (cy : Nat → ClassId) (sz : Nat) (a_0 : Nat) (a_1 : Nat) (a_2 : Nat) (i_0 : Int32) (f_0 : Nat → Int32) (a_3 : Nat) (i_1 : Int32) (i_2 : Int32) (i_3 : Int32) (i_4 : Int32) (i_5 : Int32) (i_6 : Int32) (h0 : mm_rg i_0 0 600) (h1 : mm_ar f_0 (-128) 127) (h2 : mm_rg i_3 0 5) (h3 : mm_rg i_4 0 600) (h4 : mm_rg i_5 0 600)  : mm_CI l yX7_isName (mm_ws yX7_isName cX7_isName 4 (some .boolean)) ({ frames := 4, cells := 0, slots := 0, locals := 85 } : Room) G cy sz [(a_1, .inr (9, [.ref a_2, .int i_0])), (a_2, .inl (cy 0, 600, .inl f_0)), (a_0, .inr (7, [.ref a_1, .ref a_3, .int i_1, .int i_2, .int i_3, .int i_4, .int i_5, .int i_6]))] [.ref a_0, .ref (cy 114)] (fun u : Unit => [(a_1, .inr (9, [.ref a_2, .int i_0])), (a_2, .inl (cy 0, 600, .inl f_0)), (a_0, .inr (7, [.ref a_1, .ref a_3, .int i_1, .int i_2, .int i_3, .int i_4, .int i_5, .int i_6]))]) (fun (r : Int32) (u : Unit) => ((0 = r) ∨ (1 = r))) 0 0 := by
  refine mm_begin (lv := [(0, .ref a_0), (1, .ref (cy 114))]) (by decide) (Nat.le_of_ble_eq_true rfl) rfl ?_
  intro p e s m below meth c A ls R args Q H locs hRe hQ hAe hx hb hr hlocks hml hown hnm hts hsz hA hS hP hK hD hZ hl
  have hRf : R.frames = 4 := by rw [hRe]
  have hRl : R.locals = 85 := by rw [hRe]
  have hRc : R.cells = 0 := by rw [hRe]
  have hRs : R.slots = 0 := by rw [hRe]
  refine lv_aload_n hx hb dX7_isName_0 rfl (lv_at hl 1 rfl) ?_
  refine mm_finir (va_runV (As := []) (rest := []) ⟨hx, hb, hml, hown, hts⟩ (K244_J0_length_8abf5 l G cy H.size  ) (cwV 0 hts (mm_gV mm_w258 mm_w259 mm_w260 mm_w261 mm_w262) rfl rfl rfl hd_J0_length_8abf5 ⟨by rw [hRf]; exact Nat.le_of_ble_eq_true rfl, by rw [hRl]; exact Nat.le_of_ble_eq_true rfl⟩) (mm_preVS hK hZ hS hA hP hD [] rfl rfl 7 (by decide)) rfl rfl hl.1 rfl (lv_room (Nat.le_of_ble_eq_true rfl)) dX7_isName_1 ⟨by rw [hRc]; exact Nat.le_of_ble_eq_true rfl, by rw [hRs]; exact Nat.le_of_ble_eq_true rfl⟩) hP hD hS hA [] rfl (fun _ => rfl) ?_
  clear hP hD hS
  clear H locs
  intro v1 _u H locs hw hP hD hS
  subst hw
  refine lv_istore_n (lv' := [(2, .int 4), (0, .ref a_0), (1, .ref (cy 114))]) hx hb dX7_isName_4 rfl hl (by decide) rfl ?_
  clear hl
  clear ls
  intro ls hl
  refine lv_aload_n hx hb dX7_isName_5 rfl (lv_at hl 1 rfl) ?_
  refine va_get (D := G) (ci := 7) (v := .int i_3) (C := RX7) (T := TX7) (N := 8) hx hb hts (mm_i inlX7) hown hK.1 hP 2 rfl rfl 4 (by decide) (mm_h hts mm_w207) (fun _ h9 => h9) rfl dX7_isName_6 ?_
  refine lv_iconst (v := 2) hx hb dX7_isName_9 (by decide) ?_
  refine lv_icmp_ne (tgt := 40) hx hb dX7_isName_10 (by decide) (fun c2 => ?_) (fun c2 => ?_)
  · refine lv_iconst (v := 0) hx hb dX7_isName_40 (by decide) ?_
    subst hAe
    rw [hQ]
    exact W.zret (v := 0) hx hb hr rfl (fun t ht hW => ⟨⟨0, (), rfl, (Or.inl rfl), by rw [ht]; exact hP, hK.warm hW, hD⟩, hS.F ht⟩) hS.2.2 dX7_isName_41
  · have q3 := mm_eqI (lo := 2) (hi := 2) c2 h2 mm_k2 (by decide)
    refine lv_aload_n hx hb dX7_isName_13 rfl (lv_at hl 1 rfl) ?_
    refine va_get (D := G) (ci := 7) (v := .int i_5) (C := RX7) (T := TX7) (N := 8) hx hb hts (mm_i inlX7) hown hK.1 hP 2 rfl rfl 6 (by decide) (mm_h hts mm_w206) (fun _ h9 => h9) rfl dX7_isName_14 ?_
    refine lv_aload_n hx hb dX7_isName_17 rfl (lv_at hl 1 rfl) ?_
    refine va_get (D := G) (ci := 7) (v := .int i_4) (C := RX7) (T := TX7) (N := 8) hx hb hts (mm_i inlX7) hown hK.1 hP 2 rfl rfl 5 (by decide) (mm_h hts mm_w232) (fun _ h9 => h9) rfl dX7_isName_18 ?_
    refine lv_isub hx hb dX7_isName_21 ?_
    refine lv_topi (fun v4 ev4 => ?_)
    have rv4 : mm_rg v4 (-600) 600 := mm_sub ev4 h4 h3 (by decide) (by decide)
    have tv4 := mm_subE ev4 h4 h3 (by decide)
    refine lv_iload_n hx hb dX7_isName_22 rfl (lv_at hl 0 rfl) ?_
    refine lv_icmp_ne (tgt := 40) hx hb dX7_isName_23 (by decide) (fun c5 => ?_) (fun c5 => ?_)
    · refine lv_iconst (v := 0) hx hb dX7_isName_40 (by decide) ?_
      subst hAe
      rw [hQ]
      exact W.zret (v := 0) hx hb hr rfl (fun t ht hW => ⟨⟨0, (), rfl, (Or.inl rfl), by rw [ht]; exact hP, hK.warm hW, hD⟩, hS.F ht⟩) hS.2.2 dX7_isName_41
    · have q6 := mm_eqI (lo := 4) (hi := 4) c5 rv4 mm_k4 (by decide)
      have q7 : mm_rg i_4 0 596 := mm_unsubY tv4 q6 h4 h3 (by decide)
      have q8 : mm_rg i_5 4 600 := mm_unsubX tv4 q6 q7 h4 (by decide)
      refine lv_aload_n hx hb dX7_isName_26 rfl (lv_at hl 1 rfl) ?_
      refine va_get (D := G) (ci := 7) (v := .int i_5) (C := RX7) (T := TX7) (N := 8) hx hb hts (mm_i inlX7) hown hK.1 hP 2 rfl rfl 6 (by decide) (mm_h hts mm_w206) (fun _ h9 => h9) rfl dX7_isName_27 ?_
      refine lv_aload_n hx hb dX7_isName_30 rfl (lv_at hl 1 rfl) ?_
      refine va_get (D := G) (ci := 7) (v := .ref a_1) (C := RX7) (T := TX7) (N := 8) hx hb hts (mm_i inlX7) hown hK.1 hP 2 rfl rfl 0 (by decide) (mm_h hts mm_w67) (fun _ h9 => h9) rfl dX7_isName_31 ?_
      refine va_get (D := G) (ci := 9) (v := .int i_0) (C := RX9) (T := TX9) (N := 2) hx hb hts (mm_i inlX9) hown hK.1 hP 0 rfl rfl 1 (by decide) (mm_h hts mm_w231) (fun _ h9 => h9) rfl dX7_isName_34 ?_
      refine lv_icmp_le (tgt := 42) hx hb dX7_isName_37 (by decide) (fun c9 => ?_) (fun c9 => ?_)
      · have q10 := mm_leR (mm_le c9) q8 h0
        refine lv_iconst (v := 0) hx hb dX7_isName_42 (by decide) ?_
        refine lv_istore_n (lv' := [(3, .int 0), (2, .int 4), (0, .ref a_0), (1, .ref (cy 114))]) hx hb dX7_isName_43 rfl hl (by decide) rfl ?_
        clear hl
        clear ls
        intro ls hl
        have L44_71 : ∀ (n : Nat) (x44_3_71 : Int32), mm_rg x44_3_71 0 4 → (4 - x44_3_71.toInt).toNat < n → ∀ (H : Heap) (locs : List Loc), va_P G vwCl [(a_1, .inr (9, [.ref a_2, .int i_0])), (a_2, .inl (cy 0, 600, .inl f_0)), (a_0, .inr (7, [.ref a_1, .ref a_3, .int i_1, .int i_2, .int i_3, .int i_4, .int i_5, .int i_6]))] H → va_D A [(a_1, .inr (9, [.ref a_2, .int i_0])), (a_2, .inl (cy 0, 600, .inl f_0)), (a_0, .inr (7, [.ref a_1, .ref a_3, .int i_1, .int i_2, .int i_3, .int i_4, .int i_5, .int i_6]))] → va_S A s.heap H locs → ∀ (ls : Array Slot), lv_has ls 4 [(3, .int x44_3_71), (2, .int 4), (0, .ref a_0), (1, .ref (cy 114))] → W p l e R s m args below meth c H locs 0 0 Q (F0 m 44 ls []) := by
          intro n
          induction n with
          | zero => intro x44_3_71 rx44_3_71 hm; exact absurd hm (Nat.not_lt_zero _)
          | succ n ih44 =>
            intro x44_3_71 rx44_3_71 hm44 H locs hP hD hS ls hl
            refine lv_iload_n hx hb dX7_isName_44 rfl (lv_at hl 0 rfl) ?_
            refine lv_iload_n hx hb dX7_isName_45 rfl (lv_at hl 1 rfl) ?_
            refine lv_icmp_ge (tgt := 79) hx hb dX7_isName_46 (by decide) (fun c73 => ?_) (fun c73 => ?_)
            · have q74 := mm_leR (mm_le c73) mm_k4 rx44_3_71
              refine lv_iconst (v := 1) hx hb dX7_isName_79 (by decide) ?_
              subst hAe
              rw [hQ]
              exact W.zret (v := 1) hx hb hr rfl (fun t ht hW => ⟨⟨1, (), rfl, (Or.inr rfl), by rw [ht]; exact hP, hK.warm hW, hD⟩, hS.F ht⟩) hS.2.2 dX7_isName_80
            · have q75 := mm_ltL (h := 3) (mm_nle c73) rx44_3_71 mm_k4 (by decide)
              refine lv_aload_n hx hb dX7_isName_49 rfl (lv_at hl 2 rfl) ?_
              refine va_get (D := G) (ci := 7) (v := .ref a_1) (C := RX7) (T := TX7) (N := 8) hx hb hts (mm_i inlX7) hown hK.1 hP 2 rfl rfl 0 (by decide) (mm_h hts mm_w67) (fun _ h9 => h9) rfl dX7_isName_50 ?_
              refine va_get (D := G) (ci := 9) (v := .ref a_2) (C := RX9) (T := TX9) (N := 2) hx hb hts (mm_i inlX9) hown hK.1 hP 0 rfl rfl 0 (by decide) (mm_h hts mm_w238) (fun _ h9 => h9) rfl dX7_isName_53 ?_
              refine lv_aload_n hx hb dX7_isName_56 rfl (lv_at hl 2 rfl) ?_
              refine va_get (D := G) (ci := 7) (v := .int i_4) (C := RX7) (T := TX7) (N := 8) hx hb hts (mm_i inlX7) hown hK.1 hP 2 rfl rfl 5 (by decide) (mm_h hts mm_w232) (fun _ h9 => h9) rfl dX7_isName_57 ?_
              refine lv_iload_n hx hb dX7_isName_60 rfl (lv_at hl 0 rfl) ?_
              refine lv_iadd hx hb dX7_isName_61 ?_
              refine lv_topi (fun v76 ev76 => ?_)
              have rv76 : mm_rg v76 0 599 := mm_add ev76 q7 q75 (by decide) (by decide)
              have tv76 := mm_addE ev76 q7 q75 (by decide)
              refine va_bald hx hb hK.1 hP 1 0 rfl rfl (mm_in rv76 (by decide)) dX7_isName_62 ?_
              refine lv_topi (fun v77 ev77 => ?_)
              have rv77 : mm_rg v77 (-128) 127 := mm_eqv ev77 (h1 _)
              refine lv_aload_n hx hb dX7_isName_63 rfl (lv_at hl 3 rfl) ?_
              refine lv_iload_n hx hb dX7_isName_64 rfl (lv_at hl 0 rfl) ?_
              refine mm_finir (va_runV (As := [.int x44_3_71]) (rest := [.int v77]) ⟨hx, hb, hml, hown, hts⟩ (K255_J0_charAt_5068e l G cy H.size x44_3_71 q75) (cwV 1 hts (mm_gV mm_w270 mm_w271 mm_w272 mm_w261 mm_w273) rfl rfl rfl hd_J0_charAt_5068e ⟨by rw [hRf]; exact Nat.le_of_ble_eq_true rfl, by rw [hRl]; exact Nat.le_of_ble_eq_true rfl⟩) (mm_preVS hK hZ hS hA hP hD [] rfl rfl 7 (by decide)) rfl rfl hl.1 rfl (lv_room (Nat.le_of_ble_eq_true rfl)) dX7_isName_65 ⟨by rw [hRc]; exact Nat.le_of_ble_eq_true rfl, by rw [hRs]; exact Nat.le_of_ble_eq_true rfl⟩) hP hD hS hA [] rfl (fun _ => rfl) ?_
              clear hP hD hS
              clear H locs
              intro v78 _u H locs hw hP hD hS
              have w79 := hw
              refine lv_icmp_eq (tgt := 73) hx hb dX7_isName_68 (by decide) (fun c80 => ?_) (fun c80 => ?_)
              · have q81 := mm_eqI (lo := 0) (hi := 127) c80 rv77 w79 (by decide)
                have q82 := mm_eqI (lo := 0) (hi := 127) c80.symm w79 rv77 (by decide)
                obtain ⟨v83, ev83⟩ : ∃ y : Int32, y = x44_3_71 + 1 := ⟨_, rfl⟩
                refine lv_iinc (v := v83) (lv' := [(3, .int v83), (2, .int 4), (0, .ref a_0), (1, .ref (cy 114))]) hx hb dX7_isName_73 hl (k := 0) rfl (by rw [ev83]; rfl) (by decide) rfl ?_
                clear hl
                clear ls
                intro ls hl
                have rv83 : mm_rg v83 1 4 := mm_add ev83 q75 mm_k1 (by decide) (by decide)
                have tv83 := mm_addEc ev83 q75 mm_k1 (by decide) (k := 1) (by decide)
                refine lv_goto (tgt := 44) hx hb dX7_isName_76 (by decide) ?_
                exact ih44 v83 (mm_wk rv83 (by decide)) (mm_mu hm44 tv83 (by decide) (rv83).2 (by decide)) H locs hP hD hS ls (lv_sub hl [0, 1, 2, 3] rfl)
              · refine lv_iconst (v := 0) hx hb dX7_isName_71 (by decide) ?_
                subst hAe
                rw [hQ]
                exact W.zret (v := 0) hx hb hr rfl (fun t ht hW => ⟨⟨0, (), rfl, (Or.inl rfl), by rw [ht]; exact hP, hK.warm hW, hD⟩, hS.F ht⟩) hS.2.2 dX7_isName_72
        exact L44_71 _ 0 (mm_wk mm_k0 (by decide)) (Nat.lt_succ_self _) H locs hP hD hS ls (lv_sub hl [0, 1, 2, 3] rfl)
      · have q84 := mm_ltL (h := 599) (mm_nle c9) h0 q8 (by decide)
        refine lv_iconst (v := 0) hx hb dX7_isName_40 (by decide) ?_
        subst hAe
        rw [hQ]
        exact W.zret (v := 0) hx hb hr rfl (fun t ht hW => ⟨⟨0, (), rfl, (Or.inl rfl), by rw [ht]; exact hP, hK.warm hW, hD⟩, hS.F ht⟩) hS.2.2 dX7_isName_41

set_option maxHeartbeats 4000000 in
set_option maxRecDepth 100000 in
theorem K257_J0_coder_7d493 (l : Launch) (G : va_G) (cy : Nat → ClassId) (sz : Nat)    : mm_CI l yJ0_coder_7d493 (mm_ws yJ0_coder_7d493 cJ0_coder_7d493 1 (some .byte)) ({ frames := 0, cells := 0, slots := 0, locals := 0 } : Room) G cy sz [] [.ref (cy 116)] (fun u : Unit => []) (fun (r : Int32) (u : Unit) => 0 = r) 0 0 := by
  refine mm_begin (lv := [(0, .ref (cy 116))]) (by decide) (Nat.le_of_ble_eq_true rfl) rfl ?_
  intro p e s m below meth c A ls R args Q H locs hRe hQ hAe hx hb hr hlocks hml hown hnm hts hsz hA hS hP hK hD hZ hl
  have hRf : R.frames = 0 := by rw [hRe]
  have hRl : R.locals = 0 := by rw [hRe]
  have hRc : R.cells = 0 := by rw [hRe]
  have hRs : R.slots = 0 := by rw [hRe]
  refine va_gets hx hb hZ.2.1 hS hown (mm_h hts mm_w268) (fun _ h9 => h9) dJ0_coder_7d493_0 ?_
  refine lv_if_eq (tgt := 13) hx hb dJ0_coder_7d493_3 (by decide) (fun c1 => ?_) (fun c1 => ?_)
  · exact mm_eqN c1.symm mm_k0 mm_k1 (by decide)
  · refine lv_aload_n hx hb dJ0_coder_7d493_6 rfl (lv_at hl 0 rfl) ?_
    refine vk_getf hx hb ((hZ.1.1 8 (by decide)).2.1) hS hown (mm_h hts mm_w269) (fun _ h9 => h9) dJ0_coder_7d493_7 ?_
    refine W.eq (g2 := F0 m 10 ls [.int 0]) rfl ?_
    refine lv_goto (tgt := 14) hx hb dJ0_coder_7d493_10 (by decide) ?_
    subst hAe
    rw [hQ]
    exact W.zret (v := 0) hx hb hr rfl (fun t ht hW => ⟨⟨0, (), rfl, rfl, by rw [ht]; exact hP, hK.warm hW, hD⟩, hS.F ht⟩) hS.2.2 dJ0_coder_7d493_14

set_option maxHeartbeats 4000000 in
set_option maxRecDepth 100000 in
theorem K258_J0_length_8abf5 (l : Launch) (G : va_G) (cy : Nat → ClassId) (sz : Nat)    : mm_CI l yJ0_length_8abf5 (mm_ws yJ0_length_8abf5 cJ0_length_8abf5 1 (some .int)) ({ frames := 1, cells := 0, slots := 0, locals := 20 } : Room) G cy sz [] [.ref (cy 116)] (fun u : Unit => []) (fun (r : Int32) (u : Unit) => 4 = r) 0 0 := by
  refine mm_begin (lv := [(0, .ref (cy 116))]) (by decide) (Nat.le_of_ble_eq_true rfl) rfl ?_
  intro p e s m below meth c A ls R args Q H locs hRe hQ hAe hx hb hr hlocks hml hown hnm hts hsz hA hS hP hK hD hZ hl
  have hRf : R.frames = 1 := by rw [hRe]
  have hRl : R.locals = 20 := by rw [hRe]
  have hRc : R.cells = 0 := by rw [hRe]
  have hRs : R.slots = 0 := by rw [hRe]
  refine lv_aload_n hx hb dJ0_length_8abf5_0 rfl (lv_at hl 0 rfl) ?_
  refine vk_getf hx hb ((hZ.1.1 8 (by decide)).2.2.1) hS hown (mm_h hts mm_w263) (fun _ h9 => h9) dJ0_length_8abf5_1 ?_
  refine W.eq (g2 := F0 m 4 ls [.ref (cy 117)]) rfl ?_
  refine va_tlen hx hb ((hZ.1.1 8 (by decide)).2.2.2) hS (v := 4) (by decide) dJ0_length_8abf5_4 ?_
  refine lv_aload_n hx hb dJ0_length_8abf5_5 rfl (lv_at hl 0 rfl) ?_
  refine mm_finir (va_runV (As := []) (rest := [.int 4]) ⟨hx, hb, hml, hown, hts⟩ (K257_J0_coder_7d493 l G cy H.size  ) (cwV 0 hts (mm_gV mm_w264 mm_w265 mm_w266 mm_w261 mm_w267) rfl rfl rfl hd_J0_coder_7d493 ⟨by rw [hRf]; exact Nat.le_of_ble_eq_true rfl, by rw [hRl]; exact Nat.le_of_ble_eq_true rfl⟩) (mm_preVS hK hZ hS hA hP hD [] rfl rfl 8 (by decide)) rfl rfl hl.1 rfl (lv_room (Nat.le_of_ble_eq_true rfl)) dJ0_length_8abf5_6 ⟨by rw [hRc]; exact Nat.le_of_ble_eq_true rfl, by rw [hRs]; exact Nat.le_of_ble_eq_true rfl⟩) hP hD hS hA [] rfl (fun _ => rfl) ?_
  clear hP hD hS
  clear H locs
  intro v1 _u H locs hw hP hD hS
  subst hw
  refine lv_ishr hx hb dJ0_length_8abf5_9 ?_
  refine lv_topi (fun v2 ev2 => ?_)
  obtain rfl : v2 = 4 := ev2.trans (by decide)
  subst hAe
  rw [hQ]
  exact W.iret (v := 4) hx hb hr (fun t ht hW => ⟨⟨4, (), rfl, rfl, by rw [ht]; exact hP, hK.warm hW, hD⟩, hS.F ht⟩) hS.2.2 dJ0_length_8abf5_10

set_option maxHeartbeats 4000000 in
set_option maxRecDepth 100000 in
theorem K259_J0_isLatin1_aae02 (l : Launch) (G : va_G) (cy : Nat → ClassId) (sz : Nat)    : mm_CI l yJ0_isLatin1_aae02 (mm_ws yJ0_isLatin1_aae02 cJ0_isLatin1_aae02 1 (some .boolean)) ({ frames := 0, cells := 0, slots := 0, locals := 0 } : Room) G cy sz [] [.ref (cy 116)] (fun u : Unit => []) (fun (r : Int32) (u : Unit) => 1 = r) 0 0 := by
  refine mm_begin (lv := [(0, .ref (cy 116))]) (by decide) (Nat.le_of_ble_eq_true rfl) rfl ?_
  intro p e s m below meth c A ls R args Q H locs hRe hQ hAe hx hb hr hlocks hml hown hnm hts hsz hA hS hP hK hD hZ hl
  have hRf : R.frames = 0 := by rw [hRe]
  have hRl : R.locals = 0 := by rw [hRe]
  have hRc : R.cells = 0 := by rw [hRe]
  have hRs : R.slots = 0 := by rw [hRe]
  refine va_gets hx hb hZ.2.1 hS hown (mm_h hts mm_w268) (fun _ h9 => h9) dJ0_isLatin1_aae02_0 ?_
  refine lv_if_eq (tgt := 17) hx hb dJ0_isLatin1_aae02_3 (by decide) (fun c1 => ?_) (fun c1 => ?_)
  · exact mm_eqN c1.symm mm_k0 mm_k1 (by decide)
  · refine lv_aload_n hx hb dJ0_isLatin1_aae02_6 rfl (lv_at hl 0 rfl) ?_
    refine vk_getf hx hb ((hZ.1.1 8 (by decide)).2.1) hS hown (mm_h hts mm_w269) (fun _ h9 => h9) dJ0_isLatin1_aae02_7 ?_
    refine W.eq (g2 := F0 m 10 ls [.int 0]) rfl ?_
    refine lv_if_ne (tgt := 17) hx hb dJ0_isLatin1_aae02_10 (by decide) (fun c2 => ?_) (fun c2 => ?_)
    · have q3 := mm_neL (lo := 1) (mm_ne c2) mm_k0 mm_k0 (by decide) (by decide)
      exact mm_no q3 (by decide)
    · refine lv_iconst (v := 1) hx hb dJ0_isLatin1_aae02_13 (by decide) ?_
      refine lv_goto (tgt := 18) hx hb dJ0_isLatin1_aae02_14 (by decide) ?_
      subst hAe
      rw [hQ]
      exact W.zret (v := 1) hx hb hr rfl (fun t ht hW => ⟨⟨1, (), rfl, rfl, by rw [ht]; exact hP, hK.warm hW, hD⟩, hS.F ht⟩) hS.2.2 dJ0_isLatin1_aae02_18

set_option maxHeartbeats 4000000 in
set_option maxRecDepth 100000 in
theorem K268_J1_charAt_3b067 (l : Launch) (G : va_G) (cy : Nat → ClassId) (sz : Nat) (i_0 : Int32) (h0 : mm_rg i_0 0 3)  : mm_CI l yJ1_charAt_3b067 (mm_ws yJ1_charAt_3b067 cJ1_charAt_3b067 2 (some .char)) ({ frames := 2, cells := 0, slots := 0, locals := 43 } : Room) G cy sz [] [.ref (cy 117), .int i_0] (fun u : Unit => []) (fun (r : Int32) (u : Unit) => mm_rg r 0 65535) 0 0 := by
  refine mm_begin (lv := [(0, .ref (cy 117)), (1, .int i_0)]) (by decide) (Nat.le_of_ble_eq_true rfl) rfl ?_
  intro p e s m below meth c A ls R args Q H locs hRe hQ hAe hx hb hr hlocks hml hown hnm hts hsz hA hS hP hK hD hZ hl
  have hRf : R.frames = 2 := by rw [hRe]
  have hRl : R.locals = 43 := by rw [hRe]
  have hRc : R.cells = 0 := by rw [hRe]
  have hRs : R.slots = 0 := by rw [hRe]
  refine lv_iload_n hx hb dJ1_charAt_3b067_0 rfl (lv_at hl 1 rfl) ?_
  refine lv_aload_n hx hb dJ1_charAt_3b067_1 rfl (lv_at hl 0 rfl) ?_
  refine va_tlen hx hb ((hZ.1.1 8 (by decide)).2.2.2) hS (v := 4) (by decide) dJ1_charAt_3b067_2 ?_
  refine mm_finvr (va_runS (As := [.int i_0, .int 4]) (rest := []) ⟨hx, hb, hml, hown, hts⟩ (K69_J0_checkIndex_df160 l G cy H.size i_0 h0) (va_cwS 2 hts (mm_gS mm_w282 mm_w283 mm_w261 mm_w284) rfl rfl rfl hs_J0_checkIndex_df160 ⟨by rw [hRf]; exact Nat.le_of_ble_eq_true rfl, by rw [hRl]; exact Nat.le_of_ble_eq_true rfl⟩) (mm_preS hK hZ hS hA hP hD [] rfl rfl) rfl rfl hl.1 rfl (lv_room (Nat.le_of_ble_eq_true rfl)) dJ1_charAt_3b067_3 ⟨by rw [hRc]; exact Nat.le_of_ble_eq_true rfl, by rw [hRs]; exact Nat.le_of_ble_eq_true rfl⟩) hP hD hS hA [] rfl (fun _ => rfl) ?_
  clear hP hD hS
  clear H locs
  intro _u H locs hw hP hD hS
  refine lv_aload_n hx hb dJ1_charAt_3b067_6 rfl (lv_at hl 0 rfl) ?_
  refine lv_iload_n hx hb dJ1_charAt_3b067_7 rfl (lv_at hl 1 rfl) ?_
  refine va_tb hx hb ((hZ.1.1 8 (by decide)).2.2.2) hS (mm_in h0 (by decide)) rfl dJ1_charAt_3b067_8 ?_
  refine lv_topi (fun v1 ev1 => ?_)
  refine lv_sipush (v := 255) hx hb dJ1_charAt_3b067_9 (by decide) ?_
  refine lv_iand hx hb dJ1_charAt_3b067_12 ?_
  refine lv_topi (fun v2 ev2 => ?_)
  have rv2 : mm_rg v2 0 255 := mm_andR ev2 mm_k255 (by decide)
  obtain ⟨v3, ev3⟩ : ∃ y : Int32, y = (v2.toUInt32 % 65536).toInt32 := ⟨_, rfl⟩
  refine lv_i2c hx hb dJ1_charAt_3b067_13 ev3.symm ?_
  have rv3 : mm_rg v3 0 65535 := mm_i2c ev3
  subst hAe
  rw [hQ]
  exact W.zret (v := v3) hx hb hr (mm_nch rv3) (fun t ht hW => ⟨⟨v3, (), rfl, rv3, by rw [ht]; exact hP, hK.warm hW, hD⟩, hS.F ht⟩) hS.2.2 dJ1_charAt_3b067_14

set_option maxHeartbeats 4000000 in
set_option maxRecDepth 100000 in
theorem K269_J0_charAt_5068e (l : Launch) (G : va_G) (cy : Nat → ClassId) (sz : Nat) (i_0 : Int32) (h0 : mm_rg i_0 0 3)  : mm_CI l yJ0_charAt_5068e (mm_ws yJ0_charAt_5068e cJ0_charAt_5068e 2 (some .char)) ({ frames := 3, cells := 0, slots := 0, locals := 64 } : Room) G cy sz [] [.ref (cy 116), .int i_0] (fun u : Unit => []) (fun (r : Int32) (u : Unit) => mm_rg r 0 65535) 0 0 := by
  refine mm_begin (lv := [(0, .ref (cy 116)), (1, .int i_0)]) (by decide) (Nat.le_of_ble_eq_true rfl) rfl ?_
  intro p e s m below meth c A ls R args Q H locs hRe hQ hAe hx hb hr hlocks hml hown hnm hts hsz hA hS hP hK hD hZ hl
  have hRf : R.frames = 3 := by rw [hRe]
  have hRl : R.locals = 64 := by rw [hRe]
  have hRc : R.cells = 0 := by rw [hRe]
  have hRs : R.slots = 0 := by rw [hRe]
  refine lv_aload_n hx hb dJ0_charAt_5068e_0 rfl (lv_at hl 0 rfl) ?_
  refine mm_finir (va_runV (As := []) (rest := []) ⟨hx, hb, hml, hown, hts⟩ (K259_J0_isLatin1_aae02 l G cy H.size  ) (cwV 0 hts (mm_gV mm_w274 mm_w275 mm_w276 mm_w261 mm_w277) rfl rfl rfl hd_J0_isLatin1_aae02 ⟨by rw [hRf]; exact Nat.le_of_ble_eq_true rfl, by rw [hRl]; exact Nat.le_of_ble_eq_true rfl⟩) (mm_preVS hK hZ hS hA hP hD [] rfl rfl 8 (by decide)) rfl rfl hl.1 rfl (lv_room (Nat.le_of_ble_eq_true rfl)) dJ0_charAt_5068e_1 ⟨by rw [hRc]; exact Nat.le_of_ble_eq_true rfl, by rw [hRs]; exact Nat.le_of_ble_eq_true rfl⟩) hP hD hS hA [] rfl (fun _ => rfl) ?_
  clear hP hD hS
  clear H locs
  intro v1 _u H locs hw hP hD hS
  subst hw
  refine lv_if_eq (tgt := 16) hx hb dJ0_charAt_5068e_4 (by decide) (fun c2 => ?_) (fun c2 => ?_)
  · exact mm_eqN c2.symm mm_k0 mm_k1 (by decide)
  · refine lv_aload_n hx hb dJ0_charAt_5068e_7 rfl (lv_at hl 0 rfl) ?_
    refine vk_getf hx hb ((hZ.1.1 8 (by decide)).2.2.1) hS hown (mm_h hts mm_w263) (fun _ h9 => h9) dJ0_charAt_5068e_8 ?_
    refine W.eq (g2 := F0 m 11 ls [.ref (cy 117)]) rfl ?_
    refine lv_iload_n hx hb dJ0_charAt_5068e_11 rfl (lv_at hl 1 rfl) ?_
    refine mm_finir (va_runS (As := [.ref (cy 117), .int i_0]) (rest := []) ⟨hx, hb, hml, hown, hts⟩ (K268_J1_charAt_3b067 l G cy H.size i_0 h0) (va_cwS 2 hts (mm_gS mm_w278 mm_w279 mm_w280 mm_w281) rfl rfl rfl hs_J1_charAt_3b067 ⟨by rw [hRf]; exact Nat.le_of_ble_eq_true rfl, by rw [hRl]; exact Nat.le_of_ble_eq_true rfl⟩) (mm_preS hK hZ hS hA hP hD [] rfl rfl) rfl rfl hl.1 rfl (lv_room (Nat.le_of_ble_eq_true rfl)) dJ0_charAt_5068e_12 ⟨by rw [hRc]; exact Nat.le_of_ble_eq_true rfl, by rw [hRs]; exact Nat.le_of_ble_eq_true rfl⟩) hP hD hS hA [] rfl (fun _ => rfl) ?_
    clear hP hD hS
    clear H locs
    intro v3 _u H locs hw hP hD hS
    have w4 := hw
    subst hAe
    rw [hQ]
    exact W.zret (v := v3) hx hb hr (mm_nch w4) (fun t ht hW => ⟨⟨v3, (), rfl, w4, by rw [ht]; exact hP, hK.warm hW, hD⟩, hS.F ht⟩) hS.2.2 dJ0_charAt_5068e_15

set_option maxHeartbeats 4000000 in
set_option maxRecDepth 100000 in
theorem K270_X7_isName (l : Launch) (G : va_G) (cy : Nat → ClassId) (sz : Nat) (a_0 : Nat) (a_1 : Nat) (a_2 : Nat) (i_0 : Int32) (f_0 : Nat → Int32) (a_3 : Nat) (i_1 : Int32) (i_2 : Int32) (i_3 : Int32) (i_4 : Int32) (i_5 : Int32) (i_6 : Int32) (h0 : mm_rg i_0 0 600) (h1 : mm_ar f_0 (-128) 127) (h2 : mm_rg i_3 0 5) (h3 : mm_rg i_4 0 600) (h4 : mm_rg i_5 0 600)  : mm_CI l yX7_isName (mm_ws yX7_isName cX7_isName 4 (some .boolean)) ({ frames := 4, cells := 0, slots := 0, locals := 85 } : Room) G cy sz [(a_1, .inr (9, [.ref a_2, .int i_0])), (a_2, .inl (cy 0, 600, .inl f_0)), (a_0, .inr (7, [.ref a_1, .ref a_3, .int i_1, .int i_2, .int i_3, .int i_4, .int i_5, .int i_6]))] [.ref a_0, .ref (cy 116)] (fun u : Unit => [(a_1, .inr (9, [.ref a_2, .int i_0])), (a_2, .inl (cy 0, 600, .inl f_0)), (a_0, .inr (7, [.ref a_1, .ref a_3, .int i_1, .int i_2, .int i_3, .int i_4, .int i_5, .int i_6]))]) (fun (r : Int32) (u : Unit) => ((0 = r) ∨ (1 = r))) 0 0 := by
  refine mm_begin (lv := [(0, .ref a_0), (1, .ref (cy 116))]) (by decide) (Nat.le_of_ble_eq_true rfl) rfl ?_
  intro p e s m below meth c A ls R args Q H locs hRe hQ hAe hx hb hr hlocks hml hown hnm hts hsz hA hS hP hK hD hZ hl
  have hRf : R.frames = 4 := by rw [hRe]
  have hRl : R.locals = 85 := by rw [hRe]
  have hRc : R.cells = 0 := by rw [hRe]
  have hRs : R.slots = 0 := by rw [hRe]
  refine lv_aload_n hx hb dX7_isName_0 rfl (lv_at hl 1 rfl) ?_
  refine mm_finir (va_runV (As := []) (rest := []) ⟨hx, hb, hml, hown, hts⟩ (K258_J0_length_8abf5 l G cy H.size  ) (cwV 0 hts (mm_gV mm_w258 mm_w259 mm_w260 mm_w261 mm_w262) rfl rfl rfl hd_J0_length_8abf5 ⟨by rw [hRf]; exact Nat.le_of_ble_eq_true rfl, by rw [hRl]; exact Nat.le_of_ble_eq_true rfl⟩) (mm_preVS hK hZ hS hA hP hD [] rfl rfl 8 (by decide)) rfl rfl hl.1 rfl (lv_room (Nat.le_of_ble_eq_true rfl)) dX7_isName_1 ⟨by rw [hRc]; exact Nat.le_of_ble_eq_true rfl, by rw [hRs]; exact Nat.le_of_ble_eq_true rfl⟩) hP hD hS hA [] rfl (fun _ => rfl) ?_
  clear hP hD hS
  clear H locs
  intro v1 _u H locs hw hP hD hS
  subst hw
  refine lv_istore_n (lv' := [(2, .int 4), (0, .ref a_0), (1, .ref (cy 116))]) hx hb dX7_isName_4 rfl hl (by decide) rfl ?_
  clear hl
  clear ls
  intro ls hl
  refine lv_aload_n hx hb dX7_isName_5 rfl (lv_at hl 1 rfl) ?_
  refine va_get (D := G) (ci := 7) (v := .int i_3) (C := RX7) (T := TX7) (N := 8) hx hb hts (mm_i inlX7) hown hK.1 hP 2 rfl rfl 4 (by decide) (mm_h hts mm_w207) (fun _ h9 => h9) rfl dX7_isName_6 ?_
  refine lv_iconst (v := 2) hx hb dX7_isName_9 (by decide) ?_
  refine lv_icmp_ne (tgt := 40) hx hb dX7_isName_10 (by decide) (fun c2 => ?_) (fun c2 => ?_)
  · refine lv_iconst (v := 0) hx hb dX7_isName_40 (by decide) ?_
    subst hAe
    rw [hQ]
    exact W.zret (v := 0) hx hb hr rfl (fun t ht hW => ⟨⟨0, (), rfl, (Or.inl rfl), by rw [ht]; exact hP, hK.warm hW, hD⟩, hS.F ht⟩) hS.2.2 dX7_isName_41
  · have q3 := mm_eqI (lo := 2) (hi := 2) c2 h2 mm_k2 (by decide)
    refine lv_aload_n hx hb dX7_isName_13 rfl (lv_at hl 1 rfl) ?_
    refine va_get (D := G) (ci := 7) (v := .int i_5) (C := RX7) (T := TX7) (N := 8) hx hb hts (mm_i inlX7) hown hK.1 hP 2 rfl rfl 6 (by decide) (mm_h hts mm_w206) (fun _ h9 => h9) rfl dX7_isName_14 ?_
    refine lv_aload_n hx hb dX7_isName_17 rfl (lv_at hl 1 rfl) ?_
    refine va_get (D := G) (ci := 7) (v := .int i_4) (C := RX7) (T := TX7) (N := 8) hx hb hts (mm_i inlX7) hown hK.1 hP 2 rfl rfl 5 (by decide) (mm_h hts mm_w232) (fun _ h9 => h9) rfl dX7_isName_18 ?_
    refine lv_isub hx hb dX7_isName_21 ?_
    refine lv_topi (fun v4 ev4 => ?_)
    have rv4 : mm_rg v4 (-600) 600 := mm_sub ev4 h4 h3 (by decide) (by decide)
    have tv4 := mm_subE ev4 h4 h3 (by decide)
    refine lv_iload_n hx hb dX7_isName_22 rfl (lv_at hl 0 rfl) ?_
    refine lv_icmp_ne (tgt := 40) hx hb dX7_isName_23 (by decide) (fun c5 => ?_) (fun c5 => ?_)
    · refine lv_iconst (v := 0) hx hb dX7_isName_40 (by decide) ?_
      subst hAe
      rw [hQ]
      exact W.zret (v := 0) hx hb hr rfl (fun t ht hW => ⟨⟨0, (), rfl, (Or.inl rfl), by rw [ht]; exact hP, hK.warm hW, hD⟩, hS.F ht⟩) hS.2.2 dX7_isName_41
    · have q6 := mm_eqI (lo := 4) (hi := 4) c5 rv4 mm_k4 (by decide)
      have q7 : mm_rg i_4 0 596 := mm_unsubY tv4 q6 h4 h3 (by decide)
      have q8 : mm_rg i_5 4 600 := mm_unsubX tv4 q6 q7 h4 (by decide)
      refine lv_aload_n hx hb dX7_isName_26 rfl (lv_at hl 1 rfl) ?_
      refine va_get (D := G) (ci := 7) (v := .int i_5) (C := RX7) (T := TX7) (N := 8) hx hb hts (mm_i inlX7) hown hK.1 hP 2 rfl rfl 6 (by decide) (mm_h hts mm_w206) (fun _ h9 => h9) rfl dX7_isName_27 ?_
      refine lv_aload_n hx hb dX7_isName_30 rfl (lv_at hl 1 rfl) ?_
      refine va_get (D := G) (ci := 7) (v := .ref a_1) (C := RX7) (T := TX7) (N := 8) hx hb hts (mm_i inlX7) hown hK.1 hP 2 rfl rfl 0 (by decide) (mm_h hts mm_w67) (fun _ h9 => h9) rfl dX7_isName_31 ?_
      refine va_get (D := G) (ci := 9) (v := .int i_0) (C := RX9) (T := TX9) (N := 2) hx hb hts (mm_i inlX9) hown hK.1 hP 0 rfl rfl 1 (by decide) (mm_h hts mm_w231) (fun _ h9 => h9) rfl dX7_isName_34 ?_
      refine lv_icmp_le (tgt := 42) hx hb dX7_isName_37 (by decide) (fun c9 => ?_) (fun c9 => ?_)
      · have q10 := mm_leR (mm_le c9) q8 h0
        refine lv_iconst (v := 0) hx hb dX7_isName_42 (by decide) ?_
        refine lv_istore_n (lv' := [(3, .int 0), (2, .int 4), (0, .ref a_0), (1, .ref (cy 116))]) hx hb dX7_isName_43 rfl hl (by decide) rfl ?_
        clear hl
        clear ls
        intro ls hl
        have L44_71 : ∀ (n : Nat) (x44_3_71 : Int32), mm_rg x44_3_71 0 4 → (4 - x44_3_71.toInt).toNat < n → ∀ (H : Heap) (locs : List Loc), va_P G vwCl [(a_1, .inr (9, [.ref a_2, .int i_0])), (a_2, .inl (cy 0, 600, .inl f_0)), (a_0, .inr (7, [.ref a_1, .ref a_3, .int i_1, .int i_2, .int i_3, .int i_4, .int i_5, .int i_6]))] H → va_D A [(a_1, .inr (9, [.ref a_2, .int i_0])), (a_2, .inl (cy 0, 600, .inl f_0)), (a_0, .inr (7, [.ref a_1, .ref a_3, .int i_1, .int i_2, .int i_3, .int i_4, .int i_5, .int i_6]))] → va_S A s.heap H locs → ∀ (ls : Array Slot), lv_has ls 4 [(3, .int x44_3_71), (2, .int 4), (0, .ref a_0), (1, .ref (cy 116))] → W p l e R s m args below meth c H locs 0 0 Q (F0 m 44 ls []) := by
          intro n
          induction n with
          | zero => intro x44_3_71 rx44_3_71 hm; exact absurd hm (Nat.not_lt_zero _)
          | succ n ih44 =>
            intro x44_3_71 rx44_3_71 hm44 H locs hP hD hS ls hl
            refine lv_iload_n hx hb dX7_isName_44 rfl (lv_at hl 0 rfl) ?_
            refine lv_iload_n hx hb dX7_isName_45 rfl (lv_at hl 1 rfl) ?_
            refine lv_icmp_ge (tgt := 79) hx hb dX7_isName_46 (by decide) (fun c73 => ?_) (fun c73 => ?_)
            · have q74 := mm_leR (mm_le c73) mm_k4 rx44_3_71
              refine lv_iconst (v := 1) hx hb dX7_isName_79 (by decide) ?_
              subst hAe
              rw [hQ]
              exact W.zret (v := 1) hx hb hr rfl (fun t ht hW => ⟨⟨1, (), rfl, (Or.inr rfl), by rw [ht]; exact hP, hK.warm hW, hD⟩, hS.F ht⟩) hS.2.2 dX7_isName_80
            · have q75 := mm_ltL (h := 3) (mm_nle c73) rx44_3_71 mm_k4 (by decide)
              refine lv_aload_n hx hb dX7_isName_49 rfl (lv_at hl 2 rfl) ?_
              refine va_get (D := G) (ci := 7) (v := .ref a_1) (C := RX7) (T := TX7) (N := 8) hx hb hts (mm_i inlX7) hown hK.1 hP 2 rfl rfl 0 (by decide) (mm_h hts mm_w67) (fun _ h9 => h9) rfl dX7_isName_50 ?_
              refine va_get (D := G) (ci := 9) (v := .ref a_2) (C := RX9) (T := TX9) (N := 2) hx hb hts (mm_i inlX9) hown hK.1 hP 0 rfl rfl 0 (by decide) (mm_h hts mm_w238) (fun _ h9 => h9) rfl dX7_isName_53 ?_
              refine lv_aload_n hx hb dX7_isName_56 rfl (lv_at hl 2 rfl) ?_
              refine va_get (D := G) (ci := 7) (v := .int i_4) (C := RX7) (T := TX7) (N := 8) hx hb hts (mm_i inlX7) hown hK.1 hP 2 rfl rfl 5 (by decide) (mm_h hts mm_w232) (fun _ h9 => h9) rfl dX7_isName_57 ?_
              refine lv_iload_n hx hb dX7_isName_60 rfl (lv_at hl 0 rfl) ?_
              refine lv_iadd hx hb dX7_isName_61 ?_
              refine lv_topi (fun v76 ev76 => ?_)
              have rv76 : mm_rg v76 0 599 := mm_add ev76 q7 q75 (by decide) (by decide)
              have tv76 := mm_addE ev76 q7 q75 (by decide)
              refine va_bald hx hb hK.1 hP 1 0 rfl rfl (mm_in rv76 (by decide)) dX7_isName_62 ?_
              refine lv_topi (fun v77 ev77 => ?_)
              have rv77 : mm_rg v77 (-128) 127 := mm_eqv ev77 (h1 _)
              refine lv_aload_n hx hb dX7_isName_63 rfl (lv_at hl 3 rfl) ?_
              refine lv_iload_n hx hb dX7_isName_64 rfl (lv_at hl 0 rfl) ?_
              refine mm_finir (va_runV (As := [.int x44_3_71]) (rest := [.int v77]) ⟨hx, hb, hml, hown, hts⟩ (K269_J0_charAt_5068e l G cy H.size x44_3_71 q75) (cwV 1 hts (mm_gV mm_w270 mm_w271 mm_w272 mm_w261 mm_w273) rfl rfl rfl hd_J0_charAt_5068e ⟨by rw [hRf]; exact Nat.le_of_ble_eq_true rfl, by rw [hRl]; exact Nat.le_of_ble_eq_true rfl⟩) (mm_preVS hK hZ hS hA hP hD [] rfl rfl 8 (by decide)) rfl rfl hl.1 rfl (lv_room (Nat.le_of_ble_eq_true rfl)) dX7_isName_65 ⟨by rw [hRc]; exact Nat.le_of_ble_eq_true rfl, by rw [hRs]; exact Nat.le_of_ble_eq_true rfl⟩) hP hD hS hA [] rfl (fun _ => rfl) ?_
              clear hP hD hS
              clear H locs
              intro v78 _u H locs hw hP hD hS
              have w79 := hw
              refine lv_icmp_eq (tgt := 73) hx hb dX7_isName_68 (by decide) (fun c80 => ?_) (fun c80 => ?_)
              · have q81 := mm_eqI (lo := 0) (hi := 127) c80 rv77 w79 (by decide)
                have q82 := mm_eqI (lo := 0) (hi := 127) c80.symm w79 rv77 (by decide)
                obtain ⟨v83, ev83⟩ : ∃ y : Int32, y = x44_3_71 + 1 := ⟨_, rfl⟩
                refine lv_iinc (v := v83) (lv' := [(3, .int v83), (2, .int 4), (0, .ref a_0), (1, .ref (cy 116))]) hx hb dX7_isName_73 hl (k := 0) rfl (by rw [ev83]; rfl) (by decide) rfl ?_
                clear hl
                clear ls
                intro ls hl
                have rv83 : mm_rg v83 1 4 := mm_add ev83 q75 mm_k1 (by decide) (by decide)
                have tv83 := mm_addEc ev83 q75 mm_k1 (by decide) (k := 1) (by decide)
                refine lv_goto (tgt := 44) hx hb dX7_isName_76 (by decide) ?_
                exact ih44 v83 (mm_wk rv83 (by decide)) (mm_mu hm44 tv83 (by decide) (rv83).2 (by decide)) H locs hP hD hS ls (lv_sub hl [0, 1, 2, 3] rfl)
              · refine lv_iconst (v := 0) hx hb dX7_isName_71 (by decide) ?_
                subst hAe
                rw [hQ]
                exact W.zret (v := 0) hx hb hr rfl (fun t ht hW => ⟨⟨0, (), rfl, (Or.inl rfl), by rw [ht]; exact hP, hK.warm hW, hD⟩, hS.F ht⟩) hS.2.2 dX7_isName_72
        exact L44_71 _ 0 (mm_wk mm_k0 (by decide)) (Nat.lt_succ_self _) H locs hP hD hS ls (lv_sub hl [0, 1, 2, 3] rfl)
      · have q84 := mm_ltL (h := 599) (mm_nle c9) h0 q8 (by decide)
        refine lv_iconst (v := 0) hx hb dX7_isName_40 (by decide) ?_
        subst hAe
        rw [hQ]
        exact W.zret (v := 0) hx hb hr rfl (fun t ht hW => ⟨⟨0, (), rfl, (Or.inl rfl), by rw [ht]; exact hP, hK.warm hW, hD⟩, hS.F ht⟩) hS.2.2 dX7_isName_41

set_option maxHeartbeats 4000000 in
set_option maxRecDepth 100000 in
theorem K271_X7_kindTold (l : Launch) (G : va_G) (cy : Nat → ClassId) (sz : Nat) (a_0 : Nat) (a_1 : Nat) (a_2 : Nat) (i_0 : Int32) (f_0 : Nat → Int32) (a_3 : Nat) (i_1 : Int32) (i_2 : Int32) (i_3 : Int32) (i_4 : Int32) (i_5 : Int32) (i_6 : Int32) (h0 : mm_rg i_0 0 600) (h1 : mm_ar f_0 (-128) 127) (h2 : mm_rg i_3 0 5) (h3 : mm_rg i_4 0 600) (h4 : mm_rg i_5 0 600)  : mm_CI l yX7_kindTold (mm_ws yX7_kindTold cX7_kindTold 1 (some .int)) ({ frames := 5, cells := 0, slots := 0, locals := 108 } : Room) G cy sz [(a_1, .inr (9, [.ref a_2, .int i_0])), (a_2, .inl (cy 0, 600, .inl f_0)), (a_0, .inr (7, [.ref a_1, .ref a_3, .int i_1, .int i_2, .int i_3, .int i_4, .int i_5, .int i_6]))] [.ref a_0] (fun u : Unit => [(a_1, .inr (9, [.ref a_2, .int i_0])), (a_2, .inl (cy 0, 600, .inl f_0)), (a_0, .inr (7, [.ref a_1, .ref a_3, .int i_1, .int i_2, .int i_3, .int i_4, .int i_5, .int i_6]))]) (fun (r : Int32) (u : Unit) => mm_rg r (-1) 4) 0 0 := by
  refine mm_begin (lv := [(0, .ref a_0)]) (by decide) (Nat.le_of_ble_eq_true rfl) rfl ?_
  intro p e s m below meth c A ls R args Q H locs hRe hQ hAe hx hb hr hlocks hml hown hnm hts hsz hA hS hP hK hD hZ hl
  have hRf : R.frames = 5 := by rw [hRe]
  have hRl : R.locals = 108 := by rw [hRe]
  have hRc : R.cells = 0 := by rw [hRe]
  have hRs : R.slots = 0 := by rw [hRe]
  refine lv_aload_n hx hb dX7_kindTold_0 rfl (lv_at hl 0 rfl) ?_
  refine va_ldcS hx hb hown (hK.2.2.2 4 "MissingMeaning$Scribe" 124 "give" rfl) dX7_kindTold_1 ?_
  refine mm_finir (va_runV (As := [.ref (cy 108)]) (rest := []) ⟨hx, hb, hml, hown, hts⟩ (K189_X7_isName l G cy H.size a_0 a_1 a_2 i_0 f_0 a_3 i_1 i_2 i_3 i_4 i_5 i_6 h0 h1 h2 h3 h4) (cwV 1 hts (mm_gV mm_w254 mm_w255 mm_w256 mm_w19 mm_w257) rfl rfl rfl hd_X7_isName ⟨by rw [hRf]; exact Nat.le_of_ble_eq_true rfl, by rw [hRl]; exact Nat.le_of_ble_eq_true rfl⟩) (mm_preV hK hZ hS hA hP hD [0, 1, 2] rfl rfl 2 rfl rfl rfl) rfl rfl hl.1 rfl (lv_room (Nat.le_of_ble_eq_true rfl)) dX7_kindTold_3 ⟨by rw [hRc]; exact Nat.le_of_ble_eq_true rfl, by rw [hRs]; exact Nat.le_of_ble_eq_true rfl⟩) hP hD hS hA [0, 1, 2] rfl (fun _ => rfl) ?_
  clear hP hD hS
  clear H locs
  intro v1 _u H locs hw hP hD hS
  rcases hw with rfl | rfl
  · refine lv_if_eq (tgt := 11) hx hb dX7_kindTold_6 (by decide) (fun c2 => ?_) (fun c2 => ?_)
    · refine lv_aload_n hx hb dX7_kindTold_11 rfl (lv_at hl 0 rfl) ?_
      refine va_ldcS hx hb hown (hK.2.2.2 5 "MissingMeaning$Scribe" 126 "take" rfl) dX7_kindTold_12 ?_
      refine mm_finir (va_runV (As := [.ref (cy 110)]) (rest := []) ⟨hx, hb, hml, hown, hts⟩ (K203_X7_isName l G cy H.size a_0 a_1 a_2 i_0 f_0 a_3 i_1 i_2 i_3 i_4 i_5 i_6 h0 h1 h2 h3 h4) (cwV 1 hts (mm_gV mm_w254 mm_w255 mm_w256 mm_w19 mm_w257) rfl rfl rfl hd_X7_isName ⟨by rw [hRf]; exact Nat.le_of_ble_eq_true rfl, by rw [hRl]; exact Nat.le_of_ble_eq_true rfl⟩) (mm_preV hK hZ hS hA hP hD [0, 1, 2] rfl rfl 2 rfl rfl rfl) rfl rfl hl.1 rfl (lv_room (Nat.le_of_ble_eq_true rfl)) dX7_kindTold_14 ⟨by rw [hRc]; exact Nat.le_of_ble_eq_true rfl, by rw [hRs]; exact Nat.le_of_ble_eq_true rfl⟩) hP hD hS hA [0, 1, 2] rfl (fun _ => rfl) ?_
      clear hP hD hS
      clear H locs
      intro v3 _u H locs hw hP hD hS
      rcases hw with rfl | rfl
      · refine lv_if_eq (tgt := 22) hx hb dX7_kindTold_17 (by decide) (fun c4 => ?_) (fun c4 => ?_)
        · refine lv_aload_n hx hb dX7_kindTold_22 rfl (lv_at hl 0 rfl) ?_
          refine va_ldcS hx hb hown (hK.2.2.2 6 "MissingMeaning$Scribe" 128 "double" rfl) dX7_kindTold_23 ?_
          refine mm_finir (va_runV (As := [.ref (cy 112)]) (rest := []) ⟨hx, hb, hml, hown, hts⟩ (K242_X7_isName l G cy H.size a_0 a_1 a_2 i_0 f_0 a_3 i_1 i_2 i_3 i_4 i_5 i_6 h0 h1 h2 h3 h4) (cwV 1 hts (mm_gV mm_w254 mm_w255 mm_w256 mm_w19 mm_w257) rfl rfl rfl hd_X7_isName ⟨by rw [hRf]; exact Nat.le_of_ble_eq_true rfl, by rw [hRl]; exact Nat.le_of_ble_eq_true rfl⟩) (mm_preV hK hZ hS hA hP hD [0, 1, 2] rfl rfl 2 rfl rfl rfl) rfl rfl hl.1 rfl (lv_room (Nat.le_of_ble_eq_true rfl)) dX7_kindTold_25 ⟨by rw [hRc]; exact Nat.le_of_ble_eq_true rfl, by rw [hRs]; exact Nat.le_of_ble_eq_true rfl⟩) hP hD hS hA [0, 1, 2] rfl (fun _ => rfl) ?_
          clear hP hD hS
          clear H locs
          intro v5 _u H locs hw hP hD hS
          rcases hw with rfl | rfl
          · refine lv_if_eq (tgt := 33) hx hb dX7_kindTold_28 (by decide) (fun c6 => ?_) (fun c6 => ?_)
            · refine lv_aload_n hx hb dX7_kindTold_33 rfl (lv_at hl 0 rfl) ?_
              refine va_ldcS hx hb hown (hK.2.2.2 7 "MissingMeaning$Scribe" 130 "stop" rfl) dX7_kindTold_34 ?_
              refine mm_finir (va_runV (As := [.ref (cy 114)]) (rest := []) ⟨hx, hb, hml, hown, hts⟩ (K256_X7_isName l G cy H.size a_0 a_1 a_2 i_0 f_0 a_3 i_1 i_2 i_3 i_4 i_5 i_6 h0 h1 h2 h3 h4) (cwV 1 hts (mm_gV mm_w254 mm_w255 mm_w256 mm_w19 mm_w257) rfl rfl rfl hd_X7_isName ⟨by rw [hRf]; exact Nat.le_of_ble_eq_true rfl, by rw [hRl]; exact Nat.le_of_ble_eq_true rfl⟩) (mm_preV hK hZ hS hA hP hD [0, 1, 2] rfl rfl 2 rfl rfl rfl) rfl rfl hl.1 rfl (lv_room (Nat.le_of_ble_eq_true rfl)) dX7_kindTold_36 ⟨by rw [hRc]; exact Nat.le_of_ble_eq_true rfl, by rw [hRs]; exact Nat.le_of_ble_eq_true rfl⟩) hP hD hS hA [0, 1, 2] rfl (fun _ => rfl) ?_
              clear hP hD hS
              clear H locs
              intro v7 _u H locs hw hP hD hS
              rcases hw with rfl | rfl
              · refine lv_if_eq (tgt := 44) hx hb dX7_kindTold_39 (by decide) (fun c8 => ?_) (fun c8 => ?_)
                · refine lv_aload_n hx hb dX7_kindTold_44 rfl (lv_at hl 0 rfl) ?_
                  refine va_ldcS hx hb hown (hK.2.2.2 8 "MissingMeaning$Scribe" 132 "skip" rfl) dX7_kindTold_45 ?_
                  refine mm_finir (va_runV (As := [.ref (cy 116)]) (rest := []) ⟨hx, hb, hml, hown, hts⟩ (K270_X7_isName l G cy H.size a_0 a_1 a_2 i_0 f_0 a_3 i_1 i_2 i_3 i_4 i_5 i_6 h0 h1 h2 h3 h4) (cwV 1 hts (mm_gV mm_w254 mm_w255 mm_w256 mm_w19 mm_w257) rfl rfl rfl hd_X7_isName ⟨by rw [hRf]; exact Nat.le_of_ble_eq_true rfl, by rw [hRl]; exact Nat.le_of_ble_eq_true rfl⟩) (mm_preV hK hZ hS hA hP hD [0, 1, 2] rfl rfl 2 rfl rfl rfl) rfl rfl hl.1 rfl (lv_room (Nat.le_of_ble_eq_true rfl)) dX7_kindTold_47 ⟨by rw [hRc]; exact Nat.le_of_ble_eq_true rfl, by rw [hRs]; exact Nat.le_of_ble_eq_true rfl⟩) hP hD hS hA [0, 1, 2] rfl (fun _ => rfl) ?_
                  clear hP hD hS
                  clear H locs
                  intro v9 _u H locs hw hP hD hS
                  rcases hw with rfl | rfl
                  · refine lv_if_eq (tgt := 57) hx hb dX7_kindTold_50 (by decide) (fun c10 => ?_) (fun c10 => ?_)
                    · refine lv_iconst (v := (-1)) hx hb dX7_kindTold_57 (by decide) ?_
                      subst hAe
                      rw [hQ]
                      exact W.iret (v := (-1)) hx hb hr (fun t ht hW => ⟨⟨(-1), (), rfl, (mm_wk mm_km1 (by decide)), by rw [ht]; exact hP, hK.warm hW, hD⟩, hS.F ht⟩) hS.2.2 dX7_kindTold_58
                    · have q11 := mm_neL (lo := 1) (mm_ne c10) mm_k0 mm_k0 (by decide) (by decide)
                      exact mm_no q11 (by decide)
                  · refine lv_if_eq (tgt := 57) hx hb dX7_kindTold_50 (by decide) (fun c12 => ?_) (fun c12 => ?_)
                    · exact mm_eqN c12.symm mm_k0 mm_k1 (by decide)
                    · refine lv_iconst (v := 4) hx hb dX7_kindTold_53 (by decide) ?_
                      refine lv_goto (tgt := 58) hx hb dX7_kindTold_54 (by decide) ?_
                      subst hAe
                      rw [hQ]
                      exact W.iret (v := 4) hx hb hr (fun t ht hW => ⟨⟨4, (), rfl, (mm_wk mm_k4 (by decide)), by rw [ht]; exact hP, hK.warm hW, hD⟩, hS.F ht⟩) hS.2.2 dX7_kindTold_58
                · have q13 := mm_neL (lo := 1) (mm_ne c8) mm_k0 mm_k0 (by decide) (by decide)
                  exact mm_no q13 (by decide)
              · refine lv_if_eq (tgt := 44) hx hb dX7_kindTold_39 (by decide) (fun c14 => ?_) (fun c14 => ?_)
                · exact mm_eqN c14.symm mm_k0 mm_k1 (by decide)
                · refine lv_iconst (v := 3) hx hb dX7_kindTold_42 (by decide) ?_
                  subst hAe
                  rw [hQ]
                  exact W.iret (v := 3) hx hb hr (fun t ht hW => ⟨⟨3, (), rfl, (mm_wk mm_k3 (by decide)), by rw [ht]; exact hP, hK.warm hW, hD⟩, hS.F ht⟩) hS.2.2 dX7_kindTold_43
            · have q15 := mm_neL (lo := 1) (mm_ne c6) mm_k0 mm_k0 (by decide) (by decide)
              exact mm_no q15 (by decide)
          · refine lv_if_eq (tgt := 33) hx hb dX7_kindTold_28 (by decide) (fun c16 => ?_) (fun c16 => ?_)
            · exact mm_eqN c16.symm mm_k0 mm_k1 (by decide)
            · refine lv_iconst (v := 2) hx hb dX7_kindTold_31 (by decide) ?_
              subst hAe
              rw [hQ]
              exact W.iret (v := 2) hx hb hr (fun t ht hW => ⟨⟨2, (), rfl, (mm_wk mm_k2 (by decide)), by rw [ht]; exact hP, hK.warm hW, hD⟩, hS.F ht⟩) hS.2.2 dX7_kindTold_32
        · have q17 := mm_neL (lo := 1) (mm_ne c4) mm_k0 mm_k0 (by decide) (by decide)
          exact mm_no q17 (by decide)
      · refine lv_if_eq (tgt := 22) hx hb dX7_kindTold_17 (by decide) (fun c18 => ?_) (fun c18 => ?_)
        · exact mm_eqN c18.symm mm_k0 mm_k1 (by decide)
        · refine lv_iconst (v := 1) hx hb dX7_kindTold_20 (by decide) ?_
          subst hAe
          rw [hQ]
          exact W.iret (v := 1) hx hb hr (fun t ht hW => ⟨⟨1, (), rfl, (mm_wk mm_k1 (by decide)), by rw [ht]; exact hP, hK.warm hW, hD⟩, hS.F ht⟩) hS.2.2 dX7_kindTold_21
    · have q19 := mm_neL (lo := 1) (mm_ne c2) mm_k0 mm_k0 (by decide) (by decide)
      exact mm_no q19 (by decide)
  · refine lv_if_eq (tgt := 11) hx hb dX7_kindTold_6 (by decide) (fun c20 => ?_) (fun c20 => ?_)
    · exact mm_eqN c20.symm mm_k0 mm_k1 (by decide)
    · refine lv_iconst (v := 0) hx hb dX7_kindTold_9 (by decide) ?_
      subst hAe
      rw [hQ]
      exact W.iret (v := 0) hx hb hr (fun t ht hW => ⟨⟨0, (), rfl, (mm_wk mm_k0 (by decide)), by rw [ht]; exact hP, hK.warm hW, hD⟩, hS.F ht⟩) hS.2.2 dX7_kindTold_10

set_option maxHeartbeats 4000000 in
set_option maxRecDepth 100000 in
theorem K272_X7_takeNumber (l : Launch) (G : va_G) (cy : Nat → ClassId) (sz : Nat) (a_0 : Nat) (a_1 : Nat) (a_2 : Nat) (i_0 : Int32) (f_0 : Nat → Int32) (a_3 : Nat) (i_1 : Int32) (i_2 : Int32) (i_3 : Int32) (i_4 : Int32) (i_5 : Int32) (i_6 : Int32) (h0 : mm_rg i_0 0 600) (h1 : mm_ar f_0 (-128) 127) (h2 : mm_rg i_1 0 3) (h3 : mm_rg i_3 0 5) (h4 : mm_rg i_4 0 600) (h5 : mm_rg i_5 0 600)  : mm_CI l yX7_takeNumber (mm_ws yX7_takeNumber cX7_takeNumber 4 (some .int)) ({ frames := 2, cells := 0, slots := 0, locals := 45 } : Room) G cy sz [(a_1, .inr (9, [.ref a_2, .int i_0])), (a_2, .inl (cy 0, 600, .inl f_0)), (a_0, .inr (7, [.ref a_1, .ref a_3, .int i_1, .int i_2, .int i_3, .int i_4, .int i_5, .int i_6]))] [.ref a_0, .int 0, .int 99] (fun u : Int32 × Int32 × Int32 × Int32 × Int32 × Int32 => [(a_1, .inr (9, [.ref a_2, .int i_0])), (a_2, .inl (cy 0, 600, .inl f_0)), (a_0, .inr (7, [.ref a_1, .ref a_3, .int u.1, .int u.2.1, .int u.2.2.1, .int u.2.2.2.1, .int u.2.2.2.2.1, .int u.2.2.2.2.2]))]) (fun (r : Int32) (u : Int32 × Int32 × Int32 × Int32 × Int32 × Int32) => mm_rg u.1 0 3 ∧ mm_rg u.2.2.1 0 5 ∧ mm_rg u.2.2.2.1 0 600 ∧ mm_rg u.2.2.2.2.1 0 600 ∧ mm_rg r 0 99) 0 0 := by
  refine mm_begin (lv := [(0, .ref a_0), (1, .int 0), (2, .int 99)]) (by decide) (Nat.le_of_ble_eq_true rfl) rfl ?_
  intro p e s m below meth c A ls R args Q H locs hRe hQ hAe hx hb hr hlocks hml hown hnm hts hsz hA hS hP hK hD hZ hl
  have hRf : R.frames = 2 := by rw [hRe]
  have hRl : R.locals = 45 := by rw [hRe]
  have hRc : R.cells = 0 := by rw [hRe]
  have hRs : R.slots = 0 := by rw [hRe]
  refine lv_aload_n hx hb dX7_takeNumber_0 rfl (lv_at hl 0 rfl) ?_
  refine va_get (D := G) (ci := 7) (v := .int i_3) (C := RX7) (T := TX7) (N := 8) hx hb hts (mm_i inlX7) hown hK.1 hP 2 rfl rfl 4 (by decide) (mm_h hts mm_w207) (fun _ h9 => h9) rfl dX7_takeNumber_1 ?_
  refine lv_iconst (v := 3) hx hb dX7_takeNumber_4 (by decide) ?_
  refine lv_icmp_eq (tgt := 16) hx hb dX7_takeNumber_5 (by decide) (fun c1 => ?_) (fun c1 => ?_)
  · have q2 := mm_eqI (lo := 3) (hi := 3) c1 h3 mm_k3 (by decide)
    refine lv_aload_n hx hb dX7_takeNumber_16 rfl (lv_at hl 0 rfl) ?_
    refine va_get (D := G) (ci := 7) (v := .int i_6) (C := RX7) (T := TX7) (N := 8) hx hb hts (mm_i inlX7) hown hK.1 hP 2 rfl rfl 7 (by decide) (mm_h hts mm_w233) (fun _ h9 => h9) rfl dX7_takeNumber_17 ?_
    refine lv_iload_n hx hb dX7_takeNumber_20 rfl (lv_at hl 1 rfl) ?_
    refine lv_icmp_lt (tgt := 32) hx hb dX7_takeNumber_21 (by decide) (fun c3 => ?_) (fun c3 => ?_)
    · have q4 := mm_ltL (h := (-1)) (mm_lt c3) (mm_top i_6) mm_k0 (by decide)
      refine lv_aload_n hx hb dX7_takeNumber_32 rfl (lv_at hl 0 rfl) ?_
      refine lv_iconst (v := 2) hx hb dX7_takeNumber_33 (by decide) ?_
      refine mm_finv (va_runV (As := [.int 2]) (rest := []) ⟨hx, hb, hml, hown, hts⟩ (K102_X7_blame l G cy H.size a_0 a_1 a_3 i_1 i_2 i_3 i_4 i_5 i_6 h2 h4) (cwV 1 hts (mm_gV mm_w311 mm_w312 mm_w313 mm_w19 mm_w314) rfl rfl rfl hd_X7_blame ⟨by rw [hRf]; exact Nat.le_of_ble_eq_true rfl, by rw [hRl]; exact Nat.le_of_ble_eq_true rfl⟩) (mm_preV hK hZ hS hA hP hD [2] rfl rfl 2 rfl rfl rfl) rfl rfl hl.1 rfl (lv_room (Nat.le_of_ble_eq_true rfl)) dX7_takeNumber_34 ⟨by rw [hRc]; exact Nat.le_of_ble_eq_true rfl, by rw [hRs]; exact Nat.le_of_ble_eq_true rfl⟩) hP hD hS hA (fun u : Int32 × Int32 => [(a_1, .inr (9, [.ref a_2, .int i_0])), (a_2, .inl (cy 0, 600, .inl f_0)), (a_0, .inr (7, [.ref a_1, .ref a_3, .int u.1, .int u.2, .int i_3, .int i_4, .int i_5, .int i_6]))]) [2] [0, 1] (n := 3) (fun _ => rfl) (by decide +kernel) (by decide +kernel) rfl (fun _ => rfl) (wr := [(a_1, .inr (9, [.ref a_2, .int i_0])), (a_2, .inl (cy 0, 600, .inl f_0))]) rfl (fun _ => rfl) (fun _ => rfl) ?_
      clear hP hD hS
      clear H locs
      intro u
      obtain ⟨n5, n6⟩ := u
      intro H locs hw (hP : va_P G vwCl [(a_1, .inr (9, [.ref a_2, .int i_0])), (a_2, .inl (cy 0, 600, .inl f_0)), (a_0, .inr (7, [.ref a_1, .ref a_3, .int n5, .int n6, .int i_3, .int i_4, .int i_5, .int i_6]))] H) (hD : va_D A [(a_1, .inr (9, [.ref a_2, .int i_0])), (a_2, .inl (cy 0, 600, .inl f_0)), (a_0, .inr (7, [.ref a_1, .ref a_3, .int n5, .int n6, .int i_3, .int i_4, .int i_5, .int i_6]))]) hS
      have w7 := hw
      refine lv_aload_n hx hb dX7_takeNumber_37 rfl (lv_at hl 0 rfl) ?_
      refine va_get (D := G) (ci := 7) (v := .int n5) (C := RX7) (T := TX7) (N := 8) hx hb hts (mm_i inlX7) hown hK.1 hP 2 rfl rfl 2 (by decide) (mm_h hts mm_w205) (fun _ h9 => h9) rfl dX7_takeNumber_38 ?_
      refine lv_if_eq (tgt := 46) hx hb dX7_takeNumber_41 (by decide) (fun c8 => ?_) (fun c8 => ?_)
      · exact mm_eqN c8.symm mm_k0 w7 (by decide)
      · refine lv_iload_n hx hb dX7_takeNumber_44 rfl (lv_at hl 1 rfl) ?_
        subst hAe
        rw [hQ]
        exact W.iret (v := 0) hx hb hr (fun t ht hW => ⟨⟨0, (n5, n6, i_3, i_4, i_5, i_6), rfl, ⟨(mm_wk w7 (by decide)), (mm_wk q2 (by decide)), h4, h5, (mm_wk mm_k0 (by decide))⟩, by rw [ht]; exact hP, hK.warm hW, hD⟩, hS.F ht⟩) hS.2.2 dX7_takeNumber_45
    · have q9 := mm_leR (mm_nlt c3) mm_k0 (mm_top i_6)
      refine lv_aload_n hx hb dX7_takeNumber_24 rfl (lv_at hl 0 rfl) ?_
      refine va_get (D := G) (ci := 7) (v := .int i_6) (C := RX7) (T := TX7) (N := 8) hx hb hts (mm_i inlX7) hown hK.1 hP 2 rfl rfl 7 (by decide) (mm_h hts mm_w233) (fun _ h9 => h9) rfl dX7_takeNumber_25 ?_
      refine lv_iload_n hx hb dX7_takeNumber_28 rfl (lv_at hl 2 rfl) ?_
      refine lv_icmp_le (tgt := 37) hx hb dX7_takeNumber_29 (by decide) (fun c10 => ?_) (fun c10 => ?_)
      · have q11 := mm_leL (mm_le c10) q9 mm_k99
        refine lv_aload_n hx hb dX7_takeNumber_37 rfl (lv_at hl 0 rfl) ?_
        refine va_get (D := G) (ci := 7) (v := .int i_1) (C := RX7) (T := TX7) (N := 8) hx hb hts (mm_i inlX7) hown hK.1 hP 2 rfl rfl 2 (by decide) (mm_h hts mm_w205) (fun _ h9 => h9) rfl dX7_takeNumber_38 ?_
        refine lv_if_eq (tgt := 46) hx hb dX7_takeNumber_41 (by decide) (fun c12 => ?_) (fun c12 => ?_)
        · have q13 := mm_eqI (lo := 0) (hi := 0) c12 h2 mm_k0 (by decide)
          refine lv_aload_n hx hb dX7_takeNumber_46 rfl (lv_at hl 0 rfl) ?_
          refine va_get (D := G) (ci := 7) (v := .int i_6) (C := RX7) (T := TX7) (N := 8) hx hb hts (mm_i inlX7) hown hK.1 hP 2 rfl rfl 7 (by decide) (mm_h hts mm_w233) (fun _ h9 => h9) rfl dX7_takeNumber_47 ?_
          refine lv_istore_n (lv' := [(3, .int i_6), (0, .ref a_0), (1, .int 0), (2, .int 99)]) hx hb dX7_takeNumber_50 rfl hl (by decide) rfl ?_
          clear hl
          clear ls
          intro ls hl
          refine lv_aload_n hx hb dX7_takeNumber_51 rfl (lv_at hl 1 rfl) ?_
          refine mm_finv (va_runV (As := []) (rest := []) ⟨hx, hb, hml, hown, hts⟩ (K9_X7_nextToken l G cy H.size a_0 a_1 a_2 i_0 f_0 a_3 i_1 i_2 i_3 i_4 i_5 i_6 h0 h1 (mm_wk q2 (by decide)) h4 h5) (cwV 0 hts (mm_gV mm_w227 mm_w228 mm_w229 mm_w19 mm_w230) rfl rfl rfl hd_X7_nextToken ⟨by rw [hRf]; exact Nat.le_of_ble_eq_true rfl, by rw [hRl]; exact Nat.le_of_ble_eq_true rfl⟩) (mm_preV hK hZ hS hA hP hD [0, 1, 2] rfl rfl 2 rfl rfl rfl) rfl rfl hl.1 rfl (lv_room (Nat.le_of_ble_eq_true rfl)) dX7_takeNumber_52 ⟨by rw [hRc]; exact Nat.le_of_ble_eq_true rfl, by rw [hRs]; exact Nat.le_of_ble_eq_true rfl⟩) hP hD hS hA (fun u : Int32 × Int32 × Int32 × Int32 => [(a_1, .inr (9, [.ref a_2, .int i_0])), (a_2, .inl (cy 0, 600, .inl f_0)), (a_0, .inr (7, [.ref a_1, .ref a_3, .int i_1, .int i_2, .int u.1, .int u.2.1, .int u.2.2.1, .int u.2.2.2]))]) [0, 1, 2] [] (n := 3) (fun _ => rfl) (by decide +kernel) (by decide +kernel) rfl (fun _ => rfl) (wr := []) rfl (fun _ => rfl) (fun _ => rfl) ?_
          clear hP hD hS
          clear H locs
          intro u
          obtain ⟨n14, n15, n16, n17⟩ := u
          intro H locs hw (hP : va_P G vwCl [(a_1, .inr (9, [.ref a_2, .int i_0])), (a_2, .inl (cy 0, 600, .inl f_0)), (a_0, .inr (7, [.ref a_1, .ref a_3, .int i_1, .int i_2, .int n14, .int n15, .int n16, .int n17]))] H) (hD : va_D A [(a_1, .inr (9, [.ref a_2, .int i_0])), (a_2, .inl (cy 0, 600, .inl f_0)), (a_0, .inr (7, [.ref a_1, .ref a_3, .int i_1, .int i_2, .int n14, .int n15, .int n16, .int n17]))]) hS
          obtain ⟨w18, w19, w20⟩ := hw
          refine lv_iload_n hx hb dX7_takeNumber_55 rfl (lv_at hl 0 rfl) ?_
          subst hAe
          rw [hQ]
          exact W.iret (v := i_6) hx hb hr (fun t ht hW => ⟨⟨i_6, (i_1, i_2, n14, n15, n16, n17), rfl, ⟨(mm_wk q13 (by decide)), w18, w19, w20, q11⟩, by rw [ht]; exact hP, hK.warm hW, hD⟩, hS.F ht⟩) hS.2.2 dX7_takeNumber_56
        · have q21 := mm_neL (lo := 1) (mm_ne c12) h2 mm_k0 (by decide) (by decide)
          refine lv_iload_n hx hb dX7_takeNumber_44 rfl (lv_at hl 1 rfl) ?_
          subst hAe
          rw [hQ]
          exact W.iret (v := 0) hx hb hr (fun t ht hW => ⟨⟨0, (i_1, i_2, i_3, i_4, i_5, i_6), rfl, ⟨(mm_wk q21 (by decide)), (mm_wk q2 (by decide)), h4, h5, (mm_wk mm_k0 (by decide))⟩, by rw [ht]; exact hP, hK.warm hW, hD⟩, hS.F ht⟩) hS.2.2 dX7_takeNumber_45
      · have q22 := mm_ltR (lo := 100) (mm_nle c10) mm_k99 q9 (by decide)
        refine lv_aload_n hx hb dX7_takeNumber_32 rfl (lv_at hl 0 rfl) ?_
        refine lv_iconst (v := 2) hx hb dX7_takeNumber_33 (by decide) ?_
        refine mm_finv (va_runV (As := [.int 2]) (rest := []) ⟨hx, hb, hml, hown, hts⟩ (K102_X7_blame l G cy H.size a_0 a_1 a_3 i_1 i_2 i_3 i_4 i_5 i_6 h2 h4) (cwV 1 hts (mm_gV mm_w311 mm_w312 mm_w313 mm_w19 mm_w314) rfl rfl rfl hd_X7_blame ⟨by rw [hRf]; exact Nat.le_of_ble_eq_true rfl, by rw [hRl]; exact Nat.le_of_ble_eq_true rfl⟩) (mm_preV hK hZ hS hA hP hD [2] rfl rfl 2 rfl rfl rfl) rfl rfl hl.1 rfl (lv_room (Nat.le_of_ble_eq_true rfl)) dX7_takeNumber_34 ⟨by rw [hRc]; exact Nat.le_of_ble_eq_true rfl, by rw [hRs]; exact Nat.le_of_ble_eq_true rfl⟩) hP hD hS hA (fun u : Int32 × Int32 => [(a_1, .inr (9, [.ref a_2, .int i_0])), (a_2, .inl (cy 0, 600, .inl f_0)), (a_0, .inr (7, [.ref a_1, .ref a_3, .int u.1, .int u.2, .int i_3, .int i_4, .int i_5, .int i_6]))]) [2] [0, 1] (n := 3) (fun _ => rfl) (by decide +kernel) (by decide +kernel) rfl (fun _ => rfl) (wr := [(a_1, .inr (9, [.ref a_2, .int i_0])), (a_2, .inl (cy 0, 600, .inl f_0))]) rfl (fun _ => rfl) (fun _ => rfl) ?_
        clear hP hD hS
        clear H locs
        intro u
        obtain ⟨n23, n24⟩ := u
        intro H locs hw (hP : va_P G vwCl [(a_1, .inr (9, [.ref a_2, .int i_0])), (a_2, .inl (cy 0, 600, .inl f_0)), (a_0, .inr (7, [.ref a_1, .ref a_3, .int n23, .int n24, .int i_3, .int i_4, .int i_5, .int i_6]))] H) (hD : va_D A [(a_1, .inr (9, [.ref a_2, .int i_0])), (a_2, .inl (cy 0, 600, .inl f_0)), (a_0, .inr (7, [.ref a_1, .ref a_3, .int n23, .int n24, .int i_3, .int i_4, .int i_5, .int i_6]))]) hS
        have w25 := hw
        refine lv_aload_n hx hb dX7_takeNumber_37 rfl (lv_at hl 0 rfl) ?_
        refine va_get (D := G) (ci := 7) (v := .int n23) (C := RX7) (T := TX7) (N := 8) hx hb hts (mm_i inlX7) hown hK.1 hP 2 rfl rfl 2 (by decide) (mm_h hts mm_w205) (fun _ h9 => h9) rfl dX7_takeNumber_38 ?_
        refine lv_if_eq (tgt := 46) hx hb dX7_takeNumber_41 (by decide) (fun c26 => ?_) (fun c26 => ?_)
        · exact mm_eqN c26.symm mm_k0 w25 (by decide)
        · refine lv_iload_n hx hb dX7_takeNumber_44 rfl (lv_at hl 1 rfl) ?_
          subst hAe
          rw [hQ]
          exact W.iret (v := 0) hx hb hr (fun t ht hW => ⟨⟨0, (n23, n24, i_3, i_4, i_5, i_6), rfl, ⟨(mm_wk w25 (by decide)), (mm_wk q2 (by decide)), h4, h5, (mm_wk mm_k0 (by decide))⟩, by rw [ht]; exact hP, hK.warm hW, hD⟩, hS.F ht⟩) hS.2.2 dX7_takeNumber_45
  · refine lv_aload_n hx hb dX7_takeNumber_8 rfl (lv_at hl 0 rfl) ?_
    refine lv_iconst (v := 1) hx hb dX7_takeNumber_9 (by decide) ?_
    refine mm_finv (va_runV (As := [.int 1]) (rest := []) ⟨hx, hb, hml, hown, hts⟩ (K101_X7_blame l G cy H.size a_0 a_1 a_3 i_1 i_2 i_3 i_4 i_5 i_6 h2 h4) (cwV 1 hts (mm_gV mm_w311 mm_w312 mm_w313 mm_w19 mm_w314) rfl rfl rfl hd_X7_blame ⟨by rw [hRf]; exact Nat.le_of_ble_eq_true rfl, by rw [hRl]; exact Nat.le_of_ble_eq_true rfl⟩) (mm_preV hK hZ hS hA hP hD [2] rfl rfl 2 rfl rfl rfl) rfl rfl hl.1 rfl (lv_room (Nat.le_of_ble_eq_true rfl)) dX7_takeNumber_10 ⟨by rw [hRc]; exact Nat.le_of_ble_eq_true rfl, by rw [hRs]; exact Nat.le_of_ble_eq_true rfl⟩) hP hD hS hA (fun u : Int32 × Int32 => [(a_1, .inr (9, [.ref a_2, .int i_0])), (a_2, .inl (cy 0, 600, .inl f_0)), (a_0, .inr (7, [.ref a_1, .ref a_3, .int u.1, .int u.2, .int i_3, .int i_4, .int i_5, .int i_6]))]) [2] [0, 1] (n := 3) (fun _ => rfl) (by decide +kernel) (by decide +kernel) rfl (fun _ => rfl) (wr := [(a_1, .inr (9, [.ref a_2, .int i_0])), (a_2, .inl (cy 0, 600, .inl f_0))]) rfl (fun _ => rfl) (fun _ => rfl) ?_
    clear hP hD hS
    clear H locs
    intro u
    obtain ⟨n27, n28⟩ := u
    intro H locs hw (hP : va_P G vwCl [(a_1, .inr (9, [.ref a_2, .int i_0])), (a_2, .inl (cy 0, 600, .inl f_0)), (a_0, .inr (7, [.ref a_1, .ref a_3, .int n27, .int n28, .int i_3, .int i_4, .int i_5, .int i_6]))] H) (hD : va_D A [(a_1, .inr (9, [.ref a_2, .int i_0])), (a_2, .inl (cy 0, 600, .inl f_0)), (a_0, .inr (7, [.ref a_1, .ref a_3, .int n27, .int n28, .int i_3, .int i_4, .int i_5, .int i_6]))]) hS
    have w29 := hw
    refine lv_goto (tgt := 37) hx hb dX7_takeNumber_13 (by decide) ?_
    refine lv_aload_n hx hb dX7_takeNumber_37 rfl (lv_at hl 0 rfl) ?_
    refine va_get (D := G) (ci := 7) (v := .int n27) (C := RX7) (T := TX7) (N := 8) hx hb hts (mm_i inlX7) hown hK.1 hP 2 rfl rfl 2 (by decide) (mm_h hts mm_w205) (fun _ h9 => h9) rfl dX7_takeNumber_38 ?_
    refine lv_if_eq (tgt := 46) hx hb dX7_takeNumber_41 (by decide) (fun c30 => ?_) (fun c30 => ?_)
    · exact mm_eqN c30.symm mm_k0 w29 (by decide)
    · refine lv_iload_n hx hb dX7_takeNumber_44 rfl (lv_at hl 1 rfl) ?_
      subst hAe
      rw [hQ]
      exact W.iret (v := 0) hx hb hr (fun t ht hW => ⟨⟨0, (n27, n28, i_3, i_4, i_5, i_6), rfl, ⟨(mm_wk w29 (by decide)), h3, h4, h5, (mm_wk mm_k0 (by decide))⟩, by rw [ht]; exact hP, hK.warm hW, hD⟩, hS.F ht⟩) hS.2.2 dX7_takeNumber_45

set_option maxHeartbeats 4000000 in
set_option maxRecDepth 100000 in
theorem K273_X7_takeSenseLine (l : Launch) (G : va_G) (cy : Nat → ClassId) (sz : Nat) (a_0 : Nat) (a_1 : Nat) (a_2 : Nat) (i_0 : Int32) (f_0 : Nat → Int32) (a_3 : Nat) (i_1 : Int32) (i_2 : Int32) (i_3 : Int32) (i_4 : Int32) (i_5 : Int32) (i_6 : Int32) (i_7 : Int32) (i_8 : Int32) (i_9 : Int32) (i_10 : Int32) (i_11 : Int32) (i_12 : Int32) (i_13 : Int32) (i_14 : Int32) (a_4 : Nat) (a_5 : Nat) (a_6 : Nat) (a_7 : Nat) (a_8 : Nat) (a_9 : Nat) (a_10 : Nat) (a_11 : Nat) (a_12 : Nat) (a_13 : Nat) (f_1 : Nat → Int32) (f_2 : Nat → Int32) (h0 : mm_rg i_0 0 600) (h1 : mm_ar f_0 (-128) 127) (h2 : mm_rg i_1 0 3) (h3 : mm_rg i_3 0 5) (h4 : mm_rg i_4 0 600) (h5 : mm_rg i_5 0 600) (h6 : mm_rg i_11 0 9) (h7 : mm_rg i_12 0 3) (h8 : mm_rg i_13 0 6) (h9 : mm_ar f_1 (-1) 4) (h10 : mm_ar f_2 0 99)  : mm_CV l yX7_takeSenseLine (mm_ws yX7_takeSenseLine cX7_takeSenseLine 3 (none)) ({ frames := 6, cells := 0, slots := 0, locals := 128 } : Room) G cy sz [(a_1, .inr (9, [.ref a_2, .int i_0])), (a_2, .inl (cy 0, 600, .inl f_0)), (a_0, .inr (7, [.ref a_1, .ref a_3, .int i_1, .int i_2, .int i_3, .int i_4, .int i_5, .int i_6])), (a_3, .inr (0, [.int i_7, .int i_8, .int i_9, .int i_10, .int i_11, .int i_12, .int i_13, .int i_14, .ref a_4, .ref a_5, .ref a_6, .ref a_7, .ref a_8, .ref a_9, .ref a_10, .ref a_11, .ref a_12, .ref a_13])), (a_4, .inl (cy 1, 9, .inl f_1)), (a_5, .inl (cy 1, 9, .inl f_2))] [.ref a_0] (fun u : Int32 × Int32 × Int32 × Int32 × Int32 × Int32 × Int32 × (Nat → Int32) × (Nat → Int32) => [(a_1, .inr (9, [.ref a_2, .int i_0])), (a_2, .inl (cy 0, 600, .inl f_0)), (a_0, .inr (7, [.ref a_1, .ref a_3, .int u.1, .int u.2.1, .int u.2.2.1, .int u.2.2.2.1, .int u.2.2.2.2.1, .int u.2.2.2.2.2.1])), (a_3, .inr (0, [.int i_7, .int i_8, .int i_9, .int i_10, .int u.2.2.2.2.2.2.1, .int i_12, .int i_13, .int i_14, .ref a_4, .ref a_5, .ref a_6, .ref a_7, .ref a_8, .ref a_9, .ref a_10, .ref a_11, .ref a_12, .ref a_13])), (a_4, .inl (cy 1, 9, .inl u.2.2.2.2.2.2.2.1)), (a_5, .inl (cy 1, 9, .inl u.2.2.2.2.2.2.2.2))]) (fun u : Int32 × Int32 × Int32 × Int32 × Int32 × Int32 × Int32 × (Nat → Int32) × (Nat → Int32) => mm_rg u.1 0 3 ∧ mm_rg u.2.2.1 0 5 ∧ mm_rg u.2.2.2.1 0 600 ∧ mm_rg u.2.2.2.2.1 0 600 ∧ mm_rg u.2.2.2.2.2.2.1 0 9 ∧ mm_ar u.2.2.2.2.2.2.2.1 (-1) 4 ∧ mm_ar u.2.2.2.2.2.2.2.2 0 99) 0 0 := by
  refine mm_begin (lv := [(0, .ref a_0)]) (by decide) (Nat.le_of_ble_eq_true rfl) rfl ?_
  intro p e s m below meth c A ls R args Q H locs hRe hQ hAe hx hb hr hlocks hml hown hnm hts hsz hA hS hP hK hD hZ hl
  have hRf : R.frames = 6 := by rw [hRe]
  have hRl : R.locals = 128 := by rw [hRe]
  have hRc : R.cells = 0 := by rw [hRe]
  have hRs : R.slots = 0 := by rw [hRe]
  refine lv_aload_n hx hb dX7_takeSenseLine_0 rfl (lv_at hl 0 rfl) ?_
  refine va_get (D := G) (ci := 7) (v := .ref a_3) (C := RX7) (T := TX7) (N := 8) hx hb hts (mm_i inlX7) hown hK.1 hP 2 rfl rfl 1 (by decide) (mm_h hts mm_w65) (fun _ h9 => h9) rfl dX7_takeSenseLine_1 ?_
  refine va_get (D := G) (ci := 0) (v := .int i_12) (C := RX0) (T := TX0) (N := 18) hx hb hts (mm_i inlX0) hown hK.1 hP 3 rfl rfl 5 (by decide) (mm_h hts mm_w248) (fun _ h9 => h9) rfl dX7_takeSenseLine_4 ?_
  refine lv_if_gt (tgt := 20) hx hb dX7_takeSenseLine_7 (by decide) (fun c1 => ?_) (fun c1 => ?_)
  · have q2 := mm_ltR (lo := 1) (mm_lt c1) mm_k0 h7 (by decide)
    refine lv_aload_n hx hb dX7_takeSenseLine_20 rfl (lv_at hl 0 rfl) ?_
    refine lv_iconst (v := 1) hx hb dX7_takeSenseLine_21 (by decide) ?_
    refine mm_finv (va_runV (As := [.int 1]) (rest := []) ⟨hx, hb, hml, hown, hts⟩ (K101_X7_blame l G cy H.size a_0 a_1 a_3 i_1 i_2 i_3 i_4 i_5 i_6 h2 h4) (cwV 1 hts (mm_gV mm_w311 mm_w312 mm_w313 mm_w19 mm_w314) rfl rfl rfl hd_X7_blame ⟨by rw [hRf]; exact Nat.le_of_ble_eq_true rfl, by rw [hRl]; exact Nat.le_of_ble_eq_true rfl⟩) (mm_preV hK hZ hS hA hP hD [2] rfl rfl 2 rfl rfl rfl) rfl rfl hl.1 rfl (lv_room (Nat.le_of_ble_eq_true rfl)) dX7_takeSenseLine_22 ⟨by rw [hRc]; exact Nat.le_of_ble_eq_true rfl, by rw [hRs]; exact Nat.le_of_ble_eq_true rfl⟩) hP hD hS hA (fun u : Int32 × Int32 => [(a_1, .inr (9, [.ref a_2, .int i_0])), (a_2, .inl (cy 0, 600, .inl f_0)), (a_0, .inr (7, [.ref a_1, .ref a_3, .int u.1, .int u.2, .int i_3, .int i_4, .int i_5, .int i_6])), (a_3, .inr (0, [.int i_7, .int i_8, .int i_9, .int i_10, .int i_11, .int i_12, .int i_13, .int i_14, .ref a_4, .ref a_5, .ref a_6, .ref a_7, .ref a_8, .ref a_9, .ref a_10, .ref a_11, .ref a_12, .ref a_13])), (a_4, .inl (cy 1, 9, .inl f_1)), (a_5, .inl (cy 1, 9, .inl f_2))]) [2] [0, 1, 3, 4, 5] (n := 6) (fun _ => rfl) (by decide +kernel) (by decide +kernel) rfl (fun _ => rfl) (wr := [(a_1, .inr (9, [.ref a_2, .int i_0])), (a_2, .inl (cy 0, 600, .inl f_0)), (a_3, .inr (0, [.int i_7, .int i_8, .int i_9, .int i_10, .int i_11, .int i_12, .int i_13, .int i_14, .ref a_4, .ref a_5, .ref a_6, .ref a_7, .ref a_8, .ref a_9, .ref a_10, .ref a_11, .ref a_12, .ref a_13])), (a_4, .inl (cy 1, 9, .inl f_1)), (a_5, .inl (cy 1, 9, .inl f_2))]) rfl (fun _ => rfl) (fun _ => rfl) ?_
    clear hP hD hS
    clear H locs
    intro u
    obtain ⟨n3, n4⟩ := u
    intro H locs hw (hP : va_P G vwCl [(a_1, .inr (9, [.ref a_2, .int i_0])), (a_2, .inl (cy 0, 600, .inl f_0)), (a_0, .inr (7, [.ref a_1, .ref a_3, .int n3, .int n4, .int i_3, .int i_4, .int i_5, .int i_6])), (a_3, .inr (0, [.int i_7, .int i_8, .int i_9, .int i_10, .int i_11, .int i_12, .int i_13, .int i_14, .ref a_4, .ref a_5, .ref a_6, .ref a_7, .ref a_8, .ref a_9, .ref a_10, .ref a_11, .ref a_12, .ref a_13])), (a_4, .inl (cy 1, 9, .inl f_1)), (a_5, .inl (cy 1, 9, .inl f_2))] H) (hD : va_D A [(a_1, .inr (9, [.ref a_2, .int i_0])), (a_2, .inl (cy 0, 600, .inl f_0)), (a_0, .inr (7, [.ref a_1, .ref a_3, .int n3, .int n4, .int i_3, .int i_4, .int i_5, .int i_6])), (a_3, .inr (0, [.int i_7, .int i_8, .int i_9, .int i_10, .int i_11, .int i_12, .int i_13, .int i_14, .ref a_4, .ref a_5, .ref a_6, .ref a_7, .ref a_8, .ref a_9, .ref a_10, .ref a_11, .ref a_12, .ref a_13])), (a_4, .inl (cy 1, 9, .inl f_1)), (a_5, .inl (cy 1, 9, .inl f_2))]) hS
    have w5 := hw
    refine lv_goto (tgt := 145) hx hb dX7_takeSenseLine_25 (by decide) ?_
    subst hAe
    rw [hQ]
    exact W.vret hx hb hr (fun t ht hW => ⟨⟨(n3, n4, i_3, i_4, i_5, i_6, i_11, f_1, f_2), rfl, ⟨(mm_wk w5 (by decide)), h3, h4, h5, h6, h9, h10⟩, by rw [ht]; exact hP, hK.warm hW, hD⟩, hS.F ht⟩) hS.2.2 dX7_takeSenseLine_145
  · have q6 := mm_leL (mm_nlt c1) h7 mm_k0
    refine lv_aload_n hx hb dX7_takeSenseLine_10 rfl (lv_at hl 0 rfl) ?_
    refine va_get (D := G) (ci := 7) (v := .ref a_3) (C := RX7) (T := TX7) (N := 8) hx hb hts (mm_i inlX7) hown hK.1 hP 2 rfl rfl 1 (by decide) (mm_h hts mm_w65) (fun _ h9 => h9) rfl dX7_takeSenseLine_11 ?_
    refine va_get (D := G) (ci := 0) (v := .int i_13) (C := RX0) (T := TX0) (N := 18) hx hb hts (mm_i inlX0) hown hK.1 hP 3 rfl rfl 6 (by decide) (mm_h hts mm_w323) (fun _ h9 => h9) rfl dX7_takeSenseLine_14 ?_
    refine lv_if_le (tgt := 28) hx hb dX7_takeSenseLine_17 (by decide) (fun c7 => ?_) (fun c7 => ?_)
    · have q8 := mm_leL (mm_le c7) h8 mm_k0
      refine lv_aload_n hx hb dX7_takeSenseLine_28 rfl (lv_at hl 0 rfl) ?_
      refine va_get (D := G) (ci := 7) (v := .ref a_3) (C := RX7) (T := TX7) (N := 8) hx hb hts (mm_i inlX7) hown hK.1 hP 2 rfl rfl 1 (by decide) (mm_h hts mm_w65) (fun _ h9 => h9) rfl dX7_takeSenseLine_29 ?_
      refine va_get (D := G) (ci := 0) (v := .int i_11) (C := RX0) (T := TX0) (N := 18) hx hb hts (mm_i inlX0) hown hK.1 hP 3 rfl rfl 4 (by decide) (mm_h hts mm_w324) (fun _ h9 => h9) rfl dX7_takeSenseLine_32 ?_
      refine lv_bipush (v := 9) hx hb dX7_takeSenseLine_35 (by decide) ?_
      refine lv_icmp_lt (tgt := 48) hx hb dX7_takeSenseLine_37 (by decide) (fun c9 => ?_) (fun c9 => ?_)
      · have q10 := mm_ltL (h := 8) (mm_lt c9) h6 mm_k9 (by decide)
        refine lv_aload_n hx hb dX7_takeSenseLine_48 rfl (lv_at hl 0 rfl) ?_
        refine mm_finv (va_runV (As := []) (rest := []) ⟨hx, hb, hml, hown, hts⟩ (K9_X7_nextToken l G cy H.size a_0 a_1 a_2 i_0 f_0 a_3 i_1 i_2 i_3 i_4 i_5 i_6 h0 h1 h3 h4 h5) (cwV 0 hts (mm_gV mm_w227 mm_w228 mm_w229 mm_w19 mm_w230) rfl rfl rfl hd_X7_nextToken ⟨by rw [hRf]; exact Nat.le_of_ble_eq_true rfl, by rw [hRl]; exact Nat.le_of_ble_eq_true rfl⟩) (mm_preV hK hZ hS hA hP hD [0, 1, 2] rfl rfl 2 rfl rfl rfl) rfl rfl hl.1 rfl (lv_room (Nat.le_of_ble_eq_true rfl)) dX7_takeSenseLine_49 ⟨by rw [hRc]; exact Nat.le_of_ble_eq_true rfl, by rw [hRs]; exact Nat.le_of_ble_eq_true rfl⟩) hP hD hS hA (fun u : Int32 × Int32 × Int32 × Int32 => [(a_1, .inr (9, [.ref a_2, .int i_0])), (a_2, .inl (cy 0, 600, .inl f_0)), (a_0, .inr (7, [.ref a_1, .ref a_3, .int i_1, .int i_2, .int u.1, .int u.2.1, .int u.2.2.1, .int u.2.2.2])), (a_3, .inr (0, [.int i_7, .int i_8, .int i_9, .int i_10, .int i_11, .int i_12, .int i_13, .int i_14, .ref a_4, .ref a_5, .ref a_6, .ref a_7, .ref a_8, .ref a_9, .ref a_10, .ref a_11, .ref a_12, .ref a_13])), (a_4, .inl (cy 1, 9, .inl f_1)), (a_5, .inl (cy 1, 9, .inl f_2))]) [0, 1, 2] [3, 4, 5] (n := 6) (fun _ => rfl) (by decide +kernel) (by decide +kernel) rfl (fun _ => rfl) (wr := [(a_3, .inr (0, [.int i_7, .int i_8, .int i_9, .int i_10, .int i_11, .int i_12, .int i_13, .int i_14, .ref a_4, .ref a_5, .ref a_6, .ref a_7, .ref a_8, .ref a_9, .ref a_10, .ref a_11, .ref a_12, .ref a_13])), (a_4, .inl (cy 1, 9, .inl f_1)), (a_5, .inl (cy 1, 9, .inl f_2))]) rfl (fun _ => rfl) (fun _ => rfl) ?_
        clear hP hD hS
        clear H locs
        intro u
        obtain ⟨n11, n12, n13, n14⟩ := u
        intro H locs hw (hP : va_P G vwCl [(a_1, .inr (9, [.ref a_2, .int i_0])), (a_2, .inl (cy 0, 600, .inl f_0)), (a_0, .inr (7, [.ref a_1, .ref a_3, .int i_1, .int i_2, .int n11, .int n12, .int n13, .int n14])), (a_3, .inr (0, [.int i_7, .int i_8, .int i_9, .int i_10, .int i_11, .int i_12, .int i_13, .int i_14, .ref a_4, .ref a_5, .ref a_6, .ref a_7, .ref a_8, .ref a_9, .ref a_10, .ref a_11, .ref a_12, .ref a_13])), (a_4, .inl (cy 1, 9, .inl f_1)), (a_5, .inl (cy 1, 9, .inl f_2))] H) (hD : va_D A [(a_1, .inr (9, [.ref a_2, .int i_0])), (a_2, .inl (cy 0, 600, .inl f_0)), (a_0, .inr (7, [.ref a_1, .ref a_3, .int i_1, .int i_2, .int n11, .int n12, .int n13, .int n14])), (a_3, .inr (0, [.int i_7, .int i_8, .int i_9, .int i_10, .int i_11, .int i_12, .int i_13, .int i_14, .ref a_4, .ref a_5, .ref a_6, .ref a_7, .ref a_8, .ref a_9, .ref a_10, .ref a_11, .ref a_12, .ref a_13])), (a_4, .inl (cy 1, 9, .inl f_1)), (a_5, .inl (cy 1, 9, .inl f_2))]) hS
        obtain ⟨w15, w16, w17⟩ := hw
        refine lv_aload_n hx hb dX7_takeSenseLine_52 rfl (lv_at hl 0 rfl) ?_
        refine mm_finir (va_runV (As := []) (rest := []) ⟨hx, hb, hml, hown, hts⟩ (K271_X7_kindTold l G cy H.size a_0 a_1 a_2 i_0 f_0 a_3 i_1 i_2 n11 n12 n13 n14 h0 h1 w15 w16 w17) (cwV 0 hts (mm_gV mm_w327 mm_w328 mm_w329 mm_w19 mm_w330) rfl rfl rfl hd_X7_kindTold ⟨by rw [hRf]; exact Nat.le_of_ble_eq_true rfl, by rw [hRl]; exact Nat.le_of_ble_eq_true rfl⟩) (mm_preV hK hZ hS hA hP hD [0, 1, 2] rfl rfl 2 rfl rfl rfl) rfl rfl hl.1 rfl (lv_room (Nat.le_of_ble_eq_true rfl)) dX7_takeSenseLine_53 ⟨by rw [hRc]; exact Nat.le_of_ble_eq_true rfl, by rw [hRs]; exact Nat.le_of_ble_eq_true rfl⟩) hP hD hS hA [0, 1, 2] rfl (fun _ => rfl) ?_
        clear hP hD hS
        clear H locs
        intro v18 _u H locs hw hP hD hS
        have w19 := hw
        refine lv_istore_n (lv' := [(1, .int v18), (0, .ref a_0)]) hx hb dX7_takeSenseLine_56 rfl hl (by decide) rfl ?_
        clear hl
        clear ls
        intro ls hl
        refine lv_aload_n hx hb dX7_takeSenseLine_57 rfl (lv_at hl 1 rfl) ?_
        refine lv_iload_n hx hb dX7_takeSenseLine_58 rfl (lv_at hl 0 rfl) ?_
        refine lv_iconst (v := (-1)) hx hb dX7_takeSenseLine_59 (by decide) ?_
        refine lv_icmp_eq (tgt := 67) hx hb dX7_takeSenseLine_60 (by decide) (fun c20 => ?_) (fun c20 => ?_)
        · have q21 := mm_eqI (lo := (-1)) (hi := (-1)) c20 w19 mm_km1 (by decide)
          refine lv_iconst (v := 0) hx hb dX7_takeSenseLine_67 (by decide) ?_
          refine mm_finv (va_runV (As := [.int 0]) (rest := []) ⟨hx, hb, hml, hown, hts⟩ (K169_X7_takeIf l G cy H.size a_0 a_1 a_3 i_1 i_2 n11 n12 n13 n14 h2 w16) (cwV 1 hts (mm_gV mm_w307 mm_w308 mm_w309 mm_w19 mm_w310) rfl rfl rfl hd_X7_takeIf ⟨by rw [hRf]; exact Nat.le_of_ble_eq_true rfl, by rw [hRl]; exact Nat.le_of_ble_eq_true rfl⟩) (mm_preV hK hZ hS hA hP hD [2] rfl rfl 2 rfl rfl rfl) rfl rfl hl.1 rfl (lv_room (Nat.le_of_ble_eq_true rfl)) dX7_takeSenseLine_68 ⟨by rw [hRc]; exact Nat.le_of_ble_eq_true rfl, by rw [hRs]; exact Nat.le_of_ble_eq_true rfl⟩) hP hD hS hA (fun u : Int32 × Int32 => [(a_1, .inr (9, [.ref a_2, .int i_0])), (a_2, .inl (cy 0, 600, .inl f_0)), (a_0, .inr (7, [.ref a_1, .ref a_3, .int u.1, .int u.2, .int n11, .int n12, .int n13, .int n14])), (a_3, .inr (0, [.int i_7, .int i_8, .int i_9, .int i_10, .int i_11, .int i_12, .int i_13, .int i_14, .ref a_4, .ref a_5, .ref a_6, .ref a_7, .ref a_8, .ref a_9, .ref a_10, .ref a_11, .ref a_12, .ref a_13])), (a_4, .inl (cy 1, 9, .inl f_1)), (a_5, .inl (cy 1, 9, .inl f_2))]) [2] [0, 1, 3, 4, 5] (n := 6) (fun _ => rfl) (by decide +kernel) (by decide +kernel) rfl (fun _ => rfl) (wr := [(a_1, .inr (9, [.ref a_2, .int i_0])), (a_2, .inl (cy 0, 600, .inl f_0)), (a_3, .inr (0, [.int i_7, .int i_8, .int i_9, .int i_10, .int i_11, .int i_12, .int i_13, .int i_14, .ref a_4, .ref a_5, .ref a_6, .ref a_7, .ref a_8, .ref a_9, .ref a_10, .ref a_11, .ref a_12, .ref a_13])), (a_4, .inl (cy 1, 9, .inl f_1)), (a_5, .inl (cy 1, 9, .inl f_2))]) rfl (fun _ => rfl) (fun _ => rfl) ?_
          clear hP hD hS
          clear H locs
          intro u
          obtain ⟨n22, n23⟩ := u
          intro H locs hw (hP : va_P G vwCl [(a_1, .inr (9, [.ref a_2, .int i_0])), (a_2, .inl (cy 0, 600, .inl f_0)), (a_0, .inr (7, [.ref a_1, .ref a_3, .int n22, .int n23, .int n11, .int n12, .int n13, .int n14])), (a_3, .inr (0, [.int i_7, .int i_8, .int i_9, .int i_10, .int i_11, .int i_12, .int i_13, .int i_14, .ref a_4, .ref a_5, .ref a_6, .ref a_7, .ref a_8, .ref a_9, .ref a_10, .ref a_11, .ref a_12, .ref a_13])), (a_4, .inl (cy 1, 9, .inl f_1)), (a_5, .inl (cy 1, 9, .inl f_2))] H) (hD : va_D A [(a_1, .inr (9, [.ref a_2, .int i_0])), (a_2, .inl (cy 0, 600, .inl f_0)), (a_0, .inr (7, [.ref a_1, .ref a_3, .int n22, .int n23, .int n11, .int n12, .int n13, .int n14])), (a_3, .inr (0, [.int i_7, .int i_8, .int i_9, .int i_10, .int i_11, .int i_12, .int i_13, .int i_14, .ref a_4, .ref a_5, .ref a_6, .ref a_7, .ref a_8, .ref a_9, .ref a_10, .ref a_11, .ref a_12, .ref a_13])), (a_4, .inl (cy 1, 9, .inl f_1)), (a_5, .inl (cy 1, 9, .inl f_2))]) hS
          have w24 := hw
          refine lv_iload_n hx hb dX7_takeSenseLine_71 rfl (lv_at hl 0 rfl) ?_
          refine lv_if_eq (tgt := 80) hx hb dX7_takeSenseLine_72 (by decide) (fun c25 => ?_) (fun c25 => ?_)
          · exact mm_eqN c25 q21 mm_k0 (by decide)
          · refine lv_iload_n hx hb dX7_takeSenseLine_75 rfl (lv_at hl 0 rfl) ?_
            refine lv_iconst (v := 1) hx hb dX7_takeSenseLine_76 (by decide) ?_
            refine lv_icmp_ne (tgt := 84) hx hb dX7_takeSenseLine_77 (by decide) (fun c26 => ?_) (fun c26 => ?_)
            · refine lv_iconst (v := 0) hx hb dX7_takeSenseLine_84 (by decide) ?_
              refine lv_istore_n (lv' := [(2, .int 0), (1, .int v18), (0, .ref a_0)]) hx hb dX7_takeSenseLine_85 rfl hl (by decide) rfl ?_
              clear hl
              clear ls
              intro ls hl
              refine lv_aload_n hx hb dX7_takeSenseLine_86 rfl (lv_at hl 2 rfl) ?_
              refine va_get (D := G) (ci := 7) (v := .ref a_3) (C := RX7) (T := TX7) (N := 8) hx hb hts (mm_i inlX7) hown hK.1 hP 2 rfl rfl 1 (by decide) (mm_h hts mm_w65) (fun _ h9 => h9) rfl dX7_takeSenseLine_87 ?_
              refine va_get (D := G) (ci := 0) (v := .ref a_4) (C := RX0) (T := TX0) (N := 18) hx hb hts (mm_i inlX0) hown hK.1 hP 3 rfl rfl 8 (by decide) (mm_h hts mm_w325) (fun _ h9 => h9) rfl dX7_takeSenseLine_90 ?_
              refine lv_aload_n hx hb dX7_takeSenseLine_93 rfl (lv_at hl 2 rfl) ?_
              refine va_get (D := G) (ci := 7) (v := .ref a_3) (C := RX7) (T := TX7) (N := 8) hx hb hts (mm_i inlX7) hown hK.1 hP 2 rfl rfl 1 (by decide) (mm_h hts mm_w65) (fun _ h9 => h9) rfl dX7_takeSenseLine_94 ?_
              refine va_get (D := G) (ci := 0) (v := .int i_11) (C := RX0) (T := TX0) (N := 18) hx hb hts (mm_i inlX0) hown hK.1 hP 3 rfl rfl 4 (by decide) (mm_h hts mm_w324) (fun _ h9 => h9) rfl dX7_takeSenseLine_97 ?_
              refine lv_iload_n hx hb dX7_takeSenseLine_100 rfl (lv_at hl 1 rfl) ?_
              refine va_iast hx hb hK.1 hP hD hS 4 1 rfl rfl (mm_in q10 (by decide)) dX7_takeSenseLine_101 ?_
              clear hP hD hS
              clear H locs
              obtain ⟨g27, eg27⟩ : ∃ z : Nat → Int32, z = upd f_1 i_11.toNatClampNeg v18 := ⟨_, rfl⟩
              rw [← eg27]
              intro H locs (hP : va_P G vwCl [(a_1, .inr (9, [.ref a_2, .int i_0])), (a_2, .inl (cy 0, 600, .inl f_0)), (a_0, .inr (7, [.ref a_1, .ref a_3, .int n22, .int n23, .int n11, .int n12, .int n13, .int n14])), (a_3, .inr (0, [.int i_7, .int i_8, .int i_9, .int i_10, .int i_11, .int i_12, .int i_13, .int i_14, .ref a_4, .ref a_5, .ref a_6, .ref a_7, .ref a_8, .ref a_9, .ref a_10, .ref a_11, .ref a_12, .ref a_13])), (a_4, .inl (cy 1, 9, .inl g27)), (a_5, .inl (cy 1, 9, .inl f_2))] H) (hD : va_D A [(a_1, .inr (9, [.ref a_2, .int i_0])), (a_2, .inl (cy 0, 600, .inl f_0)), (a_0, .inr (7, [.ref a_1, .ref a_3, .int n22, .int n23, .int n11, .int n12, .int n13, .int n14])), (a_3, .inr (0, [.int i_7, .int i_8, .int i_9, .int i_10, .int i_11, .int i_12, .int i_13, .int i_14, .ref a_4, .ref a_5, .ref a_6, .ref a_7, .ref a_8, .ref a_9, .ref a_10, .ref a_11, .ref a_12, .ref a_13])), (a_4, .inl (cy 1, 9, .inl g27)), (a_5, .inl (cy 1, 9, .inl f_2))]) hS
              have rg27 : mm_ar g27 (-1) 4 := by rw [eg27]; exact mm_ar_upd (mm_ar_wk h9 (by decide)) (mm_wk q21 (by decide)) _
              refine lv_aload_n hx hb dX7_takeSenseLine_102 rfl (lv_at hl 2 rfl) ?_
              refine va_get (D := G) (ci := 7) (v := .ref a_3) (C := RX7) (T := TX7) (N := 8) hx hb hts (mm_i inlX7) hown hK.1 hP 2 rfl rfl 1 (by decide) (mm_h hts mm_w65) (fun _ h9 => h9) rfl dX7_takeSenseLine_103 ?_
              refine va_get (D := G) (ci := 0) (v := .ref a_5) (C := RX0) (T := TX0) (N := 18) hx hb hts (mm_i inlX0) hown hK.1 hP 3 rfl rfl 9 (by decide) (mm_h hts mm_w326) (fun _ h9 => h9) rfl dX7_takeSenseLine_106 ?_
              refine lv_aload_n hx hb dX7_takeSenseLine_109 rfl (lv_at hl 2 rfl) ?_
              refine va_get (D := G) (ci := 7) (v := .ref a_3) (C := RX7) (T := TX7) (N := 8) hx hb hts (mm_i inlX7) hown hK.1 hP 2 rfl rfl 1 (by decide) (mm_h hts mm_w65) (fun _ h9 => h9) rfl dX7_takeSenseLine_110 ?_
              refine va_get (D := G) (ci := 0) (v := .int i_11) (C := RX0) (T := TX0) (N := 18) hx hb hts (mm_i inlX0) hown hK.1 hP 3 rfl rfl 4 (by decide) (mm_h hts mm_w324) (fun _ h9 => h9) rfl dX7_takeSenseLine_113 ?_
              refine lv_iload_n hx hb dX7_takeSenseLine_116 rfl (lv_at hl 0 rfl) ?_
              refine lv_if_eq (tgt := 130) hx hb dX7_takeSenseLine_117 (by decide) (fun c28 => ?_) (fun c28 => ?_)
              · refine lv_iconst (v := 0) hx hb dX7_takeSenseLine_130 (by decide) ?_
                refine va_iast hx hb hK.1 hP hD hS 5 1 rfl rfl (mm_in q10 (by decide)) dX7_takeSenseLine_131 ?_
                clear hP hD hS
                clear H locs
                obtain ⟨g29, eg29⟩ : ∃ z : Nat → Int32, z = upd f_2 i_11.toNatClampNeg 0 := ⟨_, rfl⟩
                rw [← eg29]
                intro H locs (hP : va_P G vwCl [(a_1, .inr (9, [.ref a_2, .int i_0])), (a_2, .inl (cy 0, 600, .inl f_0)), (a_0, .inr (7, [.ref a_1, .ref a_3, .int n22, .int n23, .int n11, .int n12, .int n13, .int n14])), (a_3, .inr (0, [.int i_7, .int i_8, .int i_9, .int i_10, .int i_11, .int i_12, .int i_13, .int i_14, .ref a_4, .ref a_5, .ref a_6, .ref a_7, .ref a_8, .ref a_9, .ref a_10, .ref a_11, .ref a_12, .ref a_13])), (a_4, .inl (cy 1, 9, .inl g27)), (a_5, .inl (cy 1, 9, .inl g29))] H) (hD : va_D A [(a_1, .inr (9, [.ref a_2, .int i_0])), (a_2, .inl (cy 0, 600, .inl f_0)), (a_0, .inr (7, [.ref a_1, .ref a_3, .int n22, .int n23, .int n11, .int n12, .int n13, .int n14])), (a_3, .inr (0, [.int i_7, .int i_8, .int i_9, .int i_10, .int i_11, .int i_12, .int i_13, .int i_14, .ref a_4, .ref a_5, .ref a_6, .ref a_7, .ref a_8, .ref a_9, .ref a_10, .ref a_11, .ref a_12, .ref a_13])), (a_4, .inl (cy 1, 9, .inl g27)), (a_5, .inl (cy 1, 9, .inl g29))]) hS
                have rg29 : mm_ar g29 0 99 := by rw [eg29]; exact mm_ar_upd (mm_ar_wk h10 (by decide)) (mm_wk mm_k0 (by decide)) _
                refine lv_aload_n hx hb dX7_takeSenseLine_132 rfl (lv_at hl 2 rfl) ?_
                refine va_get (D := G) (ci := 7) (v := .ref a_3) (C := RX7) (T := TX7) (N := 8) hx hb hts (mm_i inlX7) hown hK.1 hP 2 rfl rfl 1 (by decide) (mm_h hts mm_w65) (fun _ h9 => h9) rfl dX7_takeSenseLine_133 ?_
                refine lv_dup hx hb dX7_takeSenseLine_136 rfl ?_
                refine va_get (D := G) (ci := 0) (v := .int i_11) (C := RX0) (T := TX0) (N := 18) hx hb hts (mm_i inlX0) hown hK.1 hP 3 rfl rfl 4 (by decide) (mm_h hts mm_w324) (fun _ h9 => h9) rfl dX7_takeSenseLine_137 ?_
                refine lv_iconst (v := 1) hx hb dX7_takeSenseLine_140 (by decide) ?_
                refine lv_iadd hx hb dX7_takeSenseLine_141 ?_
                refine lv_topi (fun v30 ev30 => ?_)
                have rv30 : mm_rg v30 1 9 := mm_add ev30 q10 mm_k1 (by decide) (by decide)
                have tv30 := mm_addEc ev30 q10 mm_k1 (by decide) (k := 1) (by decide)
                refine va_put (D := G) (ci := 0) (v := .int v30) (ty := tyX0 4) (C := RX0) (T := TX0) (N := 18) hx hb hts (mm_i inlX0) tyX0 tyX0_ok nmX0 hown hK.1 hP hD hS 3 rfl rfl 4 (by decide) (mm_h hts mm_w324) (fun _ h9 => h9) rfl (tyX0_ok 4 (by decide)) rfl rfl (Nat.le_of_ble_eq_true rfl) dX7_takeSenseLine_142 ?_
                clear hP hD hS
                clear H locs
                intro H locs (hP : va_P G vwCl [(a_1, .inr (9, [.ref a_2, .int i_0])), (a_2, .inl (cy 0, 600, .inl f_0)), (a_0, .inr (7, [.ref a_1, .ref a_3, .int n22, .int n23, .int n11, .int n12, .int n13, .int n14])), (a_3, .inr (0, [.int i_7, .int i_8, .int i_9, .int i_10, .int v30, .int i_12, .int i_13, .int i_14, .ref a_4, .ref a_5, .ref a_6, .ref a_7, .ref a_8, .ref a_9, .ref a_10, .ref a_11, .ref a_12, .ref a_13])), (a_4, .inl (cy 1, 9, .inl g27)), (a_5, .inl (cy 1, 9, .inl g29))] H) (hD : va_D A [(a_1, .inr (9, [.ref a_2, .int i_0])), (a_2, .inl (cy 0, 600, .inl f_0)), (a_0, .inr (7, [.ref a_1, .ref a_3, .int n22, .int n23, .int n11, .int n12, .int n13, .int n14])), (a_3, .inr (0, [.int i_7, .int i_8, .int i_9, .int i_10, .int v30, .int i_12, .int i_13, .int i_14, .ref a_4, .ref a_5, .ref a_6, .ref a_7, .ref a_8, .ref a_9, .ref a_10, .ref a_11, .ref a_12, .ref a_13])), (a_4, .inl (cy 1, 9, .inl g27)), (a_5, .inl (cy 1, 9, .inl g29))]) hS
                subst hAe
                rw [hQ]
                exact W.vret hx hb hr (fun t ht hW => ⟨⟨(n22, n23, n11, n12, n13, n14, v30, g27, g29), rfl, ⟨(mm_wk w24 (by decide)), w15, w16, w17, (mm_wk rv30 (by decide)), rg27, rg29⟩, by rw [ht]; exact hP, hK.warm hW, hD⟩, hS.F ht⟩) hS.2.2 dX7_takeSenseLine_145
              · have q31 := mm_neL (lo := 1) (mm_ne c28) mm_k0 mm_k0 (by decide) (by decide)
                exact mm_no q31 (by decide)
            · exact mm_eqN c26 q21 mm_k1 (by decide)
        · have q32 := mm_neL (lo := 0) (mm_ne c20) w19 mm_km1 (by decide) (by decide)
          refine lv_iconst (v := 1) hx hb dX7_takeSenseLine_63 (by decide) ?_
          refine lv_goto (tgt := 68) hx hb dX7_takeSenseLine_64 (by decide) ?_
          refine mm_finv (va_runV (As := [.int 1]) (rest := []) ⟨hx, hb, hml, hown, hts⟩ (K170_X7_takeIf l G cy H.size a_0 a_1 a_2 i_0 f_0 a_3 i_1 i_2 n11 n12 n13 n14 h0 h1 h2 w15 w16 w17) (cwV 1 hts (mm_gV mm_w307 mm_w308 mm_w309 mm_w19 mm_w310) rfl rfl rfl hd_X7_takeIf ⟨by rw [hRf]; exact Nat.le_of_ble_eq_true rfl, by rw [hRl]; exact Nat.le_of_ble_eq_true rfl⟩) (mm_preV hK hZ hS hA hP hD [0, 1, 2] rfl rfl 2 rfl rfl rfl) rfl rfl hl.1 rfl (lv_room (Nat.le_of_ble_eq_true rfl)) dX7_takeSenseLine_68 ⟨by rw [hRc]; exact Nat.le_of_ble_eq_true rfl, by rw [hRs]; exact Nat.le_of_ble_eq_true rfl⟩) hP hD hS hA (fun u : Int32 × Int32 × Int32 × Int32 => [(a_1, .inr (9, [.ref a_2, .int i_0])), (a_2, .inl (cy 0, 600, .inl f_0)), (a_0, .inr (7, [.ref a_1, .ref a_3, .int i_1, .int i_2, .int u.1, .int u.2.1, .int u.2.2.1, .int u.2.2.2])), (a_3, .inr (0, [.int i_7, .int i_8, .int i_9, .int i_10, .int i_11, .int i_12, .int i_13, .int i_14, .ref a_4, .ref a_5, .ref a_6, .ref a_7, .ref a_8, .ref a_9, .ref a_10, .ref a_11, .ref a_12, .ref a_13])), (a_4, .inl (cy 1, 9, .inl f_1)), (a_5, .inl (cy 1, 9, .inl f_2))]) [0, 1, 2] [3, 4, 5] (n := 6) (fun _ => rfl) (by decide +kernel) (by decide +kernel) rfl (fun _ => rfl) (wr := [(a_3, .inr (0, [.int i_7, .int i_8, .int i_9, .int i_10, .int i_11, .int i_12, .int i_13, .int i_14, .ref a_4, .ref a_5, .ref a_6, .ref a_7, .ref a_8, .ref a_9, .ref a_10, .ref a_11, .ref a_12, .ref a_13])), (a_4, .inl (cy 1, 9, .inl f_1)), (a_5, .inl (cy 1, 9, .inl f_2))]) rfl (fun _ => rfl) (fun _ => rfl) ?_
          clear hP hD hS
          clear H locs
          intro u
          obtain ⟨n33, n34, n35, n36⟩ := u
          intro H locs hw (hP : va_P G vwCl [(a_1, .inr (9, [.ref a_2, .int i_0])), (a_2, .inl (cy 0, 600, .inl f_0)), (a_0, .inr (7, [.ref a_1, .ref a_3, .int i_1, .int i_2, .int n33, .int n34, .int n35, .int n36])), (a_3, .inr (0, [.int i_7, .int i_8, .int i_9, .int i_10, .int i_11, .int i_12, .int i_13, .int i_14, .ref a_4, .ref a_5, .ref a_6, .ref a_7, .ref a_8, .ref a_9, .ref a_10, .ref a_11, .ref a_12, .ref a_13])), (a_4, .inl (cy 1, 9, .inl f_1)), (a_5, .inl (cy 1, 9, .inl f_2))] H) (hD : va_D A [(a_1, .inr (9, [.ref a_2, .int i_0])), (a_2, .inl (cy 0, 600, .inl f_0)), (a_0, .inr (7, [.ref a_1, .ref a_3, .int i_1, .int i_2, .int n33, .int n34, .int n35, .int n36])), (a_3, .inr (0, [.int i_7, .int i_8, .int i_9, .int i_10, .int i_11, .int i_12, .int i_13, .int i_14, .ref a_4, .ref a_5, .ref a_6, .ref a_7, .ref a_8, .ref a_9, .ref a_10, .ref a_11, .ref a_12, .ref a_13])), (a_4, .inl (cy 1, 9, .inl f_1)), (a_5, .inl (cy 1, 9, .inl f_2))]) hS
          obtain ⟨w37, w38, w39⟩ := hw
          refine lv_iload_n hx hb dX7_takeSenseLine_71 rfl (lv_at hl 0 rfl) ?_
          refine lv_if_eq (tgt := 80) hx hb dX7_takeSenseLine_72 (by decide) (fun c40 => ?_) (fun c40 => ?_)
          · have q41 := mm_eqI (lo := 0) (hi := 0) c40 q32 mm_k0 (by decide)
            refine lv_iconst (v := 1) hx hb dX7_takeSenseLine_80 (by decide) ?_
            refine lv_goto (tgt := 85) hx hb dX7_takeSenseLine_81 (by decide) ?_
            refine lv_istore_n (lv' := [(2, .int 1), (1, .int v18), (0, .ref a_0)]) hx hb dX7_takeSenseLine_85 rfl hl (by decide) rfl ?_
            clear hl
            clear ls
            intro ls hl
            refine lv_aload_n hx hb dX7_takeSenseLine_86 rfl (lv_at hl 2 rfl) ?_
            refine va_get (D := G) (ci := 7) (v := .ref a_3) (C := RX7) (T := TX7) (N := 8) hx hb hts (mm_i inlX7) hown hK.1 hP 2 rfl rfl 1 (by decide) (mm_h hts mm_w65) (fun _ h9 => h9) rfl dX7_takeSenseLine_87 ?_
            refine va_get (D := G) (ci := 0) (v := .ref a_4) (C := RX0) (T := TX0) (N := 18) hx hb hts (mm_i inlX0) hown hK.1 hP 3 rfl rfl 8 (by decide) (mm_h hts mm_w325) (fun _ h9 => h9) rfl dX7_takeSenseLine_90 ?_
            refine lv_aload_n hx hb dX7_takeSenseLine_93 rfl (lv_at hl 2 rfl) ?_
            refine va_get (D := G) (ci := 7) (v := .ref a_3) (C := RX7) (T := TX7) (N := 8) hx hb hts (mm_i inlX7) hown hK.1 hP 2 rfl rfl 1 (by decide) (mm_h hts mm_w65) (fun _ h9 => h9) rfl dX7_takeSenseLine_94 ?_
            refine va_get (D := G) (ci := 0) (v := .int i_11) (C := RX0) (T := TX0) (N := 18) hx hb hts (mm_i inlX0) hown hK.1 hP 3 rfl rfl 4 (by decide) (mm_h hts mm_w324) (fun _ h9 => h9) rfl dX7_takeSenseLine_97 ?_
            refine lv_iload_n hx hb dX7_takeSenseLine_100 rfl (lv_at hl 1 rfl) ?_
            refine va_iast hx hb hK.1 hP hD hS 4 1 rfl rfl (mm_in q10 (by decide)) dX7_takeSenseLine_101 ?_
            clear hP hD hS
            clear H locs
            obtain ⟨g42, eg42⟩ : ∃ z : Nat → Int32, z = upd f_1 i_11.toNatClampNeg v18 := ⟨_, rfl⟩
            rw [← eg42]
            intro H locs (hP : va_P G vwCl [(a_1, .inr (9, [.ref a_2, .int i_0])), (a_2, .inl (cy 0, 600, .inl f_0)), (a_0, .inr (7, [.ref a_1, .ref a_3, .int i_1, .int i_2, .int n33, .int n34, .int n35, .int n36])), (a_3, .inr (0, [.int i_7, .int i_8, .int i_9, .int i_10, .int i_11, .int i_12, .int i_13, .int i_14, .ref a_4, .ref a_5, .ref a_6, .ref a_7, .ref a_8, .ref a_9, .ref a_10, .ref a_11, .ref a_12, .ref a_13])), (a_4, .inl (cy 1, 9, .inl g42)), (a_5, .inl (cy 1, 9, .inl f_2))] H) (hD : va_D A [(a_1, .inr (9, [.ref a_2, .int i_0])), (a_2, .inl (cy 0, 600, .inl f_0)), (a_0, .inr (7, [.ref a_1, .ref a_3, .int i_1, .int i_2, .int n33, .int n34, .int n35, .int n36])), (a_3, .inr (0, [.int i_7, .int i_8, .int i_9, .int i_10, .int i_11, .int i_12, .int i_13, .int i_14, .ref a_4, .ref a_5, .ref a_6, .ref a_7, .ref a_8, .ref a_9, .ref a_10, .ref a_11, .ref a_12, .ref a_13])), (a_4, .inl (cy 1, 9, .inl g42)), (a_5, .inl (cy 1, 9, .inl f_2))]) hS
            have rg42 : mm_ar g42 (-1) 4 := by rw [eg42]; exact mm_ar_upd (mm_ar_wk h9 (by decide)) (mm_wk q41 (by decide)) _
            refine lv_aload_n hx hb dX7_takeSenseLine_102 rfl (lv_at hl 2 rfl) ?_
            refine va_get (D := G) (ci := 7) (v := .ref a_3) (C := RX7) (T := TX7) (N := 8) hx hb hts (mm_i inlX7) hown hK.1 hP 2 rfl rfl 1 (by decide) (mm_h hts mm_w65) (fun _ h9 => h9) rfl dX7_takeSenseLine_103 ?_
            refine va_get (D := G) (ci := 0) (v := .ref a_5) (C := RX0) (T := TX0) (N := 18) hx hb hts (mm_i inlX0) hown hK.1 hP 3 rfl rfl 9 (by decide) (mm_h hts mm_w326) (fun _ h9 => h9) rfl dX7_takeSenseLine_106 ?_
            refine lv_aload_n hx hb dX7_takeSenseLine_109 rfl (lv_at hl 2 rfl) ?_
            refine va_get (D := G) (ci := 7) (v := .ref a_3) (C := RX7) (T := TX7) (N := 8) hx hb hts (mm_i inlX7) hown hK.1 hP 2 rfl rfl 1 (by decide) (mm_h hts mm_w65) (fun _ h9 => h9) rfl dX7_takeSenseLine_110 ?_
            refine va_get (D := G) (ci := 0) (v := .int i_11) (C := RX0) (T := TX0) (N := 18) hx hb hts (mm_i inlX0) hown hK.1 hP 3 rfl rfl 4 (by decide) (mm_h hts mm_w324) (fun _ h9 => h9) rfl dX7_takeSenseLine_113 ?_
            refine lv_iload_n hx hb dX7_takeSenseLine_116 rfl (lv_at hl 0 rfl) ?_
            refine lv_if_eq (tgt := 130) hx hb dX7_takeSenseLine_117 (by decide) (fun c43 => ?_) (fun c43 => ?_)
            · exact mm_eqN c43.symm mm_k0 mm_k1 (by decide)
            · refine lv_aload_n hx hb dX7_takeSenseLine_120 rfl (lv_at hl 2 rfl) ?_
              refine lv_iconst (v := 0) hx hb dX7_takeSenseLine_121 (by decide) ?_
              refine lv_bipush (v := 99) hx hb dX7_takeSenseLine_122 (by decide) ?_
              refine mm_fini (va_runV (As := [.int 0, .int 99]) (rest := [.int i_11, .ref a_5]) ⟨hx, hb, hml, hown, hts⟩ (K272_X7_takeNumber l G cy H.size a_0 a_1 a_2 i_0 f_0 a_3 i_1 i_2 n33 n34 n35 n36 h0 h1 h2 w37 w38 w39) (cwV 2 hts (mm_gV mm_w315 mm_w316 mm_w317 mm_w19 mm_w318) rfl rfl rfl hd_X7_takeNumber ⟨by rw [hRf]; exact Nat.le_of_ble_eq_true rfl, by rw [hRl]; exact Nat.le_of_ble_eq_true rfl⟩) (mm_preV hK hZ hS hA hP hD [0, 1, 2] rfl rfl 2 rfl rfl rfl) rfl rfl hl.1 rfl (lv_room (Nat.le_of_ble_eq_true rfl)) dX7_takeSenseLine_124 ⟨by rw [hRc]; exact Nat.le_of_ble_eq_true rfl, by rw [hRs]; exact Nat.le_of_ble_eq_true rfl⟩) hP hD hS hA (fun u : Int32 × Int32 × Int32 × Int32 × Int32 × Int32 => [(a_1, .inr (9, [.ref a_2, .int i_0])), (a_2, .inl (cy 0, 600, .inl f_0)), (a_0, .inr (7, [.ref a_1, .ref a_3, .int u.1, .int u.2.1, .int u.2.2.1, .int u.2.2.2.1, .int u.2.2.2.2.1, .int u.2.2.2.2.2])), (a_3, .inr (0, [.int i_7, .int i_8, .int i_9, .int i_10, .int i_11, .int i_12, .int i_13, .int i_14, .ref a_4, .ref a_5, .ref a_6, .ref a_7, .ref a_8, .ref a_9, .ref a_10, .ref a_11, .ref a_12, .ref a_13])), (a_4, .inl (cy 1, 9, .inl g42)), (a_5, .inl (cy 1, 9, .inl f_2))]) [0, 1, 2] [3, 4, 5] (n := 6) (fun _ => rfl) (by decide +kernel) (by decide +kernel) rfl (fun _ => rfl) (wr := [(a_3, .inr (0, [.int i_7, .int i_8, .int i_9, .int i_10, .int i_11, .int i_12, .int i_13, .int i_14, .ref a_4, .ref a_5, .ref a_6, .ref a_7, .ref a_8, .ref a_9, .ref a_10, .ref a_11, .ref a_12, .ref a_13])), (a_4, .inl (cy 1, 9, .inl g42)), (a_5, .inl (cy 1, 9, .inl f_2))]) rfl (fun _ => rfl) (fun _ => rfl) ?_
              clear hP hD hS
              clear H locs
              intro v50 u
              obtain ⟨n44, n45, n46, n47, n48, n49⟩ := u
              intro H locs hw (hP : va_P G vwCl [(a_1, .inr (9, [.ref a_2, .int i_0])), (a_2, .inl (cy 0, 600, .inl f_0)), (a_0, .inr (7, [.ref a_1, .ref a_3, .int n44, .int n45, .int n46, .int n47, .int n48, .int n49])), (a_3, .inr (0, [.int i_7, .int i_8, .int i_9, .int i_10, .int i_11, .int i_12, .int i_13, .int i_14, .ref a_4, .ref a_5, .ref a_6, .ref a_7, .ref a_8, .ref a_9, .ref a_10, .ref a_11, .ref a_12, .ref a_13])), (a_4, .inl (cy 1, 9, .inl g42)), (a_5, .inl (cy 1, 9, .inl f_2))] H) (hD : va_D A [(a_1, .inr (9, [.ref a_2, .int i_0])), (a_2, .inl (cy 0, 600, .inl f_0)), (a_0, .inr (7, [.ref a_1, .ref a_3, .int n44, .int n45, .int n46, .int n47, .int n48, .int n49])), (a_3, .inr (0, [.int i_7, .int i_8, .int i_9, .int i_10, .int i_11, .int i_12, .int i_13, .int i_14, .ref a_4, .ref a_5, .ref a_6, .ref a_7, .ref a_8, .ref a_9, .ref a_10, .ref a_11, .ref a_12, .ref a_13])), (a_4, .inl (cy 1, 9, .inl g42)), (a_5, .inl (cy 1, 9, .inl f_2))]) hS
              obtain ⟨w51, w52, w53, w54, hw⟩ := hw
              have w55 := hw
              refine lv_goto (tgt := 131) hx hb dX7_takeSenseLine_127 (by decide) ?_
              refine va_iast hx hb hK.1 hP hD hS 5 1 rfl rfl (mm_in q10 (by decide)) dX7_takeSenseLine_131 ?_
              clear hP hD hS
              clear H locs
              obtain ⟨g56, eg56⟩ : ∃ z : Nat → Int32, z = upd f_2 i_11.toNatClampNeg v50 := ⟨_, rfl⟩
              rw [← eg56]
              intro H locs (hP : va_P G vwCl [(a_1, .inr (9, [.ref a_2, .int i_0])), (a_2, .inl (cy 0, 600, .inl f_0)), (a_0, .inr (7, [.ref a_1, .ref a_3, .int n44, .int n45, .int n46, .int n47, .int n48, .int n49])), (a_3, .inr (0, [.int i_7, .int i_8, .int i_9, .int i_10, .int i_11, .int i_12, .int i_13, .int i_14, .ref a_4, .ref a_5, .ref a_6, .ref a_7, .ref a_8, .ref a_9, .ref a_10, .ref a_11, .ref a_12, .ref a_13])), (a_4, .inl (cy 1, 9, .inl g42)), (a_5, .inl (cy 1, 9, .inl g56))] H) (hD : va_D A [(a_1, .inr (9, [.ref a_2, .int i_0])), (a_2, .inl (cy 0, 600, .inl f_0)), (a_0, .inr (7, [.ref a_1, .ref a_3, .int n44, .int n45, .int n46, .int n47, .int n48, .int n49])), (a_3, .inr (0, [.int i_7, .int i_8, .int i_9, .int i_10, .int i_11, .int i_12, .int i_13, .int i_14, .ref a_4, .ref a_5, .ref a_6, .ref a_7, .ref a_8, .ref a_9, .ref a_10, .ref a_11, .ref a_12, .ref a_13])), (a_4, .inl (cy 1, 9, .inl g42)), (a_5, .inl (cy 1, 9, .inl g56))]) hS
              have rg56 : mm_ar g56 0 99 := by rw [eg56]; exact mm_ar_upd (mm_ar_wk h10 (by decide)) (mm_wk w55 (by decide)) _
              refine lv_aload_n hx hb dX7_takeSenseLine_132 rfl (lv_at hl 2 rfl) ?_
              refine va_get (D := G) (ci := 7) (v := .ref a_3) (C := RX7) (T := TX7) (N := 8) hx hb hts (mm_i inlX7) hown hK.1 hP 2 rfl rfl 1 (by decide) (mm_h hts mm_w65) (fun _ h9 => h9) rfl dX7_takeSenseLine_133 ?_
              refine lv_dup hx hb dX7_takeSenseLine_136 rfl ?_
              refine va_get (D := G) (ci := 0) (v := .int i_11) (C := RX0) (T := TX0) (N := 18) hx hb hts (mm_i inlX0) hown hK.1 hP 3 rfl rfl 4 (by decide) (mm_h hts mm_w324) (fun _ h9 => h9) rfl dX7_takeSenseLine_137 ?_
              refine lv_iconst (v := 1) hx hb dX7_takeSenseLine_140 (by decide) ?_
              refine lv_iadd hx hb dX7_takeSenseLine_141 ?_
              refine lv_topi (fun v57 ev57 => ?_)
              have rv57 : mm_rg v57 1 9 := mm_add ev57 q10 mm_k1 (by decide) (by decide)
              have tv57 := mm_addEc ev57 q10 mm_k1 (by decide) (k := 1) (by decide)
              refine va_put (D := G) (ci := 0) (v := .int v57) (ty := tyX0 4) (C := RX0) (T := TX0) (N := 18) hx hb hts (mm_i inlX0) tyX0 tyX0_ok nmX0 hown hK.1 hP hD hS 3 rfl rfl 4 (by decide) (mm_h hts mm_w324) (fun _ h9 => h9) rfl (tyX0_ok 4 (by decide)) rfl rfl (Nat.le_of_ble_eq_true rfl) dX7_takeSenseLine_142 ?_
              clear hP hD hS
              clear H locs
              intro H locs (hP : va_P G vwCl [(a_1, .inr (9, [.ref a_2, .int i_0])), (a_2, .inl (cy 0, 600, .inl f_0)), (a_0, .inr (7, [.ref a_1, .ref a_3, .int n44, .int n45, .int n46, .int n47, .int n48, .int n49])), (a_3, .inr (0, [.int i_7, .int i_8, .int i_9, .int i_10, .int v57, .int i_12, .int i_13, .int i_14, .ref a_4, .ref a_5, .ref a_6, .ref a_7, .ref a_8, .ref a_9, .ref a_10, .ref a_11, .ref a_12, .ref a_13])), (a_4, .inl (cy 1, 9, .inl g42)), (a_5, .inl (cy 1, 9, .inl g56))] H) (hD : va_D A [(a_1, .inr (9, [.ref a_2, .int i_0])), (a_2, .inl (cy 0, 600, .inl f_0)), (a_0, .inr (7, [.ref a_1, .ref a_3, .int n44, .int n45, .int n46, .int n47, .int n48, .int n49])), (a_3, .inr (0, [.int i_7, .int i_8, .int i_9, .int i_10, .int v57, .int i_12, .int i_13, .int i_14, .ref a_4, .ref a_5, .ref a_6, .ref a_7, .ref a_8, .ref a_9, .ref a_10, .ref a_11, .ref a_12, .ref a_13])), (a_4, .inl (cy 1, 9, .inl g42)), (a_5, .inl (cy 1, 9, .inl g56))]) hS
              subst hAe
              rw [hQ]
              exact W.vret hx hb hr (fun t ht hW => ⟨⟨(n44, n45, n46, n47, n48, n49, v57, g42, g56), rfl, ⟨w51, w52, w53, w54, (mm_wk rv57 (by decide)), rg42, rg56⟩, by rw [ht]; exact hP, hK.warm hW, hD⟩, hS.F ht⟩) hS.2.2 dX7_takeSenseLine_145
          · have q58 := mm_neL (lo := 1) (mm_ne c40) q32 mm_k0 (by decide) (by decide)
            refine lv_iload_n hx hb dX7_takeSenseLine_75 rfl (lv_at hl 0 rfl) ?_
            refine lv_iconst (v := 1) hx hb dX7_takeSenseLine_76 (by decide) ?_
            refine lv_icmp_ne (tgt := 84) hx hb dX7_takeSenseLine_77 (by decide) (fun c59 => ?_) (fun c59 => ?_)
            · have q60 := mm_neL (lo := 2) (mm_ne c59) q58 mm_k1 (by decide) (by decide)
              refine lv_iconst (v := 0) hx hb dX7_takeSenseLine_84 (by decide) ?_
              refine lv_istore_n (lv' := [(2, .int 0), (1, .int v18), (0, .ref a_0)]) hx hb dX7_takeSenseLine_85 rfl hl (by decide) rfl ?_
              clear hl
              clear ls
              intro ls hl
              refine lv_aload_n hx hb dX7_takeSenseLine_86 rfl (lv_at hl 2 rfl) ?_
              refine va_get (D := G) (ci := 7) (v := .ref a_3) (C := RX7) (T := TX7) (N := 8) hx hb hts (mm_i inlX7) hown hK.1 hP 2 rfl rfl 1 (by decide) (mm_h hts mm_w65) (fun _ h9 => h9) rfl dX7_takeSenseLine_87 ?_
              refine va_get (D := G) (ci := 0) (v := .ref a_4) (C := RX0) (T := TX0) (N := 18) hx hb hts (mm_i inlX0) hown hK.1 hP 3 rfl rfl 8 (by decide) (mm_h hts mm_w325) (fun _ h9 => h9) rfl dX7_takeSenseLine_90 ?_
              refine lv_aload_n hx hb dX7_takeSenseLine_93 rfl (lv_at hl 2 rfl) ?_
              refine va_get (D := G) (ci := 7) (v := .ref a_3) (C := RX7) (T := TX7) (N := 8) hx hb hts (mm_i inlX7) hown hK.1 hP 2 rfl rfl 1 (by decide) (mm_h hts mm_w65) (fun _ h9 => h9) rfl dX7_takeSenseLine_94 ?_
              refine va_get (D := G) (ci := 0) (v := .int i_11) (C := RX0) (T := TX0) (N := 18) hx hb hts (mm_i inlX0) hown hK.1 hP 3 rfl rfl 4 (by decide) (mm_h hts mm_w324) (fun _ h9 => h9) rfl dX7_takeSenseLine_97 ?_
              refine lv_iload_n hx hb dX7_takeSenseLine_100 rfl (lv_at hl 1 rfl) ?_
              refine va_iast hx hb hK.1 hP hD hS 4 1 rfl rfl (mm_in q10 (by decide)) dX7_takeSenseLine_101 ?_
              clear hP hD hS
              clear H locs
              obtain ⟨g61, eg61⟩ : ∃ z : Nat → Int32, z = upd f_1 i_11.toNatClampNeg v18 := ⟨_, rfl⟩
              rw [← eg61]
              intro H locs (hP : va_P G vwCl [(a_1, .inr (9, [.ref a_2, .int i_0])), (a_2, .inl (cy 0, 600, .inl f_0)), (a_0, .inr (7, [.ref a_1, .ref a_3, .int i_1, .int i_2, .int n33, .int n34, .int n35, .int n36])), (a_3, .inr (0, [.int i_7, .int i_8, .int i_9, .int i_10, .int i_11, .int i_12, .int i_13, .int i_14, .ref a_4, .ref a_5, .ref a_6, .ref a_7, .ref a_8, .ref a_9, .ref a_10, .ref a_11, .ref a_12, .ref a_13])), (a_4, .inl (cy 1, 9, .inl g61)), (a_5, .inl (cy 1, 9, .inl f_2))] H) (hD : va_D A [(a_1, .inr (9, [.ref a_2, .int i_0])), (a_2, .inl (cy 0, 600, .inl f_0)), (a_0, .inr (7, [.ref a_1, .ref a_3, .int i_1, .int i_2, .int n33, .int n34, .int n35, .int n36])), (a_3, .inr (0, [.int i_7, .int i_8, .int i_9, .int i_10, .int i_11, .int i_12, .int i_13, .int i_14, .ref a_4, .ref a_5, .ref a_6, .ref a_7, .ref a_8, .ref a_9, .ref a_10, .ref a_11, .ref a_12, .ref a_13])), (a_4, .inl (cy 1, 9, .inl g61)), (a_5, .inl (cy 1, 9, .inl f_2))]) hS
              have rg61 : mm_ar g61 (-1) 4 := by rw [eg61]; exact mm_ar_upd (mm_ar_wk h9 (by decide)) (mm_wk q60 (by decide)) _
              refine lv_aload_n hx hb dX7_takeSenseLine_102 rfl (lv_at hl 2 rfl) ?_
              refine va_get (D := G) (ci := 7) (v := .ref a_3) (C := RX7) (T := TX7) (N := 8) hx hb hts (mm_i inlX7) hown hK.1 hP 2 rfl rfl 1 (by decide) (mm_h hts mm_w65) (fun _ h9 => h9) rfl dX7_takeSenseLine_103 ?_
              refine va_get (D := G) (ci := 0) (v := .ref a_5) (C := RX0) (T := TX0) (N := 18) hx hb hts (mm_i inlX0) hown hK.1 hP 3 rfl rfl 9 (by decide) (mm_h hts mm_w326) (fun _ h9 => h9) rfl dX7_takeSenseLine_106 ?_
              refine lv_aload_n hx hb dX7_takeSenseLine_109 rfl (lv_at hl 2 rfl) ?_
              refine va_get (D := G) (ci := 7) (v := .ref a_3) (C := RX7) (T := TX7) (N := 8) hx hb hts (mm_i inlX7) hown hK.1 hP 2 rfl rfl 1 (by decide) (mm_h hts mm_w65) (fun _ h9 => h9) rfl dX7_takeSenseLine_110 ?_
              refine va_get (D := G) (ci := 0) (v := .int i_11) (C := RX0) (T := TX0) (N := 18) hx hb hts (mm_i inlX0) hown hK.1 hP 3 rfl rfl 4 (by decide) (mm_h hts mm_w324) (fun _ h9 => h9) rfl dX7_takeSenseLine_113 ?_
              refine lv_iload_n hx hb dX7_takeSenseLine_116 rfl (lv_at hl 0 rfl) ?_
              refine lv_if_eq (tgt := 130) hx hb dX7_takeSenseLine_117 (by decide) (fun c62 => ?_) (fun c62 => ?_)
              · refine lv_iconst (v := 0) hx hb dX7_takeSenseLine_130 (by decide) ?_
                refine va_iast hx hb hK.1 hP hD hS 5 1 rfl rfl (mm_in q10 (by decide)) dX7_takeSenseLine_131 ?_
                clear hP hD hS
                clear H locs
                obtain ⟨g63, eg63⟩ : ∃ z : Nat → Int32, z = upd f_2 i_11.toNatClampNeg 0 := ⟨_, rfl⟩
                rw [← eg63]
                intro H locs (hP : va_P G vwCl [(a_1, .inr (9, [.ref a_2, .int i_0])), (a_2, .inl (cy 0, 600, .inl f_0)), (a_0, .inr (7, [.ref a_1, .ref a_3, .int i_1, .int i_2, .int n33, .int n34, .int n35, .int n36])), (a_3, .inr (0, [.int i_7, .int i_8, .int i_9, .int i_10, .int i_11, .int i_12, .int i_13, .int i_14, .ref a_4, .ref a_5, .ref a_6, .ref a_7, .ref a_8, .ref a_9, .ref a_10, .ref a_11, .ref a_12, .ref a_13])), (a_4, .inl (cy 1, 9, .inl g61)), (a_5, .inl (cy 1, 9, .inl g63))] H) (hD : va_D A [(a_1, .inr (9, [.ref a_2, .int i_0])), (a_2, .inl (cy 0, 600, .inl f_0)), (a_0, .inr (7, [.ref a_1, .ref a_3, .int i_1, .int i_2, .int n33, .int n34, .int n35, .int n36])), (a_3, .inr (0, [.int i_7, .int i_8, .int i_9, .int i_10, .int i_11, .int i_12, .int i_13, .int i_14, .ref a_4, .ref a_5, .ref a_6, .ref a_7, .ref a_8, .ref a_9, .ref a_10, .ref a_11, .ref a_12, .ref a_13])), (a_4, .inl (cy 1, 9, .inl g61)), (a_5, .inl (cy 1, 9, .inl g63))]) hS
                have rg63 : mm_ar g63 0 99 := by rw [eg63]; exact mm_ar_upd (mm_ar_wk h10 (by decide)) (mm_wk mm_k0 (by decide)) _
                refine lv_aload_n hx hb dX7_takeSenseLine_132 rfl (lv_at hl 2 rfl) ?_
                refine va_get (D := G) (ci := 7) (v := .ref a_3) (C := RX7) (T := TX7) (N := 8) hx hb hts (mm_i inlX7) hown hK.1 hP 2 rfl rfl 1 (by decide) (mm_h hts mm_w65) (fun _ h9 => h9) rfl dX7_takeSenseLine_133 ?_
                refine lv_dup hx hb dX7_takeSenseLine_136 rfl ?_
                refine va_get (D := G) (ci := 0) (v := .int i_11) (C := RX0) (T := TX0) (N := 18) hx hb hts (mm_i inlX0) hown hK.1 hP 3 rfl rfl 4 (by decide) (mm_h hts mm_w324) (fun _ h9 => h9) rfl dX7_takeSenseLine_137 ?_
                refine lv_iconst (v := 1) hx hb dX7_takeSenseLine_140 (by decide) ?_
                refine lv_iadd hx hb dX7_takeSenseLine_141 ?_
                refine lv_topi (fun v64 ev64 => ?_)
                have rv64 : mm_rg v64 1 9 := mm_add ev64 q10 mm_k1 (by decide) (by decide)
                have tv64 := mm_addEc ev64 q10 mm_k1 (by decide) (k := 1) (by decide)
                refine va_put (D := G) (ci := 0) (v := .int v64) (ty := tyX0 4) (C := RX0) (T := TX0) (N := 18) hx hb hts (mm_i inlX0) tyX0 tyX0_ok nmX0 hown hK.1 hP hD hS 3 rfl rfl 4 (by decide) (mm_h hts mm_w324) (fun _ h9 => h9) rfl (tyX0_ok 4 (by decide)) rfl rfl (Nat.le_of_ble_eq_true rfl) dX7_takeSenseLine_142 ?_
                clear hP hD hS
                clear H locs
                intro H locs (hP : va_P G vwCl [(a_1, .inr (9, [.ref a_2, .int i_0])), (a_2, .inl (cy 0, 600, .inl f_0)), (a_0, .inr (7, [.ref a_1, .ref a_3, .int i_1, .int i_2, .int n33, .int n34, .int n35, .int n36])), (a_3, .inr (0, [.int i_7, .int i_8, .int i_9, .int i_10, .int v64, .int i_12, .int i_13, .int i_14, .ref a_4, .ref a_5, .ref a_6, .ref a_7, .ref a_8, .ref a_9, .ref a_10, .ref a_11, .ref a_12, .ref a_13])), (a_4, .inl (cy 1, 9, .inl g61)), (a_5, .inl (cy 1, 9, .inl g63))] H) (hD : va_D A [(a_1, .inr (9, [.ref a_2, .int i_0])), (a_2, .inl (cy 0, 600, .inl f_0)), (a_0, .inr (7, [.ref a_1, .ref a_3, .int i_1, .int i_2, .int n33, .int n34, .int n35, .int n36])), (a_3, .inr (0, [.int i_7, .int i_8, .int i_9, .int i_10, .int v64, .int i_12, .int i_13, .int i_14, .ref a_4, .ref a_5, .ref a_6, .ref a_7, .ref a_8, .ref a_9, .ref a_10, .ref a_11, .ref a_12, .ref a_13])), (a_4, .inl (cy 1, 9, .inl g61)), (a_5, .inl (cy 1, 9, .inl g63))]) hS
                subst hAe
                rw [hQ]
                exact W.vret hx hb hr (fun t ht hW => ⟨⟨(i_1, i_2, n33, n34, n35, n36, v64, g61, g63), rfl, ⟨h2, w37, w38, w39, (mm_wk rv64 (by decide)), rg61, rg63⟩, by rw [ht]; exact hP, hK.warm hW, hD⟩, hS.F ht⟩) hS.2.2 dX7_takeSenseLine_145
              · have q65 := mm_neL (lo := 1) (mm_ne c62) mm_k0 mm_k0 (by decide) (by decide)
                exact mm_no q65 (by decide)
            · have q66 := mm_eqI (lo := 1) (hi := 1) c59 q58 mm_k1 (by decide)
              refine lv_iconst (v := 1) hx hb dX7_takeSenseLine_80 (by decide) ?_
              refine lv_goto (tgt := 85) hx hb dX7_takeSenseLine_81 (by decide) ?_
              refine lv_istore_n (lv' := [(2, .int 1), (1, .int v18), (0, .ref a_0)]) hx hb dX7_takeSenseLine_85 rfl hl (by decide) rfl ?_
              clear hl
              clear ls
              intro ls hl
              refine lv_aload_n hx hb dX7_takeSenseLine_86 rfl (lv_at hl 2 rfl) ?_
              refine va_get (D := G) (ci := 7) (v := .ref a_3) (C := RX7) (T := TX7) (N := 8) hx hb hts (mm_i inlX7) hown hK.1 hP 2 rfl rfl 1 (by decide) (mm_h hts mm_w65) (fun _ h9 => h9) rfl dX7_takeSenseLine_87 ?_
              refine va_get (D := G) (ci := 0) (v := .ref a_4) (C := RX0) (T := TX0) (N := 18) hx hb hts (mm_i inlX0) hown hK.1 hP 3 rfl rfl 8 (by decide) (mm_h hts mm_w325) (fun _ h9 => h9) rfl dX7_takeSenseLine_90 ?_
              refine lv_aload_n hx hb dX7_takeSenseLine_93 rfl (lv_at hl 2 rfl) ?_
              refine va_get (D := G) (ci := 7) (v := .ref a_3) (C := RX7) (T := TX7) (N := 8) hx hb hts (mm_i inlX7) hown hK.1 hP 2 rfl rfl 1 (by decide) (mm_h hts mm_w65) (fun _ h9 => h9) rfl dX7_takeSenseLine_94 ?_
              refine va_get (D := G) (ci := 0) (v := .int i_11) (C := RX0) (T := TX0) (N := 18) hx hb hts (mm_i inlX0) hown hK.1 hP 3 rfl rfl 4 (by decide) (mm_h hts mm_w324) (fun _ h9 => h9) rfl dX7_takeSenseLine_97 ?_
              refine lv_iload_n hx hb dX7_takeSenseLine_100 rfl (lv_at hl 1 rfl) ?_
              refine va_iast hx hb hK.1 hP hD hS 4 1 rfl rfl (mm_in q10 (by decide)) dX7_takeSenseLine_101 ?_
              clear hP hD hS
              clear H locs
              obtain ⟨g67, eg67⟩ : ∃ z : Nat → Int32, z = upd f_1 i_11.toNatClampNeg v18 := ⟨_, rfl⟩
              rw [← eg67]
              intro H locs (hP : va_P G vwCl [(a_1, .inr (9, [.ref a_2, .int i_0])), (a_2, .inl (cy 0, 600, .inl f_0)), (a_0, .inr (7, [.ref a_1, .ref a_3, .int i_1, .int i_2, .int n33, .int n34, .int n35, .int n36])), (a_3, .inr (0, [.int i_7, .int i_8, .int i_9, .int i_10, .int i_11, .int i_12, .int i_13, .int i_14, .ref a_4, .ref a_5, .ref a_6, .ref a_7, .ref a_8, .ref a_9, .ref a_10, .ref a_11, .ref a_12, .ref a_13])), (a_4, .inl (cy 1, 9, .inl g67)), (a_5, .inl (cy 1, 9, .inl f_2))] H) (hD : va_D A [(a_1, .inr (9, [.ref a_2, .int i_0])), (a_2, .inl (cy 0, 600, .inl f_0)), (a_0, .inr (7, [.ref a_1, .ref a_3, .int i_1, .int i_2, .int n33, .int n34, .int n35, .int n36])), (a_3, .inr (0, [.int i_7, .int i_8, .int i_9, .int i_10, .int i_11, .int i_12, .int i_13, .int i_14, .ref a_4, .ref a_5, .ref a_6, .ref a_7, .ref a_8, .ref a_9, .ref a_10, .ref a_11, .ref a_12, .ref a_13])), (a_4, .inl (cy 1, 9, .inl g67)), (a_5, .inl (cy 1, 9, .inl f_2))]) hS
              have rg67 : mm_ar g67 (-1) 4 := by rw [eg67]; exact mm_ar_upd (mm_ar_wk h9 (by decide)) (mm_wk q66 (by decide)) _
              refine lv_aload_n hx hb dX7_takeSenseLine_102 rfl (lv_at hl 2 rfl) ?_
              refine va_get (D := G) (ci := 7) (v := .ref a_3) (C := RX7) (T := TX7) (N := 8) hx hb hts (mm_i inlX7) hown hK.1 hP 2 rfl rfl 1 (by decide) (mm_h hts mm_w65) (fun _ h9 => h9) rfl dX7_takeSenseLine_103 ?_
              refine va_get (D := G) (ci := 0) (v := .ref a_5) (C := RX0) (T := TX0) (N := 18) hx hb hts (mm_i inlX0) hown hK.1 hP 3 rfl rfl 9 (by decide) (mm_h hts mm_w326) (fun _ h9 => h9) rfl dX7_takeSenseLine_106 ?_
              refine lv_aload_n hx hb dX7_takeSenseLine_109 rfl (lv_at hl 2 rfl) ?_
              refine va_get (D := G) (ci := 7) (v := .ref a_3) (C := RX7) (T := TX7) (N := 8) hx hb hts (mm_i inlX7) hown hK.1 hP 2 rfl rfl 1 (by decide) (mm_h hts mm_w65) (fun _ h9 => h9) rfl dX7_takeSenseLine_110 ?_
              refine va_get (D := G) (ci := 0) (v := .int i_11) (C := RX0) (T := TX0) (N := 18) hx hb hts (mm_i inlX0) hown hK.1 hP 3 rfl rfl 4 (by decide) (mm_h hts mm_w324) (fun _ h9 => h9) rfl dX7_takeSenseLine_113 ?_
              refine lv_iload_n hx hb dX7_takeSenseLine_116 rfl (lv_at hl 0 rfl) ?_
              refine lv_if_eq (tgt := 130) hx hb dX7_takeSenseLine_117 (by decide) (fun c68 => ?_) (fun c68 => ?_)
              · exact mm_eqN c68.symm mm_k0 mm_k1 (by decide)
              · refine lv_aload_n hx hb dX7_takeSenseLine_120 rfl (lv_at hl 2 rfl) ?_
                refine lv_iconst (v := 0) hx hb dX7_takeSenseLine_121 (by decide) ?_
                refine lv_bipush (v := 99) hx hb dX7_takeSenseLine_122 (by decide) ?_
                refine mm_fini (va_runV (As := [.int 0, .int 99]) (rest := [.int i_11, .ref a_5]) ⟨hx, hb, hml, hown, hts⟩ (K272_X7_takeNumber l G cy H.size a_0 a_1 a_2 i_0 f_0 a_3 i_1 i_2 n33 n34 n35 n36 h0 h1 h2 w37 w38 w39) (cwV 2 hts (mm_gV mm_w315 mm_w316 mm_w317 mm_w19 mm_w318) rfl rfl rfl hd_X7_takeNumber ⟨by rw [hRf]; exact Nat.le_of_ble_eq_true rfl, by rw [hRl]; exact Nat.le_of_ble_eq_true rfl⟩) (mm_preV hK hZ hS hA hP hD [0, 1, 2] rfl rfl 2 rfl rfl rfl) rfl rfl hl.1 rfl (lv_room (Nat.le_of_ble_eq_true rfl)) dX7_takeSenseLine_124 ⟨by rw [hRc]; exact Nat.le_of_ble_eq_true rfl, by rw [hRs]; exact Nat.le_of_ble_eq_true rfl⟩) hP hD hS hA (fun u : Int32 × Int32 × Int32 × Int32 × Int32 × Int32 => [(a_1, .inr (9, [.ref a_2, .int i_0])), (a_2, .inl (cy 0, 600, .inl f_0)), (a_0, .inr (7, [.ref a_1, .ref a_3, .int u.1, .int u.2.1, .int u.2.2.1, .int u.2.2.2.1, .int u.2.2.2.2.1, .int u.2.2.2.2.2])), (a_3, .inr (0, [.int i_7, .int i_8, .int i_9, .int i_10, .int i_11, .int i_12, .int i_13, .int i_14, .ref a_4, .ref a_5, .ref a_6, .ref a_7, .ref a_8, .ref a_9, .ref a_10, .ref a_11, .ref a_12, .ref a_13])), (a_4, .inl (cy 1, 9, .inl g67)), (a_5, .inl (cy 1, 9, .inl f_2))]) [0, 1, 2] [3, 4, 5] (n := 6) (fun _ => rfl) (by decide +kernel) (by decide +kernel) rfl (fun _ => rfl) (wr := [(a_3, .inr (0, [.int i_7, .int i_8, .int i_9, .int i_10, .int i_11, .int i_12, .int i_13, .int i_14, .ref a_4, .ref a_5, .ref a_6, .ref a_7, .ref a_8, .ref a_9, .ref a_10, .ref a_11, .ref a_12, .ref a_13])), (a_4, .inl (cy 1, 9, .inl g67)), (a_5, .inl (cy 1, 9, .inl f_2))]) rfl (fun _ => rfl) (fun _ => rfl) ?_
                clear hP hD hS
                clear H locs
                intro v75 u
                obtain ⟨n69, n70, n71, n72, n73, n74⟩ := u
                intro H locs hw (hP : va_P G vwCl [(a_1, .inr (9, [.ref a_2, .int i_0])), (a_2, .inl (cy 0, 600, .inl f_0)), (a_0, .inr (7, [.ref a_1, .ref a_3, .int n69, .int n70, .int n71, .int n72, .int n73, .int n74])), (a_3, .inr (0, [.int i_7, .int i_8, .int i_9, .int i_10, .int i_11, .int i_12, .int i_13, .int i_14, .ref a_4, .ref a_5, .ref a_6, .ref a_7, .ref a_8, .ref a_9, .ref a_10, .ref a_11, .ref a_12, .ref a_13])), (a_4, .inl (cy 1, 9, .inl g67)), (a_5, .inl (cy 1, 9, .inl f_2))] H) (hD : va_D A [(a_1, .inr (9, [.ref a_2, .int i_0])), (a_2, .inl (cy 0, 600, .inl f_0)), (a_0, .inr (7, [.ref a_1, .ref a_3, .int n69, .int n70, .int n71, .int n72, .int n73, .int n74])), (a_3, .inr (0, [.int i_7, .int i_8, .int i_9, .int i_10, .int i_11, .int i_12, .int i_13, .int i_14, .ref a_4, .ref a_5, .ref a_6, .ref a_7, .ref a_8, .ref a_9, .ref a_10, .ref a_11, .ref a_12, .ref a_13])), (a_4, .inl (cy 1, 9, .inl g67)), (a_5, .inl (cy 1, 9, .inl f_2))]) hS
                obtain ⟨w76, w77, w78, w79, hw⟩ := hw
                have w80 := hw
                refine lv_goto (tgt := 131) hx hb dX7_takeSenseLine_127 (by decide) ?_
                refine va_iast hx hb hK.1 hP hD hS 5 1 rfl rfl (mm_in q10 (by decide)) dX7_takeSenseLine_131 ?_
                clear hP hD hS
                clear H locs
                obtain ⟨g81, eg81⟩ : ∃ z : Nat → Int32, z = upd f_2 i_11.toNatClampNeg v75 := ⟨_, rfl⟩
                rw [← eg81]
                intro H locs (hP : va_P G vwCl [(a_1, .inr (9, [.ref a_2, .int i_0])), (a_2, .inl (cy 0, 600, .inl f_0)), (a_0, .inr (7, [.ref a_1, .ref a_3, .int n69, .int n70, .int n71, .int n72, .int n73, .int n74])), (a_3, .inr (0, [.int i_7, .int i_8, .int i_9, .int i_10, .int i_11, .int i_12, .int i_13, .int i_14, .ref a_4, .ref a_5, .ref a_6, .ref a_7, .ref a_8, .ref a_9, .ref a_10, .ref a_11, .ref a_12, .ref a_13])), (a_4, .inl (cy 1, 9, .inl g67)), (a_5, .inl (cy 1, 9, .inl g81))] H) (hD : va_D A [(a_1, .inr (9, [.ref a_2, .int i_0])), (a_2, .inl (cy 0, 600, .inl f_0)), (a_0, .inr (7, [.ref a_1, .ref a_3, .int n69, .int n70, .int n71, .int n72, .int n73, .int n74])), (a_3, .inr (0, [.int i_7, .int i_8, .int i_9, .int i_10, .int i_11, .int i_12, .int i_13, .int i_14, .ref a_4, .ref a_5, .ref a_6, .ref a_7, .ref a_8, .ref a_9, .ref a_10, .ref a_11, .ref a_12, .ref a_13])), (a_4, .inl (cy 1, 9, .inl g67)), (a_5, .inl (cy 1, 9, .inl g81))]) hS
                have rg81 : mm_ar g81 0 99 := by rw [eg81]; exact mm_ar_upd (mm_ar_wk h10 (by decide)) (mm_wk w80 (by decide)) _
                refine lv_aload_n hx hb dX7_takeSenseLine_132 rfl (lv_at hl 2 rfl) ?_
                refine va_get (D := G) (ci := 7) (v := .ref a_3) (C := RX7) (T := TX7) (N := 8) hx hb hts (mm_i inlX7) hown hK.1 hP 2 rfl rfl 1 (by decide) (mm_h hts mm_w65) (fun _ h9 => h9) rfl dX7_takeSenseLine_133 ?_
                refine lv_dup hx hb dX7_takeSenseLine_136 rfl ?_
                refine va_get (D := G) (ci := 0) (v := .int i_11) (C := RX0) (T := TX0) (N := 18) hx hb hts (mm_i inlX0) hown hK.1 hP 3 rfl rfl 4 (by decide) (mm_h hts mm_w324) (fun _ h9 => h9) rfl dX7_takeSenseLine_137 ?_
                refine lv_iconst (v := 1) hx hb dX7_takeSenseLine_140 (by decide) ?_
                refine lv_iadd hx hb dX7_takeSenseLine_141 ?_
                refine lv_topi (fun v82 ev82 => ?_)
                have rv82 : mm_rg v82 1 9 := mm_add ev82 q10 mm_k1 (by decide) (by decide)
                have tv82 := mm_addEc ev82 q10 mm_k1 (by decide) (k := 1) (by decide)
                refine va_put (D := G) (ci := 0) (v := .int v82) (ty := tyX0 4) (C := RX0) (T := TX0) (N := 18) hx hb hts (mm_i inlX0) tyX0 tyX0_ok nmX0 hown hK.1 hP hD hS 3 rfl rfl 4 (by decide) (mm_h hts mm_w324) (fun _ h9 => h9) rfl (tyX0_ok 4 (by decide)) rfl rfl (Nat.le_of_ble_eq_true rfl) dX7_takeSenseLine_142 ?_
                clear hP hD hS
                clear H locs
                intro H locs (hP : va_P G vwCl [(a_1, .inr (9, [.ref a_2, .int i_0])), (a_2, .inl (cy 0, 600, .inl f_0)), (a_0, .inr (7, [.ref a_1, .ref a_3, .int n69, .int n70, .int n71, .int n72, .int n73, .int n74])), (a_3, .inr (0, [.int i_7, .int i_8, .int i_9, .int i_10, .int v82, .int i_12, .int i_13, .int i_14, .ref a_4, .ref a_5, .ref a_6, .ref a_7, .ref a_8, .ref a_9, .ref a_10, .ref a_11, .ref a_12, .ref a_13])), (a_4, .inl (cy 1, 9, .inl g67)), (a_5, .inl (cy 1, 9, .inl g81))] H) (hD : va_D A [(a_1, .inr (9, [.ref a_2, .int i_0])), (a_2, .inl (cy 0, 600, .inl f_0)), (a_0, .inr (7, [.ref a_1, .ref a_3, .int n69, .int n70, .int n71, .int n72, .int n73, .int n74])), (a_3, .inr (0, [.int i_7, .int i_8, .int i_9, .int i_10, .int v82, .int i_12, .int i_13, .int i_14, .ref a_4, .ref a_5, .ref a_6, .ref a_7, .ref a_8, .ref a_9, .ref a_10, .ref a_11, .ref a_12, .ref a_13])), (a_4, .inl (cy 1, 9, .inl g67)), (a_5, .inl (cy 1, 9, .inl g81))]) hS
                subst hAe
                rw [hQ]
                exact W.vret hx hb hr (fun t ht hW => ⟨⟨(n69, n70, n71, n72, n73, n74, v82, g67, g81), rfl, ⟨w76, w77, w78, w79, (mm_wk rv82 (by decide)), rg67, rg81⟩, by rw [ht]; exact hP, hK.warm hW, hD⟩, hS.F ht⟩) hS.2.2 dX7_takeSenseLine_145
      · have q83 := mm_leR (mm_nlt c9) mm_k9 h6
        refine lv_aload_n hx hb dX7_takeSenseLine_40 rfl (lv_at hl 0 rfl) ?_
        refine lv_iconst (v := 3) hx hb dX7_takeSenseLine_41 (by decide) ?_
        refine mm_finv (va_runV (As := [.int 3]) (rest := []) ⟨hx, hb, hml, hown, hts⟩ (K105_X7_blame l G cy H.size a_0 a_1 a_3 i_1 i_2 i_3 i_4 i_5 i_6 h2 h4) (cwV 1 hts (mm_gV mm_w311 mm_w312 mm_w313 mm_w19 mm_w314) rfl rfl rfl hd_X7_blame ⟨by rw [hRf]; exact Nat.le_of_ble_eq_true rfl, by rw [hRl]; exact Nat.le_of_ble_eq_true rfl⟩) (mm_preV hK hZ hS hA hP hD [2] rfl rfl 2 rfl rfl rfl) rfl rfl hl.1 rfl (lv_room (Nat.le_of_ble_eq_true rfl)) dX7_takeSenseLine_42 ⟨by rw [hRc]; exact Nat.le_of_ble_eq_true rfl, by rw [hRs]; exact Nat.le_of_ble_eq_true rfl⟩) hP hD hS hA (fun u : Int32 × Int32 => [(a_1, .inr (9, [.ref a_2, .int i_0])), (a_2, .inl (cy 0, 600, .inl f_0)), (a_0, .inr (7, [.ref a_1, .ref a_3, .int u.1, .int u.2, .int i_3, .int i_4, .int i_5, .int i_6])), (a_3, .inr (0, [.int i_7, .int i_8, .int i_9, .int i_10, .int i_11, .int i_12, .int i_13, .int i_14, .ref a_4, .ref a_5, .ref a_6, .ref a_7, .ref a_8, .ref a_9, .ref a_10, .ref a_11, .ref a_12, .ref a_13])), (a_4, .inl (cy 1, 9, .inl f_1)), (a_5, .inl (cy 1, 9, .inl f_2))]) [2] [0, 1, 3, 4, 5] (n := 6) (fun _ => rfl) (by decide +kernel) (by decide +kernel) rfl (fun _ => rfl) (wr := [(a_1, .inr (9, [.ref a_2, .int i_0])), (a_2, .inl (cy 0, 600, .inl f_0)), (a_3, .inr (0, [.int i_7, .int i_8, .int i_9, .int i_10, .int i_11, .int i_12, .int i_13, .int i_14, .ref a_4, .ref a_5, .ref a_6, .ref a_7, .ref a_8, .ref a_9, .ref a_10, .ref a_11, .ref a_12, .ref a_13])), (a_4, .inl (cy 1, 9, .inl f_1)), (a_5, .inl (cy 1, 9, .inl f_2))]) rfl (fun _ => rfl) (fun _ => rfl) ?_
        clear hP hD hS
        clear H locs
        intro u
        obtain ⟨n84, n85⟩ := u
        intro H locs hw (hP : va_P G vwCl [(a_1, .inr (9, [.ref a_2, .int i_0])), (a_2, .inl (cy 0, 600, .inl f_0)), (a_0, .inr (7, [.ref a_1, .ref a_3, .int n84, .int n85, .int i_3, .int i_4, .int i_5, .int i_6])), (a_3, .inr (0, [.int i_7, .int i_8, .int i_9, .int i_10, .int i_11, .int i_12, .int i_13, .int i_14, .ref a_4, .ref a_5, .ref a_6, .ref a_7, .ref a_8, .ref a_9, .ref a_10, .ref a_11, .ref a_12, .ref a_13])), (a_4, .inl (cy 1, 9, .inl f_1)), (a_5, .inl (cy 1, 9, .inl f_2))] H) (hD : va_D A [(a_1, .inr (9, [.ref a_2, .int i_0])), (a_2, .inl (cy 0, 600, .inl f_0)), (a_0, .inr (7, [.ref a_1, .ref a_3, .int n84, .int n85, .int i_3, .int i_4, .int i_5, .int i_6])), (a_3, .inr (0, [.int i_7, .int i_8, .int i_9, .int i_10, .int i_11, .int i_12, .int i_13, .int i_14, .ref a_4, .ref a_5, .ref a_6, .ref a_7, .ref a_8, .ref a_9, .ref a_10, .ref a_11, .ref a_12, .ref a_13])), (a_4, .inl (cy 1, 9, .inl f_1)), (a_5, .inl (cy 1, 9, .inl f_2))]) hS
        have w86 := hw
        refine lv_goto (tgt := 145) hx hb dX7_takeSenseLine_45 (by decide) ?_
        subst hAe
        rw [hQ]
        exact W.vret hx hb hr (fun t ht hW => ⟨⟨(n84, n85, i_3, i_4, i_5, i_6, i_11, f_1, f_2), rfl, ⟨(mm_wk w86 (by decide)), h3, h4, h5, (mm_wk q83 (by decide)), h9, h10⟩, by rw [ht]; exact hP, hK.warm hW, hD⟩, hS.F ht⟩) hS.2.2 dX7_takeSenseLine_145
    · have q87 := mm_ltR (lo := 1) (mm_nle c7) mm_k0 h8 (by decide)
      refine lv_aload_n hx hb dX7_takeSenseLine_20 rfl (lv_at hl 0 rfl) ?_
      refine lv_iconst (v := 1) hx hb dX7_takeSenseLine_21 (by decide) ?_
      refine mm_finv (va_runV (As := [.int 1]) (rest := []) ⟨hx, hb, hml, hown, hts⟩ (K101_X7_blame l G cy H.size a_0 a_1 a_3 i_1 i_2 i_3 i_4 i_5 i_6 h2 h4) (cwV 1 hts (mm_gV mm_w311 mm_w312 mm_w313 mm_w19 mm_w314) rfl rfl rfl hd_X7_blame ⟨by rw [hRf]; exact Nat.le_of_ble_eq_true rfl, by rw [hRl]; exact Nat.le_of_ble_eq_true rfl⟩) (mm_preV hK hZ hS hA hP hD [2] rfl rfl 2 rfl rfl rfl) rfl rfl hl.1 rfl (lv_room (Nat.le_of_ble_eq_true rfl)) dX7_takeSenseLine_22 ⟨by rw [hRc]; exact Nat.le_of_ble_eq_true rfl, by rw [hRs]; exact Nat.le_of_ble_eq_true rfl⟩) hP hD hS hA (fun u : Int32 × Int32 => [(a_1, .inr (9, [.ref a_2, .int i_0])), (a_2, .inl (cy 0, 600, .inl f_0)), (a_0, .inr (7, [.ref a_1, .ref a_3, .int u.1, .int u.2, .int i_3, .int i_4, .int i_5, .int i_6])), (a_3, .inr (0, [.int i_7, .int i_8, .int i_9, .int i_10, .int i_11, .int i_12, .int i_13, .int i_14, .ref a_4, .ref a_5, .ref a_6, .ref a_7, .ref a_8, .ref a_9, .ref a_10, .ref a_11, .ref a_12, .ref a_13])), (a_4, .inl (cy 1, 9, .inl f_1)), (a_5, .inl (cy 1, 9, .inl f_2))]) [2] [0, 1, 3, 4, 5] (n := 6) (fun _ => rfl) (by decide +kernel) (by decide +kernel) rfl (fun _ => rfl) (wr := [(a_1, .inr (9, [.ref a_2, .int i_0])), (a_2, .inl (cy 0, 600, .inl f_0)), (a_3, .inr (0, [.int i_7, .int i_8, .int i_9, .int i_10, .int i_11, .int i_12, .int i_13, .int i_14, .ref a_4, .ref a_5, .ref a_6, .ref a_7, .ref a_8, .ref a_9, .ref a_10, .ref a_11, .ref a_12, .ref a_13])), (a_4, .inl (cy 1, 9, .inl f_1)), (a_5, .inl (cy 1, 9, .inl f_2))]) rfl (fun _ => rfl) (fun _ => rfl) ?_
      clear hP hD hS
      clear H locs
      intro u
      obtain ⟨n88, n89⟩ := u
      intro H locs hw (hP : va_P G vwCl [(a_1, .inr (9, [.ref a_2, .int i_0])), (a_2, .inl (cy 0, 600, .inl f_0)), (a_0, .inr (7, [.ref a_1, .ref a_3, .int n88, .int n89, .int i_3, .int i_4, .int i_5, .int i_6])), (a_3, .inr (0, [.int i_7, .int i_8, .int i_9, .int i_10, .int i_11, .int i_12, .int i_13, .int i_14, .ref a_4, .ref a_5, .ref a_6, .ref a_7, .ref a_8, .ref a_9, .ref a_10, .ref a_11, .ref a_12, .ref a_13])), (a_4, .inl (cy 1, 9, .inl f_1)), (a_5, .inl (cy 1, 9, .inl f_2))] H) (hD : va_D A [(a_1, .inr (9, [.ref a_2, .int i_0])), (a_2, .inl (cy 0, 600, .inl f_0)), (a_0, .inr (7, [.ref a_1, .ref a_3, .int n88, .int n89, .int i_3, .int i_4, .int i_5, .int i_6])), (a_3, .inr (0, [.int i_7, .int i_8, .int i_9, .int i_10, .int i_11, .int i_12, .int i_13, .int i_14, .ref a_4, .ref a_5, .ref a_6, .ref a_7, .ref a_8, .ref a_9, .ref a_10, .ref a_11, .ref a_12, .ref a_13])), (a_4, .inl (cy 1, 9, .inl f_1)), (a_5, .inl (cy 1, 9, .inl f_2))]) hS
      have w90 := hw
      refine lv_goto (tgt := 145) hx hb dX7_takeSenseLine_25 (by decide) ?_
      subst hAe
      rw [hQ]
      exact W.vret hx hb hr (fun t ht hW => ⟨⟨(n88, n89, i_3, i_4, i_5, i_6, i_11, f_1, f_2), rfl, ⟨(mm_wk w90 (by decide)), h3, h4, h5, h6, h9, h10⟩, by rw [ht]; exact hP, hK.warm hW, hD⟩, hS.F ht⟩) hS.2.2 dX7_takeSenseLine_145

set_option maxHeartbeats 4000000 in
set_option maxRecDepth 100000 in
theorem K274_J0_coder_7d493 (l : Launch) (G : va_G) (cy : Nat → ClassId) (sz : Nat)    : mm_CI l yJ0_coder_7d493 (mm_ws yJ0_coder_7d493 cJ0_coder_7d493 1 (some .byte)) ({ frames := 0, cells := 0, slots := 0, locals := 0 } : Room) G cy sz [] [.ref (cy 100)] (fun u : Unit => []) (fun (r : Int32) (u : Unit) => 0 = r) 0 0 := by
  refine mm_begin (lv := [(0, .ref (cy 100))]) (by decide) (Nat.le_of_ble_eq_true rfl) rfl ?_
  intro p e s m below meth c A ls R args Q H locs hRe hQ hAe hx hb hr hlocks hml hown hnm hts hsz hA hS hP hK hD hZ hl
  have hRf : R.frames = 0 := by rw [hRe]
  have hRl : R.locals = 0 := by rw [hRe]
  have hRc : R.cells = 0 := by rw [hRe]
  have hRs : R.slots = 0 := by rw [hRe]
  refine va_gets hx hb hZ.2.1 hS hown (mm_h hts mm_w268) (fun _ h9 => h9) dJ0_coder_7d493_0 ?_
  refine lv_if_eq (tgt := 13) hx hb dJ0_coder_7d493_3 (by decide) (fun c1 => ?_) (fun c1 => ?_)
  · exact mm_eqN c1.symm mm_k0 mm_k1 (by decide)
  · refine lv_aload_n hx hb dJ0_coder_7d493_6 rfl (lv_at hl 0 rfl) ?_
    refine vk_getf hx hb ((hZ.1.1 0 (by decide)).2.1) hS hown (mm_h hts mm_w269) (fun _ h9 => h9) dJ0_coder_7d493_7 ?_
    refine W.eq (g2 := F0 m 10 ls [.int 0]) rfl ?_
    refine lv_goto (tgt := 14) hx hb dJ0_coder_7d493_10 (by decide) ?_
    subst hAe
    rw [hQ]
    exact W.zret (v := 0) hx hb hr rfl (fun t ht hW => ⟨⟨0, (), rfl, rfl, by rw [ht]; exact hP, hK.warm hW, hD⟩, hS.F ht⟩) hS.2.2 dJ0_coder_7d493_14

set_option maxHeartbeats 4000000 in
set_option maxRecDepth 100000 in
theorem K275_J0_length_8abf5 (l : Launch) (G : va_G) (cy : Nat → ClassId) (sz : Nat)    : mm_CI l yJ0_length_8abf5 (mm_ws yJ0_length_8abf5 cJ0_length_8abf5 1 (some .int)) ({ frames := 1, cells := 0, slots := 0, locals := 20 } : Room) G cy sz [] [.ref (cy 100)] (fun u : Unit => []) (fun (r : Int32) (u : Unit) => 4 = r) 0 0 := by
  refine mm_begin (lv := [(0, .ref (cy 100))]) (by decide) (Nat.le_of_ble_eq_true rfl) rfl ?_
  intro p e s m below meth c A ls R args Q H locs hRe hQ hAe hx hb hr hlocks hml hown hnm hts hsz hA hS hP hK hD hZ hl
  have hRf : R.frames = 1 := by rw [hRe]
  have hRl : R.locals = 20 := by rw [hRe]
  have hRc : R.cells = 0 := by rw [hRe]
  have hRs : R.slots = 0 := by rw [hRe]
  refine lv_aload_n hx hb dJ0_length_8abf5_0 rfl (lv_at hl 0 rfl) ?_
  refine vk_getf hx hb ((hZ.1.1 0 (by decide)).2.2.1) hS hown (mm_h hts mm_w263) (fun _ h9 => h9) dJ0_length_8abf5_1 ?_
  refine W.eq (g2 := F0 m 4 ls [.ref (cy 101)]) rfl ?_
  refine va_tlen hx hb ((hZ.1.1 0 (by decide)).2.2.2) hS (v := 4) (by decide) dJ0_length_8abf5_4 ?_
  refine lv_aload_n hx hb dJ0_length_8abf5_5 rfl (lv_at hl 0 rfl) ?_
  refine mm_finir (va_runV (As := []) (rest := [.int 4]) ⟨hx, hb, hml, hown, hts⟩ (K274_J0_coder_7d493 l G cy H.size  ) (cwV 0 hts (mm_gV mm_w264 mm_w265 mm_w266 mm_w261 mm_w267) rfl rfl rfl hd_J0_coder_7d493 ⟨by rw [hRf]; exact Nat.le_of_ble_eq_true rfl, by rw [hRl]; exact Nat.le_of_ble_eq_true rfl⟩) (mm_preVS hK hZ hS hA hP hD [] rfl rfl 0 (by decide)) rfl rfl hl.1 rfl (lv_room (Nat.le_of_ble_eq_true rfl)) dJ0_length_8abf5_6 ⟨by rw [hRc]; exact Nat.le_of_ble_eq_true rfl, by rw [hRs]; exact Nat.le_of_ble_eq_true rfl⟩) hP hD hS hA [] rfl (fun _ => rfl) ?_
  clear hP hD hS
  clear H locs
  intro v1 _u H locs hw hP hD hS
  subst hw
  refine lv_ishr hx hb dJ0_length_8abf5_9 ?_
  refine lv_topi (fun v2 ev2 => ?_)
  obtain rfl : v2 = 4 := ev2.trans (by decide)
  subst hAe
  rw [hQ]
  exact W.iret (v := 4) hx hb hr (fun t ht hW => ⟨⟨4, (), rfl, rfl, by rw [ht]; exact hP, hK.warm hW, hD⟩, hS.F ht⟩) hS.2.2 dJ0_length_8abf5_10

set_option maxHeartbeats 4000000 in
set_option maxRecDepth 100000 in
theorem K276_J0_isLatin1_aae02 (l : Launch) (G : va_G) (cy : Nat → ClassId) (sz : Nat)    : mm_CI l yJ0_isLatin1_aae02 (mm_ws yJ0_isLatin1_aae02 cJ0_isLatin1_aae02 1 (some .boolean)) ({ frames := 0, cells := 0, slots := 0, locals := 0 } : Room) G cy sz [] [.ref (cy 100)] (fun u : Unit => []) (fun (r : Int32) (u : Unit) => 1 = r) 0 0 := by
  refine mm_begin (lv := [(0, .ref (cy 100))]) (by decide) (Nat.le_of_ble_eq_true rfl) rfl ?_
  intro p e s m below meth c A ls R args Q H locs hRe hQ hAe hx hb hr hlocks hml hown hnm hts hsz hA hS hP hK hD hZ hl
  have hRf : R.frames = 0 := by rw [hRe]
  have hRl : R.locals = 0 := by rw [hRe]
  have hRc : R.cells = 0 := by rw [hRe]
  have hRs : R.slots = 0 := by rw [hRe]
  refine va_gets hx hb hZ.2.1 hS hown (mm_h hts mm_w268) (fun _ h9 => h9) dJ0_isLatin1_aae02_0 ?_
  refine lv_if_eq (tgt := 17) hx hb dJ0_isLatin1_aae02_3 (by decide) (fun c1 => ?_) (fun c1 => ?_)
  · exact mm_eqN c1.symm mm_k0 mm_k1 (by decide)
  · refine lv_aload_n hx hb dJ0_isLatin1_aae02_6 rfl (lv_at hl 0 rfl) ?_
    refine vk_getf hx hb ((hZ.1.1 0 (by decide)).2.1) hS hown (mm_h hts mm_w269) (fun _ h9 => h9) dJ0_isLatin1_aae02_7 ?_
    refine W.eq (g2 := F0 m 10 ls [.int 0]) rfl ?_
    refine lv_if_ne (tgt := 17) hx hb dJ0_isLatin1_aae02_10 (by decide) (fun c2 => ?_) (fun c2 => ?_)
    · have q3 := mm_neL (lo := 1) (mm_ne c2) mm_k0 mm_k0 (by decide) (by decide)
      exact mm_no q3 (by decide)
    · refine lv_iconst (v := 1) hx hb dJ0_isLatin1_aae02_13 (by decide) ?_
      refine lv_goto (tgt := 18) hx hb dJ0_isLatin1_aae02_14 (by decide) ?_
      subst hAe
      rw [hQ]
      exact W.zret (v := 1) hx hb hr rfl (fun t ht hW => ⟨⟨1, (), rfl, rfl, by rw [ht]; exact hP, hK.warm hW, hD⟩, hS.F ht⟩) hS.2.2 dJ0_isLatin1_aae02_18

set_option maxHeartbeats 4000000 in
set_option maxRecDepth 100000 in
theorem K285_J1_charAt_3b067 (l : Launch) (G : va_G) (cy : Nat → ClassId) (sz : Nat) (i_0 : Int32) (h0 : mm_rg i_0 0 3)  : mm_CI l yJ1_charAt_3b067 (mm_ws yJ1_charAt_3b067 cJ1_charAt_3b067 2 (some .char)) ({ frames := 2, cells := 0, slots := 0, locals := 43 } : Room) G cy sz [] [.ref (cy 101), .int i_0] (fun u : Unit => []) (fun (r : Int32) (u : Unit) => mm_rg r 0 65535) 0 0 := by
  refine mm_begin (lv := [(0, .ref (cy 101)), (1, .int i_0)]) (by decide) (Nat.le_of_ble_eq_true rfl) rfl ?_
  intro p e s m below meth c A ls R args Q H locs hRe hQ hAe hx hb hr hlocks hml hown hnm hts hsz hA hS hP hK hD hZ hl
  have hRf : R.frames = 2 := by rw [hRe]
  have hRl : R.locals = 43 := by rw [hRe]
  have hRc : R.cells = 0 := by rw [hRe]
  have hRs : R.slots = 0 := by rw [hRe]
  refine lv_iload_n hx hb dJ1_charAt_3b067_0 rfl (lv_at hl 1 rfl) ?_
  refine lv_aload_n hx hb dJ1_charAt_3b067_1 rfl (lv_at hl 0 rfl) ?_
  refine va_tlen hx hb ((hZ.1.1 0 (by decide)).2.2.2) hS (v := 4) (by decide) dJ1_charAt_3b067_2 ?_
  refine mm_finvr (va_runS (As := [.int i_0, .int 4]) (rest := []) ⟨hx, hb, hml, hown, hts⟩ (K69_J0_checkIndex_df160 l G cy H.size i_0 h0) (va_cwS 2 hts (mm_gS mm_w282 mm_w283 mm_w261 mm_w284) rfl rfl rfl hs_J0_checkIndex_df160 ⟨by rw [hRf]; exact Nat.le_of_ble_eq_true rfl, by rw [hRl]; exact Nat.le_of_ble_eq_true rfl⟩) (mm_preS hK hZ hS hA hP hD [] rfl rfl) rfl rfl hl.1 rfl (lv_room (Nat.le_of_ble_eq_true rfl)) dJ1_charAt_3b067_3 ⟨by rw [hRc]; exact Nat.le_of_ble_eq_true rfl, by rw [hRs]; exact Nat.le_of_ble_eq_true rfl⟩) hP hD hS hA [] rfl (fun _ => rfl) ?_
  clear hP hD hS
  clear H locs
  intro _u H locs hw hP hD hS
  refine lv_aload_n hx hb dJ1_charAt_3b067_6 rfl (lv_at hl 0 rfl) ?_
  refine lv_iload_n hx hb dJ1_charAt_3b067_7 rfl (lv_at hl 1 rfl) ?_
  refine va_tb hx hb ((hZ.1.1 0 (by decide)).2.2.2) hS (mm_in h0 (by decide)) rfl dJ1_charAt_3b067_8 ?_
  refine lv_topi (fun v1 ev1 => ?_)
  refine lv_sipush (v := 255) hx hb dJ1_charAt_3b067_9 (by decide) ?_
  refine lv_iand hx hb dJ1_charAt_3b067_12 ?_
  refine lv_topi (fun v2 ev2 => ?_)
  have rv2 : mm_rg v2 0 255 := mm_andR ev2 mm_k255 (by decide)
  obtain ⟨v3, ev3⟩ : ∃ y : Int32, y = (v2.toUInt32 % 65536).toInt32 := ⟨_, rfl⟩
  refine lv_i2c hx hb dJ1_charAt_3b067_13 ev3.symm ?_
  have rv3 : mm_rg v3 0 65535 := mm_i2c ev3
  subst hAe
  rw [hQ]
  exact W.zret (v := v3) hx hb hr (mm_nch rv3) (fun t ht hW => ⟨⟨v3, (), rfl, rv3, by rw [ht]; exact hP, hK.warm hW, hD⟩, hS.F ht⟩) hS.2.2 dJ1_charAt_3b067_14

set_option maxHeartbeats 4000000 in
set_option maxRecDepth 100000 in
theorem K286_J0_charAt_5068e (l : Launch) (G : va_G) (cy : Nat → ClassId) (sz : Nat) (i_0 : Int32) (h0 : mm_rg i_0 0 3)  : mm_CI l yJ0_charAt_5068e (mm_ws yJ0_charAt_5068e cJ0_charAt_5068e 2 (some .char)) ({ frames := 3, cells := 0, slots := 0, locals := 64 } : Room) G cy sz [] [.ref (cy 100), .int i_0] (fun u : Unit => []) (fun (r : Int32) (u : Unit) => mm_rg r 0 65535) 0 0 := by
  refine mm_begin (lv := [(0, .ref (cy 100)), (1, .int i_0)]) (by decide) (Nat.le_of_ble_eq_true rfl) rfl ?_
  intro p e s m below meth c A ls R args Q H locs hRe hQ hAe hx hb hr hlocks hml hown hnm hts hsz hA hS hP hK hD hZ hl
  have hRf : R.frames = 3 := by rw [hRe]
  have hRl : R.locals = 64 := by rw [hRe]
  have hRc : R.cells = 0 := by rw [hRe]
  have hRs : R.slots = 0 := by rw [hRe]
  refine lv_aload_n hx hb dJ0_charAt_5068e_0 rfl (lv_at hl 0 rfl) ?_
  refine mm_finir (va_runV (As := []) (rest := []) ⟨hx, hb, hml, hown, hts⟩ (K276_J0_isLatin1_aae02 l G cy H.size  ) (cwV 0 hts (mm_gV mm_w274 mm_w275 mm_w276 mm_w261 mm_w277) rfl rfl rfl hd_J0_isLatin1_aae02 ⟨by rw [hRf]; exact Nat.le_of_ble_eq_true rfl, by rw [hRl]; exact Nat.le_of_ble_eq_true rfl⟩) (mm_preVS hK hZ hS hA hP hD [] rfl rfl 0 (by decide)) rfl rfl hl.1 rfl (lv_room (Nat.le_of_ble_eq_true rfl)) dJ0_charAt_5068e_1 ⟨by rw [hRc]; exact Nat.le_of_ble_eq_true rfl, by rw [hRs]; exact Nat.le_of_ble_eq_true rfl⟩) hP hD hS hA [] rfl (fun _ => rfl) ?_
  clear hP hD hS
  clear H locs
  intro v1 _u H locs hw hP hD hS
  subst hw
  refine lv_if_eq (tgt := 16) hx hb dJ0_charAt_5068e_4 (by decide) (fun c2 => ?_) (fun c2 => ?_)
  · exact mm_eqN c2.symm mm_k0 mm_k1 (by decide)
  · refine lv_aload_n hx hb dJ0_charAt_5068e_7 rfl (lv_at hl 0 rfl) ?_
    refine vk_getf hx hb ((hZ.1.1 0 (by decide)).2.2.1) hS hown (mm_h hts mm_w263) (fun _ h9 => h9) dJ0_charAt_5068e_8 ?_
    refine W.eq (g2 := F0 m 11 ls [.ref (cy 101)]) rfl ?_
    refine lv_iload_n hx hb dJ0_charAt_5068e_11 rfl (lv_at hl 1 rfl) ?_
    refine mm_finir (va_runS (As := [.ref (cy 101), .int i_0]) (rest := []) ⟨hx, hb, hml, hown, hts⟩ (K285_J1_charAt_3b067 l G cy H.size i_0 h0) (va_cwS 2 hts (mm_gS mm_w278 mm_w279 mm_w280 mm_w281) rfl rfl rfl hs_J1_charAt_3b067 ⟨by rw [hRf]; exact Nat.le_of_ble_eq_true rfl, by rw [hRl]; exact Nat.le_of_ble_eq_true rfl⟩) (mm_preS hK hZ hS hA hP hD [] rfl rfl) rfl rfl hl.1 rfl (lv_room (Nat.le_of_ble_eq_true rfl)) dJ0_charAt_5068e_12 ⟨by rw [hRc]; exact Nat.le_of_ble_eq_true rfl, by rw [hRs]; exact Nat.le_of_ble_eq_true rfl⟩) hP hD hS hA [] rfl (fun _ => rfl) ?_
    clear hP hD hS
    clear H locs
    intro v3 _u H locs hw hP hD hS
    have w4 := hw
    subst hAe
    rw [hQ]
    exact W.zret (v := v3) hx hb hr (mm_nch w4) (fun t ht hW => ⟨⟨v3, (), rfl, w4, by rw [ht]; exact hP, hK.warm hW, hD⟩, hS.F ht⟩) hS.2.2 dJ0_charAt_5068e_15

set_option maxHeartbeats 4000000 in
set_option maxRecDepth 100000 in
theorem K287_X7_isName (l : Launch) (G : va_G) (cy : Nat → ClassId) (sz : Nat) (a_0 : Nat) (a_1 : Nat) (a_2 : Nat) (i_0 : Int32) (f_0 : Nat → Int32) (a_3 : Nat) (i_1 : Int32) (i_2 : Int32) (i_3 : Int32) (i_4 : Int32) (i_5 : Int32) (i_6 : Int32) (h0 : mm_rg i_0 0 600) (h1 : mm_ar f_0 (-128) 127) (h2 : mm_rg i_3 0 5) (h3 : mm_rg i_4 0 600) (h4 : mm_rg i_5 0 600)  : mm_CI l yX7_isName (mm_ws yX7_isName cX7_isName 4 (some .boolean)) ({ frames := 4, cells := 0, slots := 0, locals := 85 } : Room) G cy sz [(a_1, .inr (9, [.ref a_2, .int i_0])), (a_2, .inl (cy 0, 600, .inl f_0)), (a_0, .inr (7, [.ref a_1, .ref a_3, .int i_1, .int i_2, .int i_3, .int i_4, .int i_5, .int i_6]))] [.ref a_0, .ref (cy 100)] (fun u : Unit => [(a_1, .inr (9, [.ref a_2, .int i_0])), (a_2, .inl (cy 0, 600, .inl f_0)), (a_0, .inr (7, [.ref a_1, .ref a_3, .int i_1, .int i_2, .int i_3, .int i_4, .int i_5, .int i_6]))]) (fun (r : Int32) (u : Unit) => ((0 = r) ∨ (1 = r))) 0 0 := by
  refine mm_begin (lv := [(0, .ref a_0), (1, .ref (cy 100))]) (by decide) (Nat.le_of_ble_eq_true rfl) rfl ?_
  intro p e s m below meth c A ls R args Q H locs hRe hQ hAe hx hb hr hlocks hml hown hnm hts hsz hA hS hP hK hD hZ hl
  have hRf : R.frames = 4 := by rw [hRe]
  have hRl : R.locals = 85 := by rw [hRe]
  have hRc : R.cells = 0 := by rw [hRe]
  have hRs : R.slots = 0 := by rw [hRe]
  refine lv_aload_n hx hb dX7_isName_0 rfl (lv_at hl 1 rfl) ?_
  refine mm_finir (va_runV (As := []) (rest := []) ⟨hx, hb, hml, hown, hts⟩ (K275_J0_length_8abf5 l G cy H.size  ) (cwV 0 hts (mm_gV mm_w258 mm_w259 mm_w260 mm_w261 mm_w262) rfl rfl rfl hd_J0_length_8abf5 ⟨by rw [hRf]; exact Nat.le_of_ble_eq_true rfl, by rw [hRl]; exact Nat.le_of_ble_eq_true rfl⟩) (mm_preVS hK hZ hS hA hP hD [] rfl rfl 0 (by decide)) rfl rfl hl.1 rfl (lv_room (Nat.le_of_ble_eq_true rfl)) dX7_isName_1 ⟨by rw [hRc]; exact Nat.le_of_ble_eq_true rfl, by rw [hRs]; exact Nat.le_of_ble_eq_true rfl⟩) hP hD hS hA [] rfl (fun _ => rfl) ?_
  clear hP hD hS
  clear H locs
  intro v1 _u H locs hw hP hD hS
  subst hw
  refine lv_istore_n (lv' := [(2, .int 4), (0, .ref a_0), (1, .ref (cy 100))]) hx hb dX7_isName_4 rfl hl (by decide) rfl ?_
  clear hl
  clear ls
  intro ls hl
  refine lv_aload_n hx hb dX7_isName_5 rfl (lv_at hl 1 rfl) ?_
  refine va_get (D := G) (ci := 7) (v := .int i_3) (C := RX7) (T := TX7) (N := 8) hx hb hts (mm_i inlX7) hown hK.1 hP 2 rfl rfl 4 (by decide) (mm_h hts mm_w207) (fun _ h9 => h9) rfl dX7_isName_6 ?_
  refine lv_iconst (v := 2) hx hb dX7_isName_9 (by decide) ?_
  refine lv_icmp_ne (tgt := 40) hx hb dX7_isName_10 (by decide) (fun c2 => ?_) (fun c2 => ?_)
  · refine lv_iconst (v := 0) hx hb dX7_isName_40 (by decide) ?_
    subst hAe
    rw [hQ]
    exact W.zret (v := 0) hx hb hr rfl (fun t ht hW => ⟨⟨0, (), rfl, (Or.inl rfl), by rw [ht]; exact hP, hK.warm hW, hD⟩, hS.F ht⟩) hS.2.2 dX7_isName_41
  · have q3 := mm_eqI (lo := 2) (hi := 2) c2 h2 mm_k2 (by decide)
    refine lv_aload_n hx hb dX7_isName_13 rfl (lv_at hl 1 rfl) ?_
    refine va_get (D := G) (ci := 7) (v := .int i_5) (C := RX7) (T := TX7) (N := 8) hx hb hts (mm_i inlX7) hown hK.1 hP 2 rfl rfl 6 (by decide) (mm_h hts mm_w206) (fun _ h9 => h9) rfl dX7_isName_14 ?_
    refine lv_aload_n hx hb dX7_isName_17 rfl (lv_at hl 1 rfl) ?_
    refine va_get (D := G) (ci := 7) (v := .int i_4) (C := RX7) (T := TX7) (N := 8) hx hb hts (mm_i inlX7) hown hK.1 hP 2 rfl rfl 5 (by decide) (mm_h hts mm_w232) (fun _ h9 => h9) rfl dX7_isName_18 ?_
    refine lv_isub hx hb dX7_isName_21 ?_
    refine lv_topi (fun v4 ev4 => ?_)
    have rv4 : mm_rg v4 (-600) 600 := mm_sub ev4 h4 h3 (by decide) (by decide)
    have tv4 := mm_subE ev4 h4 h3 (by decide)
    refine lv_iload_n hx hb dX7_isName_22 rfl (lv_at hl 0 rfl) ?_
    refine lv_icmp_ne (tgt := 40) hx hb dX7_isName_23 (by decide) (fun c5 => ?_) (fun c5 => ?_)
    · refine lv_iconst (v := 0) hx hb dX7_isName_40 (by decide) ?_
      subst hAe
      rw [hQ]
      exact W.zret (v := 0) hx hb hr rfl (fun t ht hW => ⟨⟨0, (), rfl, (Or.inl rfl), by rw [ht]; exact hP, hK.warm hW, hD⟩, hS.F ht⟩) hS.2.2 dX7_isName_41
    · have q6 := mm_eqI (lo := 4) (hi := 4) c5 rv4 mm_k4 (by decide)
      have q7 : mm_rg i_4 0 596 := mm_unsubY tv4 q6 h4 h3 (by decide)
      have q8 : mm_rg i_5 4 600 := mm_unsubX tv4 q6 q7 h4 (by decide)
      refine lv_aload_n hx hb dX7_isName_26 rfl (lv_at hl 1 rfl) ?_
      refine va_get (D := G) (ci := 7) (v := .int i_5) (C := RX7) (T := TX7) (N := 8) hx hb hts (mm_i inlX7) hown hK.1 hP 2 rfl rfl 6 (by decide) (mm_h hts mm_w206) (fun _ h9 => h9) rfl dX7_isName_27 ?_
      refine lv_aload_n hx hb dX7_isName_30 rfl (lv_at hl 1 rfl) ?_
      refine va_get (D := G) (ci := 7) (v := .ref a_1) (C := RX7) (T := TX7) (N := 8) hx hb hts (mm_i inlX7) hown hK.1 hP 2 rfl rfl 0 (by decide) (mm_h hts mm_w67) (fun _ h9 => h9) rfl dX7_isName_31 ?_
      refine va_get (D := G) (ci := 9) (v := .int i_0) (C := RX9) (T := TX9) (N := 2) hx hb hts (mm_i inlX9) hown hK.1 hP 0 rfl rfl 1 (by decide) (mm_h hts mm_w231) (fun _ h9 => h9) rfl dX7_isName_34 ?_
      refine lv_icmp_le (tgt := 42) hx hb dX7_isName_37 (by decide) (fun c9 => ?_) (fun c9 => ?_)
      · have q10 := mm_leR (mm_le c9) q8 h0
        refine lv_iconst (v := 0) hx hb dX7_isName_42 (by decide) ?_
        refine lv_istore_n (lv' := [(3, .int 0), (2, .int 4), (0, .ref a_0), (1, .ref (cy 100))]) hx hb dX7_isName_43 rfl hl (by decide) rfl ?_
        clear hl
        clear ls
        intro ls hl
        have L44_71 : ∀ (n : Nat) (x44_3_71 : Int32), mm_rg x44_3_71 0 4 → (4 - x44_3_71.toInt).toNat < n → ∀ (H : Heap) (locs : List Loc), va_P G vwCl [(a_1, .inr (9, [.ref a_2, .int i_0])), (a_2, .inl (cy 0, 600, .inl f_0)), (a_0, .inr (7, [.ref a_1, .ref a_3, .int i_1, .int i_2, .int i_3, .int i_4, .int i_5, .int i_6]))] H → va_D A [(a_1, .inr (9, [.ref a_2, .int i_0])), (a_2, .inl (cy 0, 600, .inl f_0)), (a_0, .inr (7, [.ref a_1, .ref a_3, .int i_1, .int i_2, .int i_3, .int i_4, .int i_5, .int i_6]))] → va_S A s.heap H locs → ∀ (ls : Array Slot), lv_has ls 4 [(3, .int x44_3_71), (2, .int 4), (0, .ref a_0), (1, .ref (cy 100))] → W p l e R s m args below meth c H locs 0 0 Q (F0 m 44 ls []) := by
          intro n
          induction n with
          | zero => intro x44_3_71 rx44_3_71 hm; exact absurd hm (Nat.not_lt_zero _)
          | succ n ih44 =>
            intro x44_3_71 rx44_3_71 hm44 H locs hP hD hS ls hl
            refine lv_iload_n hx hb dX7_isName_44 rfl (lv_at hl 0 rfl) ?_
            refine lv_iload_n hx hb dX7_isName_45 rfl (lv_at hl 1 rfl) ?_
            refine lv_icmp_ge (tgt := 79) hx hb dX7_isName_46 (by decide) (fun c73 => ?_) (fun c73 => ?_)
            · have q74 := mm_leR (mm_le c73) mm_k4 rx44_3_71
              refine lv_iconst (v := 1) hx hb dX7_isName_79 (by decide) ?_
              subst hAe
              rw [hQ]
              exact W.zret (v := 1) hx hb hr rfl (fun t ht hW => ⟨⟨1, (), rfl, (Or.inr rfl), by rw [ht]; exact hP, hK.warm hW, hD⟩, hS.F ht⟩) hS.2.2 dX7_isName_80
            · have q75 := mm_ltL (h := 3) (mm_nle c73) rx44_3_71 mm_k4 (by decide)
              refine lv_aload_n hx hb dX7_isName_49 rfl (lv_at hl 2 rfl) ?_
              refine va_get (D := G) (ci := 7) (v := .ref a_1) (C := RX7) (T := TX7) (N := 8) hx hb hts (mm_i inlX7) hown hK.1 hP 2 rfl rfl 0 (by decide) (mm_h hts mm_w67) (fun _ h9 => h9) rfl dX7_isName_50 ?_
              refine va_get (D := G) (ci := 9) (v := .ref a_2) (C := RX9) (T := TX9) (N := 2) hx hb hts (mm_i inlX9) hown hK.1 hP 0 rfl rfl 0 (by decide) (mm_h hts mm_w238) (fun _ h9 => h9) rfl dX7_isName_53 ?_
              refine lv_aload_n hx hb dX7_isName_56 rfl (lv_at hl 2 rfl) ?_
              refine va_get (D := G) (ci := 7) (v := .int i_4) (C := RX7) (T := TX7) (N := 8) hx hb hts (mm_i inlX7) hown hK.1 hP 2 rfl rfl 5 (by decide) (mm_h hts mm_w232) (fun _ h9 => h9) rfl dX7_isName_57 ?_
              refine lv_iload_n hx hb dX7_isName_60 rfl (lv_at hl 0 rfl) ?_
              refine lv_iadd hx hb dX7_isName_61 ?_
              refine lv_topi (fun v76 ev76 => ?_)
              have rv76 : mm_rg v76 0 599 := mm_add ev76 q7 q75 (by decide) (by decide)
              have tv76 := mm_addE ev76 q7 q75 (by decide)
              refine va_bald hx hb hK.1 hP 1 0 rfl rfl (mm_in rv76 (by decide)) dX7_isName_62 ?_
              refine lv_topi (fun v77 ev77 => ?_)
              have rv77 : mm_rg v77 (-128) 127 := mm_eqv ev77 (h1 _)
              refine lv_aload_n hx hb dX7_isName_63 rfl (lv_at hl 3 rfl) ?_
              refine lv_iload_n hx hb dX7_isName_64 rfl (lv_at hl 0 rfl) ?_
              refine mm_finir (va_runV (As := [.int x44_3_71]) (rest := [.int v77]) ⟨hx, hb, hml, hown, hts⟩ (K286_J0_charAt_5068e l G cy H.size x44_3_71 q75) (cwV 1 hts (mm_gV mm_w270 mm_w271 mm_w272 mm_w261 mm_w273) rfl rfl rfl hd_J0_charAt_5068e ⟨by rw [hRf]; exact Nat.le_of_ble_eq_true rfl, by rw [hRl]; exact Nat.le_of_ble_eq_true rfl⟩) (mm_preVS hK hZ hS hA hP hD [] rfl rfl 0 (by decide)) rfl rfl hl.1 rfl (lv_room (Nat.le_of_ble_eq_true rfl)) dX7_isName_65 ⟨by rw [hRc]; exact Nat.le_of_ble_eq_true rfl, by rw [hRs]; exact Nat.le_of_ble_eq_true rfl⟩) hP hD hS hA [] rfl (fun _ => rfl) ?_
              clear hP hD hS
              clear H locs
              intro v78 _u H locs hw hP hD hS
              have w79 := hw
              refine lv_icmp_eq (tgt := 73) hx hb dX7_isName_68 (by decide) (fun c80 => ?_) (fun c80 => ?_)
              · have q81 := mm_eqI (lo := 0) (hi := 127) c80 rv77 w79 (by decide)
                have q82 := mm_eqI (lo := 0) (hi := 127) c80.symm w79 rv77 (by decide)
                obtain ⟨v83, ev83⟩ : ∃ y : Int32, y = x44_3_71 + 1 := ⟨_, rfl⟩
                refine lv_iinc (v := v83) (lv' := [(3, .int v83), (2, .int 4), (0, .ref a_0), (1, .ref (cy 100))]) hx hb dX7_isName_73 hl (k := 0) rfl (by rw [ev83]; rfl) (by decide) rfl ?_
                clear hl
                clear ls
                intro ls hl
                have rv83 : mm_rg v83 1 4 := mm_add ev83 q75 mm_k1 (by decide) (by decide)
                have tv83 := mm_addEc ev83 q75 mm_k1 (by decide) (k := 1) (by decide)
                refine lv_goto (tgt := 44) hx hb dX7_isName_76 (by decide) ?_
                exact ih44 v83 (mm_wk rv83 (by decide)) (mm_mu hm44 tv83 (by decide) (rv83).2 (by decide)) H locs hP hD hS ls (lv_sub hl [0, 1, 2, 3] rfl)
              · refine lv_iconst (v := 0) hx hb dX7_isName_71 (by decide) ?_
                subst hAe
                rw [hQ]
                exact W.zret (v := 0) hx hb hr rfl (fun t ht hW => ⟨⟨0, (), rfl, (Or.inl rfl), by rw [ht]; exact hP, hK.warm hW, hD⟩, hS.F ht⟩) hS.2.2 dX7_isName_72
        exact L44_71 _ 0 (mm_wk mm_k0 (by decide)) (Nat.lt_succ_self _) H locs hP hD hS ls (lv_sub hl [0, 1, 2, 3] rfl)
      · have q84 := mm_ltL (h := 599) (mm_nle c9) h0 q8 (by decide)
        refine lv_iconst (v := 0) hx hb dX7_isName_40 (by decide) ?_
        subst hAe
        rw [hQ]
        exact W.zret (v := 0) hx hb hr rfl (fun t ht hW => ⟨⟨0, (), rfl, (Or.inl rfl), by rw [ht]; exact hP, hK.warm hW, hD⟩, hS.F ht⟩) hS.2.2 dX7_isName_41

set_option maxHeartbeats 4000000 in
set_option maxRecDepth 100000 in
theorem K288_J0_coder_7d493 (l : Launch) (G : va_G) (cy : Nat → ClassId) (sz : Nat)    : mm_CI l yJ0_coder_7d493 (mm_ws yJ0_coder_7d493 cJ0_coder_7d493 1 (some .byte)) ({ frames := 0, cells := 0, slots := 0, locals := 0 } : Room) G cy sz [] [.ref (cy 102)] (fun u : Unit => []) (fun (r : Int32) (u : Unit) => 0 = r) 0 0 := by
  refine mm_begin (lv := [(0, .ref (cy 102))]) (by decide) (Nat.le_of_ble_eq_true rfl) rfl ?_
  intro p e s m below meth c A ls R args Q H locs hRe hQ hAe hx hb hr hlocks hml hown hnm hts hsz hA hS hP hK hD hZ hl
  have hRf : R.frames = 0 := by rw [hRe]
  have hRl : R.locals = 0 := by rw [hRe]
  have hRc : R.cells = 0 := by rw [hRe]
  have hRs : R.slots = 0 := by rw [hRe]
  refine va_gets hx hb hZ.2.1 hS hown (mm_h hts mm_w268) (fun _ h9 => h9) dJ0_coder_7d493_0 ?_
  refine lv_if_eq (tgt := 13) hx hb dJ0_coder_7d493_3 (by decide) (fun c1 => ?_) (fun c1 => ?_)
  · exact mm_eqN c1.symm mm_k0 mm_k1 (by decide)
  · refine lv_aload_n hx hb dJ0_coder_7d493_6 rfl (lv_at hl 0 rfl) ?_
    refine vk_getf hx hb ((hZ.1.1 1 (by decide)).2.1) hS hown (mm_h hts mm_w269) (fun _ h9 => h9) dJ0_coder_7d493_7 ?_
    refine W.eq (g2 := F0 m 10 ls [.int 0]) rfl ?_
    refine lv_goto (tgt := 14) hx hb dJ0_coder_7d493_10 (by decide) ?_
    subst hAe
    rw [hQ]
    exact W.zret (v := 0) hx hb hr rfl (fun t ht hW => ⟨⟨0, (), rfl, rfl, by rw [ht]; exact hP, hK.warm hW, hD⟩, hS.F ht⟩) hS.2.2 dJ0_coder_7d493_14

set_option maxHeartbeats 4000000 in
set_option maxRecDepth 100000 in
theorem K289_J0_length_8abf5 (l : Launch) (G : va_G) (cy : Nat → ClassId) (sz : Nat)    : mm_CI l yJ0_length_8abf5 (mm_ws yJ0_length_8abf5 cJ0_length_8abf5 1 (some .int)) ({ frames := 1, cells := 0, slots := 0, locals := 20 } : Room) G cy sz [] [.ref (cy 102)] (fun u : Unit => []) (fun (r : Int32) (u : Unit) => 4 = r) 0 0 := by
  refine mm_begin (lv := [(0, .ref (cy 102))]) (by decide) (Nat.le_of_ble_eq_true rfl) rfl ?_
  intro p e s m below meth c A ls R args Q H locs hRe hQ hAe hx hb hr hlocks hml hown hnm hts hsz hA hS hP hK hD hZ hl
  have hRf : R.frames = 1 := by rw [hRe]
  have hRl : R.locals = 20 := by rw [hRe]
  have hRc : R.cells = 0 := by rw [hRe]
  have hRs : R.slots = 0 := by rw [hRe]
  refine lv_aload_n hx hb dJ0_length_8abf5_0 rfl (lv_at hl 0 rfl) ?_
  refine vk_getf hx hb ((hZ.1.1 1 (by decide)).2.2.1) hS hown (mm_h hts mm_w263) (fun _ h9 => h9) dJ0_length_8abf5_1 ?_
  refine W.eq (g2 := F0 m 4 ls [.ref (cy 103)]) rfl ?_
  refine va_tlen hx hb ((hZ.1.1 1 (by decide)).2.2.2) hS (v := 4) (by decide) dJ0_length_8abf5_4 ?_
  refine lv_aload_n hx hb dJ0_length_8abf5_5 rfl (lv_at hl 0 rfl) ?_
  refine mm_finir (va_runV (As := []) (rest := [.int 4]) ⟨hx, hb, hml, hown, hts⟩ (K288_J0_coder_7d493 l G cy H.size  ) (cwV 0 hts (mm_gV mm_w264 mm_w265 mm_w266 mm_w261 mm_w267) rfl rfl rfl hd_J0_coder_7d493 ⟨by rw [hRf]; exact Nat.le_of_ble_eq_true rfl, by rw [hRl]; exact Nat.le_of_ble_eq_true rfl⟩) (mm_preVS hK hZ hS hA hP hD [] rfl rfl 1 (by decide)) rfl rfl hl.1 rfl (lv_room (Nat.le_of_ble_eq_true rfl)) dJ0_length_8abf5_6 ⟨by rw [hRc]; exact Nat.le_of_ble_eq_true rfl, by rw [hRs]; exact Nat.le_of_ble_eq_true rfl⟩) hP hD hS hA [] rfl (fun _ => rfl) ?_
  clear hP hD hS
  clear H locs
  intro v1 _u H locs hw hP hD hS
  subst hw
  refine lv_ishr hx hb dJ0_length_8abf5_9 ?_
  refine lv_topi (fun v2 ev2 => ?_)
  obtain rfl : v2 = 4 := ev2.trans (by decide)
  subst hAe
  rw [hQ]
  exact W.iret (v := 4) hx hb hr (fun t ht hW => ⟨⟨4, (), rfl, rfl, by rw [ht]; exact hP, hK.warm hW, hD⟩, hS.F ht⟩) hS.2.2 dJ0_length_8abf5_10

set_option maxHeartbeats 4000000 in
set_option maxRecDepth 100000 in
theorem K290_J0_isLatin1_aae02 (l : Launch) (G : va_G) (cy : Nat → ClassId) (sz : Nat)    : mm_CI l yJ0_isLatin1_aae02 (mm_ws yJ0_isLatin1_aae02 cJ0_isLatin1_aae02 1 (some .boolean)) ({ frames := 0, cells := 0, slots := 0, locals := 0 } : Room) G cy sz [] [.ref (cy 102)] (fun u : Unit => []) (fun (r : Int32) (u : Unit) => 1 = r) 0 0 := by
  refine mm_begin (lv := [(0, .ref (cy 102))]) (by decide) (Nat.le_of_ble_eq_true rfl) rfl ?_
  intro p e s m below meth c A ls R args Q H locs hRe hQ hAe hx hb hr hlocks hml hown hnm hts hsz hA hS hP hK hD hZ hl
  have hRf : R.frames = 0 := by rw [hRe]
  have hRl : R.locals = 0 := by rw [hRe]
  have hRc : R.cells = 0 := by rw [hRe]
  have hRs : R.slots = 0 := by rw [hRe]
  refine va_gets hx hb hZ.2.1 hS hown (mm_h hts mm_w268) (fun _ h9 => h9) dJ0_isLatin1_aae02_0 ?_
  refine lv_if_eq (tgt := 17) hx hb dJ0_isLatin1_aae02_3 (by decide) (fun c1 => ?_) (fun c1 => ?_)
  · exact mm_eqN c1.symm mm_k0 mm_k1 (by decide)
  · refine lv_aload_n hx hb dJ0_isLatin1_aae02_6 rfl (lv_at hl 0 rfl) ?_
    refine vk_getf hx hb ((hZ.1.1 1 (by decide)).2.1) hS hown (mm_h hts mm_w269) (fun _ h9 => h9) dJ0_isLatin1_aae02_7 ?_
    refine W.eq (g2 := F0 m 10 ls [.int 0]) rfl ?_
    refine lv_if_ne (tgt := 17) hx hb dJ0_isLatin1_aae02_10 (by decide) (fun c2 => ?_) (fun c2 => ?_)
    · have q3 := mm_neL (lo := 1) (mm_ne c2) mm_k0 mm_k0 (by decide) (by decide)
      exact mm_no q3 (by decide)
    · refine lv_iconst (v := 1) hx hb dJ0_isLatin1_aae02_13 (by decide) ?_
      refine lv_goto (tgt := 18) hx hb dJ0_isLatin1_aae02_14 (by decide) ?_
      subst hAe
      rw [hQ]
      exact W.zret (v := 1) hx hb hr rfl (fun t ht hW => ⟨⟨1, (), rfl, rfl, by rw [ht]; exact hP, hK.warm hW, hD⟩, hS.F ht⟩) hS.2.2 dJ0_isLatin1_aae02_18

set_option maxHeartbeats 4000000 in
set_option maxRecDepth 100000 in
theorem K299_J1_charAt_3b067 (l : Launch) (G : va_G) (cy : Nat → ClassId) (sz : Nat) (i_0 : Int32) (h0 : mm_rg i_0 0 3)  : mm_CI l yJ1_charAt_3b067 (mm_ws yJ1_charAt_3b067 cJ1_charAt_3b067 2 (some .char)) ({ frames := 2, cells := 0, slots := 0, locals := 43 } : Room) G cy sz [] [.ref (cy 103), .int i_0] (fun u : Unit => []) (fun (r : Int32) (u : Unit) => mm_rg r 0 65535) 0 0 := by
  refine mm_begin (lv := [(0, .ref (cy 103)), (1, .int i_0)]) (by decide) (Nat.le_of_ble_eq_true rfl) rfl ?_
  intro p e s m below meth c A ls R args Q H locs hRe hQ hAe hx hb hr hlocks hml hown hnm hts hsz hA hS hP hK hD hZ hl
  have hRf : R.frames = 2 := by rw [hRe]
  have hRl : R.locals = 43 := by rw [hRe]
  have hRc : R.cells = 0 := by rw [hRe]
  have hRs : R.slots = 0 := by rw [hRe]
  refine lv_iload_n hx hb dJ1_charAt_3b067_0 rfl (lv_at hl 1 rfl) ?_
  refine lv_aload_n hx hb dJ1_charAt_3b067_1 rfl (lv_at hl 0 rfl) ?_
  refine va_tlen hx hb ((hZ.1.1 1 (by decide)).2.2.2) hS (v := 4) (by decide) dJ1_charAt_3b067_2 ?_
  refine mm_finvr (va_runS (As := [.int i_0, .int 4]) (rest := []) ⟨hx, hb, hml, hown, hts⟩ (K69_J0_checkIndex_df160 l G cy H.size i_0 h0) (va_cwS 2 hts (mm_gS mm_w282 mm_w283 mm_w261 mm_w284) rfl rfl rfl hs_J0_checkIndex_df160 ⟨by rw [hRf]; exact Nat.le_of_ble_eq_true rfl, by rw [hRl]; exact Nat.le_of_ble_eq_true rfl⟩) (mm_preS hK hZ hS hA hP hD [] rfl rfl) rfl rfl hl.1 rfl (lv_room (Nat.le_of_ble_eq_true rfl)) dJ1_charAt_3b067_3 ⟨by rw [hRc]; exact Nat.le_of_ble_eq_true rfl, by rw [hRs]; exact Nat.le_of_ble_eq_true rfl⟩) hP hD hS hA [] rfl (fun _ => rfl) ?_
  clear hP hD hS
  clear H locs
  intro _u H locs hw hP hD hS
  refine lv_aload_n hx hb dJ1_charAt_3b067_6 rfl (lv_at hl 0 rfl) ?_
  refine lv_iload_n hx hb dJ1_charAt_3b067_7 rfl (lv_at hl 1 rfl) ?_
  refine va_tb hx hb ((hZ.1.1 1 (by decide)).2.2.2) hS (mm_in h0 (by decide)) rfl dJ1_charAt_3b067_8 ?_
  refine lv_topi (fun v1 ev1 => ?_)
  refine lv_sipush (v := 255) hx hb dJ1_charAt_3b067_9 (by decide) ?_
  refine lv_iand hx hb dJ1_charAt_3b067_12 ?_
  refine lv_topi (fun v2 ev2 => ?_)
  have rv2 : mm_rg v2 0 255 := mm_andR ev2 mm_k255 (by decide)
  obtain ⟨v3, ev3⟩ : ∃ y : Int32, y = (v2.toUInt32 % 65536).toInt32 := ⟨_, rfl⟩
  refine lv_i2c hx hb dJ1_charAt_3b067_13 ev3.symm ?_
  have rv3 : mm_rg v3 0 65535 := mm_i2c ev3
  subst hAe
  rw [hQ]
  exact W.zret (v := v3) hx hb hr (mm_nch rv3) (fun t ht hW => ⟨⟨v3, (), rfl, rv3, by rw [ht]; exact hP, hK.warm hW, hD⟩, hS.F ht⟩) hS.2.2 dJ1_charAt_3b067_14

set_option maxHeartbeats 4000000 in
set_option maxRecDepth 100000 in
theorem K300_J0_charAt_5068e (l : Launch) (G : va_G) (cy : Nat → ClassId) (sz : Nat) (i_0 : Int32) (h0 : mm_rg i_0 0 3)  : mm_CI l yJ0_charAt_5068e (mm_ws yJ0_charAt_5068e cJ0_charAt_5068e 2 (some .char)) ({ frames := 3, cells := 0, slots := 0, locals := 64 } : Room) G cy sz [] [.ref (cy 102), .int i_0] (fun u : Unit => []) (fun (r : Int32) (u : Unit) => mm_rg r 0 65535) 0 0 := by
  refine mm_begin (lv := [(0, .ref (cy 102)), (1, .int i_0)]) (by decide) (Nat.le_of_ble_eq_true rfl) rfl ?_
  intro p e s m below meth c A ls R args Q H locs hRe hQ hAe hx hb hr hlocks hml hown hnm hts hsz hA hS hP hK hD hZ hl
  have hRf : R.frames = 3 := by rw [hRe]
  have hRl : R.locals = 64 := by rw [hRe]
  have hRc : R.cells = 0 := by rw [hRe]
  have hRs : R.slots = 0 := by rw [hRe]
  refine lv_aload_n hx hb dJ0_charAt_5068e_0 rfl (lv_at hl 0 rfl) ?_
  refine mm_finir (va_runV (As := []) (rest := []) ⟨hx, hb, hml, hown, hts⟩ (K290_J0_isLatin1_aae02 l G cy H.size  ) (cwV 0 hts (mm_gV mm_w274 mm_w275 mm_w276 mm_w261 mm_w277) rfl rfl rfl hd_J0_isLatin1_aae02 ⟨by rw [hRf]; exact Nat.le_of_ble_eq_true rfl, by rw [hRl]; exact Nat.le_of_ble_eq_true rfl⟩) (mm_preVS hK hZ hS hA hP hD [] rfl rfl 1 (by decide)) rfl rfl hl.1 rfl (lv_room (Nat.le_of_ble_eq_true rfl)) dJ0_charAt_5068e_1 ⟨by rw [hRc]; exact Nat.le_of_ble_eq_true rfl, by rw [hRs]; exact Nat.le_of_ble_eq_true rfl⟩) hP hD hS hA [] rfl (fun _ => rfl) ?_
  clear hP hD hS
  clear H locs
  intro v1 _u H locs hw hP hD hS
  subst hw
  refine lv_if_eq (tgt := 16) hx hb dJ0_charAt_5068e_4 (by decide) (fun c2 => ?_) (fun c2 => ?_)
  · exact mm_eqN c2.symm mm_k0 mm_k1 (by decide)
  · refine lv_aload_n hx hb dJ0_charAt_5068e_7 rfl (lv_at hl 0 rfl) ?_
    refine vk_getf hx hb ((hZ.1.1 1 (by decide)).2.2.1) hS hown (mm_h hts mm_w263) (fun _ h9 => h9) dJ0_charAt_5068e_8 ?_
    refine W.eq (g2 := F0 m 11 ls [.ref (cy 103)]) rfl ?_
    refine lv_iload_n hx hb dJ0_charAt_5068e_11 rfl (lv_at hl 1 rfl) ?_
    refine mm_finir (va_runS (As := [.ref (cy 103), .int i_0]) (rest := []) ⟨hx, hb, hml, hown, hts⟩ (K299_J1_charAt_3b067 l G cy H.size i_0 h0) (va_cwS 2 hts (mm_gS mm_w278 mm_w279 mm_w280 mm_w281) rfl rfl rfl hs_J1_charAt_3b067 ⟨by rw [hRf]; exact Nat.le_of_ble_eq_true rfl, by rw [hRl]; exact Nat.le_of_ble_eq_true rfl⟩) (mm_preS hK hZ hS hA hP hD [] rfl rfl) rfl rfl hl.1 rfl (lv_room (Nat.le_of_ble_eq_true rfl)) dJ0_charAt_5068e_12 ⟨by rw [hRc]; exact Nat.le_of_ble_eq_true rfl, by rw [hRs]; exact Nat.le_of_ble_eq_true rfl⟩) hP hD hS hA [] rfl (fun _ => rfl) ?_
    clear hP hD hS
    clear H locs
    intro v3 _u H locs hw hP hD hS
    have w4 := hw
    subst hAe
    rw [hQ]
    exact W.zret (v := v3) hx hb hr (mm_nch w4) (fun t ht hW => ⟨⟨v3, (), rfl, w4, by rw [ht]; exact hP, hK.warm hW, hD⟩, hS.F ht⟩) hS.2.2 dJ0_charAt_5068e_15

set_option maxHeartbeats 4000000 in
set_option maxRecDepth 100000 in
theorem K301_X7_isName (l : Launch) (G : va_G) (cy : Nat → ClassId) (sz : Nat) (a_0 : Nat) (a_1 : Nat) (a_2 : Nat) (i_0 : Int32) (f_0 : Nat → Int32) (a_3 : Nat) (i_1 : Int32) (i_2 : Int32) (i_3 : Int32) (i_4 : Int32) (i_5 : Int32) (i_6 : Int32) (h0 : mm_rg i_0 0 600) (h1 : mm_ar f_0 (-128) 127) (h2 : mm_rg i_3 0 5) (h3 : mm_rg i_4 0 600) (h4 : mm_rg i_5 0 600)  : mm_CI l yX7_isName (mm_ws yX7_isName cX7_isName 4 (some .boolean)) ({ frames := 4, cells := 0, slots := 0, locals := 85 } : Room) G cy sz [(a_1, .inr (9, [.ref a_2, .int i_0])), (a_2, .inl (cy 0, 600, .inl f_0)), (a_0, .inr (7, [.ref a_1, .ref a_3, .int i_1, .int i_2, .int i_3, .int i_4, .int i_5, .int i_6]))] [.ref a_0, .ref (cy 102)] (fun u : Unit => [(a_1, .inr (9, [.ref a_2, .int i_0])), (a_2, .inl (cy 0, 600, .inl f_0)), (a_0, .inr (7, [.ref a_1, .ref a_3, .int i_1, .int i_2, .int i_3, .int i_4, .int i_5, .int i_6]))]) (fun (r : Int32) (u : Unit) => ((0 = r) ∨ (1 = r))) 0 0 := by
  refine mm_begin (lv := [(0, .ref a_0), (1, .ref (cy 102))]) (by decide) (Nat.le_of_ble_eq_true rfl) rfl ?_
  intro p e s m below meth c A ls R args Q H locs hRe hQ hAe hx hb hr hlocks hml hown hnm hts hsz hA hS hP hK hD hZ hl
  have hRf : R.frames = 4 := by rw [hRe]
  have hRl : R.locals = 85 := by rw [hRe]
  have hRc : R.cells = 0 := by rw [hRe]
  have hRs : R.slots = 0 := by rw [hRe]
  refine lv_aload_n hx hb dX7_isName_0 rfl (lv_at hl 1 rfl) ?_
  refine mm_finir (va_runV (As := []) (rest := []) ⟨hx, hb, hml, hown, hts⟩ (K289_J0_length_8abf5 l G cy H.size  ) (cwV 0 hts (mm_gV mm_w258 mm_w259 mm_w260 mm_w261 mm_w262) rfl rfl rfl hd_J0_length_8abf5 ⟨by rw [hRf]; exact Nat.le_of_ble_eq_true rfl, by rw [hRl]; exact Nat.le_of_ble_eq_true rfl⟩) (mm_preVS hK hZ hS hA hP hD [] rfl rfl 1 (by decide)) rfl rfl hl.1 rfl (lv_room (Nat.le_of_ble_eq_true rfl)) dX7_isName_1 ⟨by rw [hRc]; exact Nat.le_of_ble_eq_true rfl, by rw [hRs]; exact Nat.le_of_ble_eq_true rfl⟩) hP hD hS hA [] rfl (fun _ => rfl) ?_
  clear hP hD hS
  clear H locs
  intro v1 _u H locs hw hP hD hS
  subst hw
  refine lv_istore_n (lv' := [(2, .int 4), (0, .ref a_0), (1, .ref (cy 102))]) hx hb dX7_isName_4 rfl hl (by decide) rfl ?_
  clear hl
  clear ls
  intro ls hl
  refine lv_aload_n hx hb dX7_isName_5 rfl (lv_at hl 1 rfl) ?_
  refine va_get (D := G) (ci := 7) (v := .int i_3) (C := RX7) (T := TX7) (N := 8) hx hb hts (mm_i inlX7) hown hK.1 hP 2 rfl rfl 4 (by decide) (mm_h hts mm_w207) (fun _ h9 => h9) rfl dX7_isName_6 ?_
  refine lv_iconst (v := 2) hx hb dX7_isName_9 (by decide) ?_
  refine lv_icmp_ne (tgt := 40) hx hb dX7_isName_10 (by decide) (fun c2 => ?_) (fun c2 => ?_)
  · refine lv_iconst (v := 0) hx hb dX7_isName_40 (by decide) ?_
    subst hAe
    rw [hQ]
    exact W.zret (v := 0) hx hb hr rfl (fun t ht hW => ⟨⟨0, (), rfl, (Or.inl rfl), by rw [ht]; exact hP, hK.warm hW, hD⟩, hS.F ht⟩) hS.2.2 dX7_isName_41
  · have q3 := mm_eqI (lo := 2) (hi := 2) c2 h2 mm_k2 (by decide)
    refine lv_aload_n hx hb dX7_isName_13 rfl (lv_at hl 1 rfl) ?_
    refine va_get (D := G) (ci := 7) (v := .int i_5) (C := RX7) (T := TX7) (N := 8) hx hb hts (mm_i inlX7) hown hK.1 hP 2 rfl rfl 6 (by decide) (mm_h hts mm_w206) (fun _ h9 => h9) rfl dX7_isName_14 ?_
    refine lv_aload_n hx hb dX7_isName_17 rfl (lv_at hl 1 rfl) ?_
    refine va_get (D := G) (ci := 7) (v := .int i_4) (C := RX7) (T := TX7) (N := 8) hx hb hts (mm_i inlX7) hown hK.1 hP 2 rfl rfl 5 (by decide) (mm_h hts mm_w232) (fun _ h9 => h9) rfl dX7_isName_18 ?_
    refine lv_isub hx hb dX7_isName_21 ?_
    refine lv_topi (fun v4 ev4 => ?_)
    have rv4 : mm_rg v4 (-600) 600 := mm_sub ev4 h4 h3 (by decide) (by decide)
    have tv4 := mm_subE ev4 h4 h3 (by decide)
    refine lv_iload_n hx hb dX7_isName_22 rfl (lv_at hl 0 rfl) ?_
    refine lv_icmp_ne (tgt := 40) hx hb dX7_isName_23 (by decide) (fun c5 => ?_) (fun c5 => ?_)
    · refine lv_iconst (v := 0) hx hb dX7_isName_40 (by decide) ?_
      subst hAe
      rw [hQ]
      exact W.zret (v := 0) hx hb hr rfl (fun t ht hW => ⟨⟨0, (), rfl, (Or.inl rfl), by rw [ht]; exact hP, hK.warm hW, hD⟩, hS.F ht⟩) hS.2.2 dX7_isName_41
    · have q6 := mm_eqI (lo := 4) (hi := 4) c5 rv4 mm_k4 (by decide)
      have q7 : mm_rg i_4 0 596 := mm_unsubY tv4 q6 h4 h3 (by decide)
      have q8 : mm_rg i_5 4 600 := mm_unsubX tv4 q6 q7 h4 (by decide)
      refine lv_aload_n hx hb dX7_isName_26 rfl (lv_at hl 1 rfl) ?_
      refine va_get (D := G) (ci := 7) (v := .int i_5) (C := RX7) (T := TX7) (N := 8) hx hb hts (mm_i inlX7) hown hK.1 hP 2 rfl rfl 6 (by decide) (mm_h hts mm_w206) (fun _ h9 => h9) rfl dX7_isName_27 ?_
      refine lv_aload_n hx hb dX7_isName_30 rfl (lv_at hl 1 rfl) ?_
      refine va_get (D := G) (ci := 7) (v := .ref a_1) (C := RX7) (T := TX7) (N := 8) hx hb hts (mm_i inlX7) hown hK.1 hP 2 rfl rfl 0 (by decide) (mm_h hts mm_w67) (fun _ h9 => h9) rfl dX7_isName_31 ?_
      refine va_get (D := G) (ci := 9) (v := .int i_0) (C := RX9) (T := TX9) (N := 2) hx hb hts (mm_i inlX9) hown hK.1 hP 0 rfl rfl 1 (by decide) (mm_h hts mm_w231) (fun _ h9 => h9) rfl dX7_isName_34 ?_
      refine lv_icmp_le (tgt := 42) hx hb dX7_isName_37 (by decide) (fun c9 => ?_) (fun c9 => ?_)
      · have q10 := mm_leR (mm_le c9) q8 h0
        refine lv_iconst (v := 0) hx hb dX7_isName_42 (by decide) ?_
        refine lv_istore_n (lv' := [(3, .int 0), (2, .int 4), (0, .ref a_0), (1, .ref (cy 102))]) hx hb dX7_isName_43 rfl hl (by decide) rfl ?_
        clear hl
        clear ls
        intro ls hl
        have L44_71 : ∀ (n : Nat) (x44_3_71 : Int32), mm_rg x44_3_71 0 4 → (4 - x44_3_71.toInt).toNat < n → ∀ (H : Heap) (locs : List Loc), va_P G vwCl [(a_1, .inr (9, [.ref a_2, .int i_0])), (a_2, .inl (cy 0, 600, .inl f_0)), (a_0, .inr (7, [.ref a_1, .ref a_3, .int i_1, .int i_2, .int i_3, .int i_4, .int i_5, .int i_6]))] H → va_D A [(a_1, .inr (9, [.ref a_2, .int i_0])), (a_2, .inl (cy 0, 600, .inl f_0)), (a_0, .inr (7, [.ref a_1, .ref a_3, .int i_1, .int i_2, .int i_3, .int i_4, .int i_5, .int i_6]))] → va_S A s.heap H locs → ∀ (ls : Array Slot), lv_has ls 4 [(3, .int x44_3_71), (2, .int 4), (0, .ref a_0), (1, .ref (cy 102))] → W p l e R s m args below meth c H locs 0 0 Q (F0 m 44 ls []) := by
          intro n
          induction n with
          | zero => intro x44_3_71 rx44_3_71 hm; exact absurd hm (Nat.not_lt_zero _)
          | succ n ih44 =>
            intro x44_3_71 rx44_3_71 hm44 H locs hP hD hS ls hl
            refine lv_iload_n hx hb dX7_isName_44 rfl (lv_at hl 0 rfl) ?_
            refine lv_iload_n hx hb dX7_isName_45 rfl (lv_at hl 1 rfl) ?_
            refine lv_icmp_ge (tgt := 79) hx hb dX7_isName_46 (by decide) (fun c73 => ?_) (fun c73 => ?_)
            · have q74 := mm_leR (mm_le c73) mm_k4 rx44_3_71
              refine lv_iconst (v := 1) hx hb dX7_isName_79 (by decide) ?_
              subst hAe
              rw [hQ]
              exact W.zret (v := 1) hx hb hr rfl (fun t ht hW => ⟨⟨1, (), rfl, (Or.inr rfl), by rw [ht]; exact hP, hK.warm hW, hD⟩, hS.F ht⟩) hS.2.2 dX7_isName_80
            · have q75 := mm_ltL (h := 3) (mm_nle c73) rx44_3_71 mm_k4 (by decide)
              refine lv_aload_n hx hb dX7_isName_49 rfl (lv_at hl 2 rfl) ?_
              refine va_get (D := G) (ci := 7) (v := .ref a_1) (C := RX7) (T := TX7) (N := 8) hx hb hts (mm_i inlX7) hown hK.1 hP 2 rfl rfl 0 (by decide) (mm_h hts mm_w67) (fun _ h9 => h9) rfl dX7_isName_50 ?_
              refine va_get (D := G) (ci := 9) (v := .ref a_2) (C := RX9) (T := TX9) (N := 2) hx hb hts (mm_i inlX9) hown hK.1 hP 0 rfl rfl 0 (by decide) (mm_h hts mm_w238) (fun _ h9 => h9) rfl dX7_isName_53 ?_
              refine lv_aload_n hx hb dX7_isName_56 rfl (lv_at hl 2 rfl) ?_
              refine va_get (D := G) (ci := 7) (v := .int i_4) (C := RX7) (T := TX7) (N := 8) hx hb hts (mm_i inlX7) hown hK.1 hP 2 rfl rfl 5 (by decide) (mm_h hts mm_w232) (fun _ h9 => h9) rfl dX7_isName_57 ?_
              refine lv_iload_n hx hb dX7_isName_60 rfl (lv_at hl 0 rfl) ?_
              refine lv_iadd hx hb dX7_isName_61 ?_
              refine lv_topi (fun v76 ev76 => ?_)
              have rv76 : mm_rg v76 0 599 := mm_add ev76 q7 q75 (by decide) (by decide)
              have tv76 := mm_addE ev76 q7 q75 (by decide)
              refine va_bald hx hb hK.1 hP 1 0 rfl rfl (mm_in rv76 (by decide)) dX7_isName_62 ?_
              refine lv_topi (fun v77 ev77 => ?_)
              have rv77 : mm_rg v77 (-128) 127 := mm_eqv ev77 (h1 _)
              refine lv_aload_n hx hb dX7_isName_63 rfl (lv_at hl 3 rfl) ?_
              refine lv_iload_n hx hb dX7_isName_64 rfl (lv_at hl 0 rfl) ?_
              refine mm_finir (va_runV (As := [.int x44_3_71]) (rest := [.int v77]) ⟨hx, hb, hml, hown, hts⟩ (K300_J0_charAt_5068e l G cy H.size x44_3_71 q75) (cwV 1 hts (mm_gV mm_w270 mm_w271 mm_w272 mm_w261 mm_w273) rfl rfl rfl hd_J0_charAt_5068e ⟨by rw [hRf]; exact Nat.le_of_ble_eq_true rfl, by rw [hRl]; exact Nat.le_of_ble_eq_true rfl⟩) (mm_preVS hK hZ hS hA hP hD [] rfl rfl 1 (by decide)) rfl rfl hl.1 rfl (lv_room (Nat.le_of_ble_eq_true rfl)) dX7_isName_65 ⟨by rw [hRc]; exact Nat.le_of_ble_eq_true rfl, by rw [hRs]; exact Nat.le_of_ble_eq_true rfl⟩) hP hD hS hA [] rfl (fun _ => rfl) ?_
              clear hP hD hS
              clear H locs
              intro v78 _u H locs hw hP hD hS
              have w79 := hw
              refine lv_icmp_eq (tgt := 73) hx hb dX7_isName_68 (by decide) (fun c80 => ?_) (fun c80 => ?_)
              · have q81 := mm_eqI (lo := 0) (hi := 127) c80 rv77 w79 (by decide)
                have q82 := mm_eqI (lo := 0) (hi := 127) c80.symm w79 rv77 (by decide)
                obtain ⟨v83, ev83⟩ : ∃ y : Int32, y = x44_3_71 + 1 := ⟨_, rfl⟩
                refine lv_iinc (v := v83) (lv' := [(3, .int v83), (2, .int 4), (0, .ref a_0), (1, .ref (cy 102))]) hx hb dX7_isName_73 hl (k := 0) rfl (by rw [ev83]; rfl) (by decide) rfl ?_
                clear hl
                clear ls
                intro ls hl
                have rv83 : mm_rg v83 1 4 := mm_add ev83 q75 mm_k1 (by decide) (by decide)
                have tv83 := mm_addEc ev83 q75 mm_k1 (by decide) (k := 1) (by decide)
                refine lv_goto (tgt := 44) hx hb dX7_isName_76 (by decide) ?_
                exact ih44 v83 (mm_wk rv83 (by decide)) (mm_mu hm44 tv83 (by decide) (rv83).2 (by decide)) H locs hP hD hS ls (lv_sub hl [0, 1, 2, 3] rfl)
              · refine lv_iconst (v := 0) hx hb dX7_isName_71 (by decide) ?_
                subst hAe
                rw [hQ]
                exact W.zret (v := 0) hx hb hr rfl (fun t ht hW => ⟨⟨0, (), rfl, (Or.inl rfl), by rw [ht]; exact hP, hK.warm hW, hD⟩, hS.F ht⟩) hS.2.2 dX7_isName_72
        exact L44_71 _ 0 (mm_wk mm_k0 (by decide)) (Nat.lt_succ_self _) H locs hP hD hS ls (lv_sub hl [0, 1, 2, 3] rfl)
      · have q84 := mm_ltL (h := 599) (mm_nle c9) h0 q8 (by decide)
        refine lv_iconst (v := 0) hx hb dX7_isName_40 (by decide) ?_
        subst hAe
        rw [hQ]
        exact W.zret (v := 0) hx hb hr rfl (fun t ht hW => ⟨⟨0, (), rfl, (Or.inl rfl), by rw [ht]; exact hP, hK.warm hW, hD⟩, hS.F ht⟩) hS.2.2 dX7_isName_41

set_option maxHeartbeats 4000000 in
set_option maxRecDepth 100000 in
theorem K302_X7_takeNumber (l : Launch) (G : va_G) (cy : Nat → ClassId) (sz : Nat) (a_0 : Nat) (a_1 : Nat) (a_2 : Nat) (i_0 : Int32) (f_0 : Nat → Int32) (a_3 : Nat) (i_1 : Int32) (i_2 : Int32) (i_3 : Int32) (i_4 : Int32) (i_5 : Int32) (i_6 : Int32) (h0 : mm_rg i_0 0 600) (h1 : mm_ar f_0 (-128) 127) (h2 : mm_rg i_1 0 3) (h3 : mm_rg i_3 0 5) (h4 : mm_rg i_4 0 600) (h5 : mm_rg i_5 0 600)  : mm_CI l yX7_takeNumber (mm_ws yX7_takeNumber cX7_takeNumber 4 (some .int)) ({ frames := 2, cells := 0, slots := 0, locals := 45 } : Room) G cy sz [(a_1, .inr (9, [.ref a_2, .int i_0])), (a_2, .inl (cy 0, 600, .inl f_0)), (a_0, .inr (7, [.ref a_1, .ref a_3, .int i_1, .int i_2, .int i_3, .int i_4, .int i_5, .int i_6]))] [.ref a_0, .int 0, .int 10] (fun u : Int32 × Int32 × Int32 × Int32 × Int32 × Int32 => [(a_1, .inr (9, [.ref a_2, .int i_0])), (a_2, .inl (cy 0, 600, .inl f_0)), (a_0, .inr (7, [.ref a_1, .ref a_3, .int u.1, .int u.2.1, .int u.2.2.1, .int u.2.2.2.1, .int u.2.2.2.2.1, .int u.2.2.2.2.2]))]) (fun (r : Int32) (u : Int32 × Int32 × Int32 × Int32 × Int32 × Int32) => mm_rg u.1 0 3 ∧ mm_rg u.2.2.1 0 5 ∧ mm_rg u.2.2.2.1 0 600 ∧ mm_rg u.2.2.2.2.1 0 600 ∧ mm_rg r 0 10) 0 0 := by
  refine mm_begin (lv := [(0, .ref a_0), (1, .int 0), (2, .int 10)]) (by decide) (Nat.le_of_ble_eq_true rfl) rfl ?_
  intro p e s m below meth c A ls R args Q H locs hRe hQ hAe hx hb hr hlocks hml hown hnm hts hsz hA hS hP hK hD hZ hl
  have hRf : R.frames = 2 := by rw [hRe]
  have hRl : R.locals = 45 := by rw [hRe]
  have hRc : R.cells = 0 := by rw [hRe]
  have hRs : R.slots = 0 := by rw [hRe]
  refine lv_aload_n hx hb dX7_takeNumber_0 rfl (lv_at hl 0 rfl) ?_
  refine va_get (D := G) (ci := 7) (v := .int i_3) (C := RX7) (T := TX7) (N := 8) hx hb hts (mm_i inlX7) hown hK.1 hP 2 rfl rfl 4 (by decide) (mm_h hts mm_w207) (fun _ h9 => h9) rfl dX7_takeNumber_1 ?_
  refine lv_iconst (v := 3) hx hb dX7_takeNumber_4 (by decide) ?_
  refine lv_icmp_eq (tgt := 16) hx hb dX7_takeNumber_5 (by decide) (fun c1 => ?_) (fun c1 => ?_)
  · have q2 := mm_eqI (lo := 3) (hi := 3) c1 h3 mm_k3 (by decide)
    refine lv_aload_n hx hb dX7_takeNumber_16 rfl (lv_at hl 0 rfl) ?_
    refine va_get (D := G) (ci := 7) (v := .int i_6) (C := RX7) (T := TX7) (N := 8) hx hb hts (mm_i inlX7) hown hK.1 hP 2 rfl rfl 7 (by decide) (mm_h hts mm_w233) (fun _ h9 => h9) rfl dX7_takeNumber_17 ?_
    refine lv_iload_n hx hb dX7_takeNumber_20 rfl (lv_at hl 1 rfl) ?_
    refine lv_icmp_lt (tgt := 32) hx hb dX7_takeNumber_21 (by decide) (fun c3 => ?_) (fun c3 => ?_)
    · have q4 := mm_ltL (h := (-1)) (mm_lt c3) (mm_top i_6) mm_k0 (by decide)
      refine lv_aload_n hx hb dX7_takeNumber_32 rfl (lv_at hl 0 rfl) ?_
      refine lv_iconst (v := 2) hx hb dX7_takeNumber_33 (by decide) ?_
      refine mm_finv (va_runV (As := [.int 2]) (rest := []) ⟨hx, hb, hml, hown, hts⟩ (K102_X7_blame l G cy H.size a_0 a_1 a_3 i_1 i_2 i_3 i_4 i_5 i_6 h2 h4) (cwV 1 hts (mm_gV mm_w311 mm_w312 mm_w313 mm_w19 mm_w314) rfl rfl rfl hd_X7_blame ⟨by rw [hRf]; exact Nat.le_of_ble_eq_true rfl, by rw [hRl]; exact Nat.le_of_ble_eq_true rfl⟩) (mm_preV hK hZ hS hA hP hD [2] rfl rfl 2 rfl rfl rfl) rfl rfl hl.1 rfl (lv_room (Nat.le_of_ble_eq_true rfl)) dX7_takeNumber_34 ⟨by rw [hRc]; exact Nat.le_of_ble_eq_true rfl, by rw [hRs]; exact Nat.le_of_ble_eq_true rfl⟩) hP hD hS hA (fun u : Int32 × Int32 => [(a_1, .inr (9, [.ref a_2, .int i_0])), (a_2, .inl (cy 0, 600, .inl f_0)), (a_0, .inr (7, [.ref a_1, .ref a_3, .int u.1, .int u.2, .int i_3, .int i_4, .int i_5, .int i_6]))]) [2] [0, 1] (n := 3) (fun _ => rfl) (by decide +kernel) (by decide +kernel) rfl (fun _ => rfl) (wr := [(a_1, .inr (9, [.ref a_2, .int i_0])), (a_2, .inl (cy 0, 600, .inl f_0))]) rfl (fun _ => rfl) (fun _ => rfl) ?_
      clear hP hD hS
      clear H locs
      intro u
      obtain ⟨n5, n6⟩ := u
      intro H locs hw (hP : va_P G vwCl [(a_1, .inr (9, [.ref a_2, .int i_0])), (a_2, .inl (cy 0, 600, .inl f_0)), (a_0, .inr (7, [.ref a_1, .ref a_3, .int n5, .int n6, .int i_3, .int i_4, .int i_5, .int i_6]))] H) (hD : va_D A [(a_1, .inr (9, [.ref a_2, .int i_0])), (a_2, .inl (cy 0, 600, .inl f_0)), (a_0, .inr (7, [.ref a_1, .ref a_3, .int n5, .int n6, .int i_3, .int i_4, .int i_5, .int i_6]))]) hS
      have w7 := hw
      refine lv_aload_n hx hb dX7_takeNumber_37 rfl (lv_at hl 0 rfl) ?_
      refine va_get (D := G) (ci := 7) (v := .int n5) (C := RX7) (T := TX7) (N := 8) hx hb hts (mm_i inlX7) hown hK.1 hP 2 rfl rfl 2 (by decide) (mm_h hts mm_w205) (fun _ h9 => h9) rfl dX7_takeNumber_38 ?_
      refine lv_if_eq (tgt := 46) hx hb dX7_takeNumber_41 (by decide) (fun c8 => ?_) (fun c8 => ?_)
      · exact mm_eqN c8.symm mm_k0 w7 (by decide)
      · refine lv_iload_n hx hb dX7_takeNumber_44 rfl (lv_at hl 1 rfl) ?_
        subst hAe
        rw [hQ]
        exact W.iret (v := 0) hx hb hr (fun t ht hW => ⟨⟨0, (n5, n6, i_3, i_4, i_5, i_6), rfl, ⟨(mm_wk w7 (by decide)), (mm_wk q2 (by decide)), h4, h5, (mm_wk mm_k0 (by decide))⟩, by rw [ht]; exact hP, hK.warm hW, hD⟩, hS.F ht⟩) hS.2.2 dX7_takeNumber_45
    · have q9 := mm_leR (mm_nlt c3) mm_k0 (mm_top i_6)
      refine lv_aload_n hx hb dX7_takeNumber_24 rfl (lv_at hl 0 rfl) ?_
      refine va_get (D := G) (ci := 7) (v := .int i_6) (C := RX7) (T := TX7) (N := 8) hx hb hts (mm_i inlX7) hown hK.1 hP 2 rfl rfl 7 (by decide) (mm_h hts mm_w233) (fun _ h9 => h9) rfl dX7_takeNumber_25 ?_
      refine lv_iload_n hx hb dX7_takeNumber_28 rfl (lv_at hl 2 rfl) ?_
      refine lv_icmp_le (tgt := 37) hx hb dX7_takeNumber_29 (by decide) (fun c10 => ?_) (fun c10 => ?_)
      · have q11 := mm_leL (mm_le c10) q9 mm_k10
        refine lv_aload_n hx hb dX7_takeNumber_37 rfl (lv_at hl 0 rfl) ?_
        refine va_get (D := G) (ci := 7) (v := .int i_1) (C := RX7) (T := TX7) (N := 8) hx hb hts (mm_i inlX7) hown hK.1 hP 2 rfl rfl 2 (by decide) (mm_h hts mm_w205) (fun _ h9 => h9) rfl dX7_takeNumber_38 ?_
        refine lv_if_eq (tgt := 46) hx hb dX7_takeNumber_41 (by decide) (fun c12 => ?_) (fun c12 => ?_)
        · have q13 := mm_eqI (lo := 0) (hi := 0) c12 h2 mm_k0 (by decide)
          refine lv_aload_n hx hb dX7_takeNumber_46 rfl (lv_at hl 0 rfl) ?_
          refine va_get (D := G) (ci := 7) (v := .int i_6) (C := RX7) (T := TX7) (N := 8) hx hb hts (mm_i inlX7) hown hK.1 hP 2 rfl rfl 7 (by decide) (mm_h hts mm_w233) (fun _ h9 => h9) rfl dX7_takeNumber_47 ?_
          refine lv_istore_n (lv' := [(3, .int i_6), (0, .ref a_0), (1, .int 0), (2, .int 10)]) hx hb dX7_takeNumber_50 rfl hl (by decide) rfl ?_
          clear hl
          clear ls
          intro ls hl
          refine lv_aload_n hx hb dX7_takeNumber_51 rfl (lv_at hl 1 rfl) ?_
          refine mm_finv (va_runV (As := []) (rest := []) ⟨hx, hb, hml, hown, hts⟩ (K9_X7_nextToken l G cy H.size a_0 a_1 a_2 i_0 f_0 a_3 i_1 i_2 i_3 i_4 i_5 i_6 h0 h1 (mm_wk q2 (by decide)) h4 h5) (cwV 0 hts (mm_gV mm_w227 mm_w228 mm_w229 mm_w19 mm_w230) rfl rfl rfl hd_X7_nextToken ⟨by rw [hRf]; exact Nat.le_of_ble_eq_true rfl, by rw [hRl]; exact Nat.le_of_ble_eq_true rfl⟩) (mm_preV hK hZ hS hA hP hD [0, 1, 2] rfl rfl 2 rfl rfl rfl) rfl rfl hl.1 rfl (lv_room (Nat.le_of_ble_eq_true rfl)) dX7_takeNumber_52 ⟨by rw [hRc]; exact Nat.le_of_ble_eq_true rfl, by rw [hRs]; exact Nat.le_of_ble_eq_true rfl⟩) hP hD hS hA (fun u : Int32 × Int32 × Int32 × Int32 => [(a_1, .inr (9, [.ref a_2, .int i_0])), (a_2, .inl (cy 0, 600, .inl f_0)), (a_0, .inr (7, [.ref a_1, .ref a_3, .int i_1, .int i_2, .int u.1, .int u.2.1, .int u.2.2.1, .int u.2.2.2]))]) [0, 1, 2] [] (n := 3) (fun _ => rfl) (by decide +kernel) (by decide +kernel) rfl (fun _ => rfl) (wr := []) rfl (fun _ => rfl) (fun _ => rfl) ?_
          clear hP hD hS
          clear H locs
          intro u
          obtain ⟨n14, n15, n16, n17⟩ := u
          intro H locs hw (hP : va_P G vwCl [(a_1, .inr (9, [.ref a_2, .int i_0])), (a_2, .inl (cy 0, 600, .inl f_0)), (a_0, .inr (7, [.ref a_1, .ref a_3, .int i_1, .int i_2, .int n14, .int n15, .int n16, .int n17]))] H) (hD : va_D A [(a_1, .inr (9, [.ref a_2, .int i_0])), (a_2, .inl (cy 0, 600, .inl f_0)), (a_0, .inr (7, [.ref a_1, .ref a_3, .int i_1, .int i_2, .int n14, .int n15, .int n16, .int n17]))]) hS
          obtain ⟨w18, w19, w20⟩ := hw
          refine lv_iload_n hx hb dX7_takeNumber_55 rfl (lv_at hl 0 rfl) ?_
          subst hAe
          rw [hQ]
          exact W.iret (v := i_6) hx hb hr (fun t ht hW => ⟨⟨i_6, (i_1, i_2, n14, n15, n16, n17), rfl, ⟨(mm_wk q13 (by decide)), w18, w19, w20, q11⟩, by rw [ht]; exact hP, hK.warm hW, hD⟩, hS.F ht⟩) hS.2.2 dX7_takeNumber_56
        · have q21 := mm_neL (lo := 1) (mm_ne c12) h2 mm_k0 (by decide) (by decide)
          refine lv_iload_n hx hb dX7_takeNumber_44 rfl (lv_at hl 1 rfl) ?_
          subst hAe
          rw [hQ]
          exact W.iret (v := 0) hx hb hr (fun t ht hW => ⟨⟨0, (i_1, i_2, i_3, i_4, i_5, i_6), rfl, ⟨(mm_wk q21 (by decide)), (mm_wk q2 (by decide)), h4, h5, (mm_wk mm_k0 (by decide))⟩, by rw [ht]; exact hP, hK.warm hW, hD⟩, hS.F ht⟩) hS.2.2 dX7_takeNumber_45
      · have q22 := mm_ltR (lo := 11) (mm_nle c10) mm_k10 q9 (by decide)
        refine lv_aload_n hx hb dX7_takeNumber_32 rfl (lv_at hl 0 rfl) ?_
        refine lv_iconst (v := 2) hx hb dX7_takeNumber_33 (by decide) ?_
        refine mm_finv (va_runV (As := [.int 2]) (rest := []) ⟨hx, hb, hml, hown, hts⟩ (K102_X7_blame l G cy H.size a_0 a_1 a_3 i_1 i_2 i_3 i_4 i_5 i_6 h2 h4) (cwV 1 hts (mm_gV mm_w311 mm_w312 mm_w313 mm_w19 mm_w314) rfl rfl rfl hd_X7_blame ⟨by rw [hRf]; exact Nat.le_of_ble_eq_true rfl, by rw [hRl]; exact Nat.le_of_ble_eq_true rfl⟩) (mm_preV hK hZ hS hA hP hD [2] rfl rfl 2 rfl rfl rfl) rfl rfl hl.1 rfl (lv_room (Nat.le_of_ble_eq_true rfl)) dX7_takeNumber_34 ⟨by rw [hRc]; exact Nat.le_of_ble_eq_true rfl, by rw [hRs]; exact Nat.le_of_ble_eq_true rfl⟩) hP hD hS hA (fun u : Int32 × Int32 => [(a_1, .inr (9, [.ref a_2, .int i_0])), (a_2, .inl (cy 0, 600, .inl f_0)), (a_0, .inr (7, [.ref a_1, .ref a_3, .int u.1, .int u.2, .int i_3, .int i_4, .int i_5, .int i_6]))]) [2] [0, 1] (n := 3) (fun _ => rfl) (by decide +kernel) (by decide +kernel) rfl (fun _ => rfl) (wr := [(a_1, .inr (9, [.ref a_2, .int i_0])), (a_2, .inl (cy 0, 600, .inl f_0))]) rfl (fun _ => rfl) (fun _ => rfl) ?_
        clear hP hD hS
        clear H locs
        intro u
        obtain ⟨n23, n24⟩ := u
        intro H locs hw (hP : va_P G vwCl [(a_1, .inr (9, [.ref a_2, .int i_0])), (a_2, .inl (cy 0, 600, .inl f_0)), (a_0, .inr (7, [.ref a_1, .ref a_3, .int n23, .int n24, .int i_3, .int i_4, .int i_5, .int i_6]))] H) (hD : va_D A [(a_1, .inr (9, [.ref a_2, .int i_0])), (a_2, .inl (cy 0, 600, .inl f_0)), (a_0, .inr (7, [.ref a_1, .ref a_3, .int n23, .int n24, .int i_3, .int i_4, .int i_5, .int i_6]))]) hS
        have w25 := hw
        refine lv_aload_n hx hb dX7_takeNumber_37 rfl (lv_at hl 0 rfl) ?_
        refine va_get (D := G) (ci := 7) (v := .int n23) (C := RX7) (T := TX7) (N := 8) hx hb hts (mm_i inlX7) hown hK.1 hP 2 rfl rfl 2 (by decide) (mm_h hts mm_w205) (fun _ h9 => h9) rfl dX7_takeNumber_38 ?_
        refine lv_if_eq (tgt := 46) hx hb dX7_takeNumber_41 (by decide) (fun c26 => ?_) (fun c26 => ?_)
        · exact mm_eqN c26.symm mm_k0 w25 (by decide)
        · refine lv_iload_n hx hb dX7_takeNumber_44 rfl (lv_at hl 1 rfl) ?_
          subst hAe
          rw [hQ]
          exact W.iret (v := 0) hx hb hr (fun t ht hW => ⟨⟨0, (n23, n24, i_3, i_4, i_5, i_6), rfl, ⟨(mm_wk w25 (by decide)), (mm_wk q2 (by decide)), h4, h5, (mm_wk mm_k0 (by decide))⟩, by rw [ht]; exact hP, hK.warm hW, hD⟩, hS.F ht⟩) hS.2.2 dX7_takeNumber_45
  · refine lv_aload_n hx hb dX7_takeNumber_8 rfl (lv_at hl 0 rfl) ?_
    refine lv_iconst (v := 1) hx hb dX7_takeNumber_9 (by decide) ?_
    refine mm_finv (va_runV (As := [.int 1]) (rest := []) ⟨hx, hb, hml, hown, hts⟩ (K101_X7_blame l G cy H.size a_0 a_1 a_3 i_1 i_2 i_3 i_4 i_5 i_6 h2 h4) (cwV 1 hts (mm_gV mm_w311 mm_w312 mm_w313 mm_w19 mm_w314) rfl rfl rfl hd_X7_blame ⟨by rw [hRf]; exact Nat.le_of_ble_eq_true rfl, by rw [hRl]; exact Nat.le_of_ble_eq_true rfl⟩) (mm_preV hK hZ hS hA hP hD [2] rfl rfl 2 rfl rfl rfl) rfl rfl hl.1 rfl (lv_room (Nat.le_of_ble_eq_true rfl)) dX7_takeNumber_10 ⟨by rw [hRc]; exact Nat.le_of_ble_eq_true rfl, by rw [hRs]; exact Nat.le_of_ble_eq_true rfl⟩) hP hD hS hA (fun u : Int32 × Int32 => [(a_1, .inr (9, [.ref a_2, .int i_0])), (a_2, .inl (cy 0, 600, .inl f_0)), (a_0, .inr (7, [.ref a_1, .ref a_3, .int u.1, .int u.2, .int i_3, .int i_4, .int i_5, .int i_6]))]) [2] [0, 1] (n := 3) (fun _ => rfl) (by decide +kernel) (by decide +kernel) rfl (fun _ => rfl) (wr := [(a_1, .inr (9, [.ref a_2, .int i_0])), (a_2, .inl (cy 0, 600, .inl f_0))]) rfl (fun _ => rfl) (fun _ => rfl) ?_
    clear hP hD hS
    clear H locs
    intro u
    obtain ⟨n27, n28⟩ := u
    intro H locs hw (hP : va_P G vwCl [(a_1, .inr (9, [.ref a_2, .int i_0])), (a_2, .inl (cy 0, 600, .inl f_0)), (a_0, .inr (7, [.ref a_1, .ref a_3, .int n27, .int n28, .int i_3, .int i_4, .int i_5, .int i_6]))] H) (hD : va_D A [(a_1, .inr (9, [.ref a_2, .int i_0])), (a_2, .inl (cy 0, 600, .inl f_0)), (a_0, .inr (7, [.ref a_1, .ref a_3, .int n27, .int n28, .int i_3, .int i_4, .int i_5, .int i_6]))]) hS
    have w29 := hw
    refine lv_goto (tgt := 37) hx hb dX7_takeNumber_13 (by decide) ?_
    refine lv_aload_n hx hb dX7_takeNumber_37 rfl (lv_at hl 0 rfl) ?_
    refine va_get (D := G) (ci := 7) (v := .int n27) (C := RX7) (T := TX7) (N := 8) hx hb hts (mm_i inlX7) hown hK.1 hP 2 rfl rfl 2 (by decide) (mm_h hts mm_w205) (fun _ h9 => h9) rfl dX7_takeNumber_38 ?_
    refine lv_if_eq (tgt := 46) hx hb dX7_takeNumber_41 (by decide) (fun c30 => ?_) (fun c30 => ?_)
    · exact mm_eqN c30.symm mm_k0 w29 (by decide)
    · refine lv_iload_n hx hb dX7_takeNumber_44 rfl (lv_at hl 1 rfl) ?_
      subst hAe
      rw [hQ]
      exact W.iret (v := 0) hx hb hr (fun t ht hW => ⟨⟨0, (n27, n28, i_3, i_4, i_5, i_6), rfl, ⟨(mm_wk w29 (by decide)), h3, h4, h5, (mm_wk mm_k0 (by decide))⟩, by rw [ht]; exact hP, hK.warm hW, hD⟩, hS.F ht⟩) hS.2.2 dX7_takeNumber_45

set_option maxHeartbeats 4000000 in
set_option maxRecDepth 100000 in
theorem K303_J0_coder_7d493 (l : Launch) (G : va_G) (cy : Nat → ClassId) (sz : Nat)    : mm_CI l yJ0_coder_7d493 (mm_ws yJ0_coder_7d493 cJ0_coder_7d493 1 (some .byte)) ({ frames := 0, cells := 0, slots := 0, locals := 0 } : Room) G cy sz [] [.ref (cy 104)] (fun u : Unit => []) (fun (r : Int32) (u : Unit) => 0 = r) 0 0 := by
  refine mm_begin (lv := [(0, .ref (cy 104))]) (by decide) (Nat.le_of_ble_eq_true rfl) rfl ?_
  intro p e s m below meth c A ls R args Q H locs hRe hQ hAe hx hb hr hlocks hml hown hnm hts hsz hA hS hP hK hD hZ hl
  have hRf : R.frames = 0 := by rw [hRe]
  have hRl : R.locals = 0 := by rw [hRe]
  have hRc : R.cells = 0 := by rw [hRe]
  have hRs : R.slots = 0 := by rw [hRe]
  refine va_gets hx hb hZ.2.1 hS hown (mm_h hts mm_w268) (fun _ h9 => h9) dJ0_coder_7d493_0 ?_
  refine lv_if_eq (tgt := 13) hx hb dJ0_coder_7d493_3 (by decide) (fun c1 => ?_) (fun c1 => ?_)
  · exact mm_eqN c1.symm mm_k0 mm_k1 (by decide)
  · refine lv_aload_n hx hb dJ0_coder_7d493_6 rfl (lv_at hl 0 rfl) ?_
    refine vk_getf hx hb ((hZ.1.1 2 (by decide)).2.1) hS hown (mm_h hts mm_w269) (fun _ h9 => h9) dJ0_coder_7d493_7 ?_
    refine W.eq (g2 := F0 m 10 ls [.int 0]) rfl ?_
    refine lv_goto (tgt := 14) hx hb dJ0_coder_7d493_10 (by decide) ?_
    subst hAe
    rw [hQ]
    exact W.zret (v := 0) hx hb hr rfl (fun t ht hW => ⟨⟨0, (), rfl, rfl, by rw [ht]; exact hP, hK.warm hW, hD⟩, hS.F ht⟩) hS.2.2 dJ0_coder_7d493_14

set_option maxHeartbeats 4000000 in
set_option maxRecDepth 100000 in
theorem K304_J0_length_8abf5 (l : Launch) (G : va_G) (cy : Nat → ClassId) (sz : Nat)    : mm_CI l yJ0_length_8abf5 (mm_ws yJ0_length_8abf5 cJ0_length_8abf5 1 (some .int)) ({ frames := 1, cells := 0, slots := 0, locals := 20 } : Room) G cy sz [] [.ref (cy 104)] (fun u : Unit => []) (fun (r : Int32) (u : Unit) => 5 = r) 0 0 := by
  refine mm_begin (lv := [(0, .ref (cy 104))]) (by decide) (Nat.le_of_ble_eq_true rfl) rfl ?_
  intro p e s m below meth c A ls R args Q H locs hRe hQ hAe hx hb hr hlocks hml hown hnm hts hsz hA hS hP hK hD hZ hl
  have hRf : R.frames = 1 := by rw [hRe]
  have hRl : R.locals = 20 := by rw [hRe]
  have hRc : R.cells = 0 := by rw [hRe]
  have hRs : R.slots = 0 := by rw [hRe]
  refine lv_aload_n hx hb dJ0_length_8abf5_0 rfl (lv_at hl 0 rfl) ?_
  refine vk_getf hx hb ((hZ.1.1 2 (by decide)).2.2.1) hS hown (mm_h hts mm_w263) (fun _ h9 => h9) dJ0_length_8abf5_1 ?_
  refine W.eq (g2 := F0 m 4 ls [.ref (cy 105)]) rfl ?_
  refine va_tlen hx hb ((hZ.1.1 2 (by decide)).2.2.2) hS (v := 5) (by decide) dJ0_length_8abf5_4 ?_
  refine lv_aload_n hx hb dJ0_length_8abf5_5 rfl (lv_at hl 0 rfl) ?_
  refine mm_finir (va_runV (As := []) (rest := [.int 5]) ⟨hx, hb, hml, hown, hts⟩ (K303_J0_coder_7d493 l G cy H.size  ) (cwV 0 hts (mm_gV mm_w264 mm_w265 mm_w266 mm_w261 mm_w267) rfl rfl rfl hd_J0_coder_7d493 ⟨by rw [hRf]; exact Nat.le_of_ble_eq_true rfl, by rw [hRl]; exact Nat.le_of_ble_eq_true rfl⟩) (mm_preVS hK hZ hS hA hP hD [] rfl rfl 2 (by decide)) rfl rfl hl.1 rfl (lv_room (Nat.le_of_ble_eq_true rfl)) dJ0_length_8abf5_6 ⟨by rw [hRc]; exact Nat.le_of_ble_eq_true rfl, by rw [hRs]; exact Nat.le_of_ble_eq_true rfl⟩) hP hD hS hA [] rfl (fun _ => rfl) ?_
  clear hP hD hS
  clear H locs
  intro v1 _u H locs hw hP hD hS
  subst hw
  refine lv_ishr hx hb dJ0_length_8abf5_9 ?_
  refine lv_topi (fun v2 ev2 => ?_)
  obtain rfl : v2 = 5 := ev2.trans (by decide)
  subst hAe
  rw [hQ]
  exact W.iret (v := 5) hx hb hr (fun t ht hW => ⟨⟨5, (), rfl, rfl, by rw [ht]; exact hP, hK.warm hW, hD⟩, hS.F ht⟩) hS.2.2 dJ0_length_8abf5_10

set_option maxHeartbeats 4000000 in
set_option maxRecDepth 100000 in
theorem K305_J0_isLatin1_aae02 (l : Launch) (G : va_G) (cy : Nat → ClassId) (sz : Nat)    : mm_CI l yJ0_isLatin1_aae02 (mm_ws yJ0_isLatin1_aae02 cJ0_isLatin1_aae02 1 (some .boolean)) ({ frames := 0, cells := 0, slots := 0, locals := 0 } : Room) G cy sz [] [.ref (cy 104)] (fun u : Unit => []) (fun (r : Int32) (u : Unit) => 1 = r) 0 0 := by
  refine mm_begin (lv := [(0, .ref (cy 104))]) (by decide) (Nat.le_of_ble_eq_true rfl) rfl ?_
  intro p e s m below meth c A ls R args Q H locs hRe hQ hAe hx hb hr hlocks hml hown hnm hts hsz hA hS hP hK hD hZ hl
  have hRf : R.frames = 0 := by rw [hRe]
  have hRl : R.locals = 0 := by rw [hRe]
  have hRc : R.cells = 0 := by rw [hRe]
  have hRs : R.slots = 0 := by rw [hRe]
  refine va_gets hx hb hZ.2.1 hS hown (mm_h hts mm_w268) (fun _ h9 => h9) dJ0_isLatin1_aae02_0 ?_
  refine lv_if_eq (tgt := 17) hx hb dJ0_isLatin1_aae02_3 (by decide) (fun c1 => ?_) (fun c1 => ?_)
  · exact mm_eqN c1.symm mm_k0 mm_k1 (by decide)
  · refine lv_aload_n hx hb dJ0_isLatin1_aae02_6 rfl (lv_at hl 0 rfl) ?_
    refine vk_getf hx hb ((hZ.1.1 2 (by decide)).2.1) hS hown (mm_h hts mm_w269) (fun _ h9 => h9) dJ0_isLatin1_aae02_7 ?_
    refine W.eq (g2 := F0 m 10 ls [.int 0]) rfl ?_
    refine lv_if_ne (tgt := 17) hx hb dJ0_isLatin1_aae02_10 (by decide) (fun c2 => ?_) (fun c2 => ?_)
    · have q3 := mm_neL (lo := 1) (mm_ne c2) mm_k0 mm_k0 (by decide) (by decide)
      exact mm_no q3 (by decide)
    · refine lv_iconst (v := 1) hx hb dJ0_isLatin1_aae02_13 (by decide) ?_
      refine lv_goto (tgt := 18) hx hb dJ0_isLatin1_aae02_14 (by decide) ?_
      subst hAe
      rw [hQ]
      exact W.zret (v := 1) hx hb hr rfl (fun t ht hW => ⟨⟨1, (), rfl, rfl, by rw [ht]; exact hP, hK.warm hW, hD⟩, hS.F ht⟩) hS.2.2 dJ0_isLatin1_aae02_18

set_option maxHeartbeats 4000000 in
set_option maxRecDepth 100000 in
theorem K316_J1_charAt_3b067 (l : Launch) (G : va_G) (cy : Nat → ClassId) (sz : Nat) (i_0 : Int32) (h0 : mm_rg i_0 0 4)  : mm_CI l yJ1_charAt_3b067 (mm_ws yJ1_charAt_3b067 cJ1_charAt_3b067 2 (some .char)) ({ frames := 2, cells := 0, slots := 0, locals := 43 } : Room) G cy sz [] [.ref (cy 105), .int i_0] (fun u : Unit => []) (fun (r : Int32) (u : Unit) => mm_rg r 0 65535) 0 0 := by
  refine mm_begin (lv := [(0, .ref (cy 105)), (1, .int i_0)]) (by decide) (Nat.le_of_ble_eq_true rfl) rfl ?_
  intro p e s m below meth c A ls R args Q H locs hRe hQ hAe hx hb hr hlocks hml hown hnm hts hsz hA hS hP hK hD hZ hl
  have hRf : R.frames = 2 := by rw [hRe]
  have hRl : R.locals = 43 := by rw [hRe]
  have hRc : R.cells = 0 := by rw [hRe]
  have hRs : R.slots = 0 := by rw [hRe]
  refine lv_iload_n hx hb dJ1_charAt_3b067_0 rfl (lv_at hl 1 rfl) ?_
  refine lv_aload_n hx hb dJ1_charAt_3b067_1 rfl (lv_at hl 0 rfl) ?_
  refine va_tlen hx hb ((hZ.1.1 2 (by decide)).2.2.2) hS (v := 5) (by decide) dJ1_charAt_3b067_2 ?_
  refine mm_finvr (va_runS (As := [.int i_0, .int 5]) (rest := []) ⟨hx, hb, hml, hown, hts⟩ (K40_J0_checkIndex_df160 l G cy H.size i_0 h0) (va_cwS 2 hts (mm_gS mm_w282 mm_w283 mm_w261 mm_w284) rfl rfl rfl hs_J0_checkIndex_df160 ⟨by rw [hRf]; exact Nat.le_of_ble_eq_true rfl, by rw [hRl]; exact Nat.le_of_ble_eq_true rfl⟩) (mm_preS hK hZ hS hA hP hD [] rfl rfl) rfl rfl hl.1 rfl (lv_room (Nat.le_of_ble_eq_true rfl)) dJ1_charAt_3b067_3 ⟨by rw [hRc]; exact Nat.le_of_ble_eq_true rfl, by rw [hRs]; exact Nat.le_of_ble_eq_true rfl⟩) hP hD hS hA [] rfl (fun _ => rfl) ?_
  clear hP hD hS
  clear H locs
  intro _u H locs hw hP hD hS
  refine lv_aload_n hx hb dJ1_charAt_3b067_6 rfl (lv_at hl 0 rfl) ?_
  refine lv_iload_n hx hb dJ1_charAt_3b067_7 rfl (lv_at hl 1 rfl) ?_
  refine va_tb hx hb ((hZ.1.1 2 (by decide)).2.2.2) hS (mm_in h0 (by decide)) rfl dJ1_charAt_3b067_8 ?_
  refine lv_topi (fun v1 ev1 => ?_)
  refine lv_sipush (v := 255) hx hb dJ1_charAt_3b067_9 (by decide) ?_
  refine lv_iand hx hb dJ1_charAt_3b067_12 ?_
  refine lv_topi (fun v2 ev2 => ?_)
  have rv2 : mm_rg v2 0 255 := mm_andR ev2 mm_k255 (by decide)
  obtain ⟨v3, ev3⟩ : ∃ y : Int32, y = (v2.toUInt32 % 65536).toInt32 := ⟨_, rfl⟩
  refine lv_i2c hx hb dJ1_charAt_3b067_13 ev3.symm ?_
  have rv3 : mm_rg v3 0 65535 := mm_i2c ev3
  subst hAe
  rw [hQ]
  exact W.zret (v := v3) hx hb hr (mm_nch rv3) (fun t ht hW => ⟨⟨v3, (), rfl, rv3, by rw [ht]; exact hP, hK.warm hW, hD⟩, hS.F ht⟩) hS.2.2 dJ1_charAt_3b067_14

set_option maxHeartbeats 4000000 in
set_option maxRecDepth 100000 in
theorem K317_J0_charAt_5068e (l : Launch) (G : va_G) (cy : Nat → ClassId) (sz : Nat) (i_0 : Int32) (h0 : mm_rg i_0 0 4)  : mm_CI l yJ0_charAt_5068e (mm_ws yJ0_charAt_5068e cJ0_charAt_5068e 2 (some .char)) ({ frames := 3, cells := 0, slots := 0, locals := 64 } : Room) G cy sz [] [.ref (cy 104), .int i_0] (fun u : Unit => []) (fun (r : Int32) (u : Unit) => mm_rg r 0 65535) 0 0 := by
  refine mm_begin (lv := [(0, .ref (cy 104)), (1, .int i_0)]) (by decide) (Nat.le_of_ble_eq_true rfl) rfl ?_
  intro p e s m below meth c A ls R args Q H locs hRe hQ hAe hx hb hr hlocks hml hown hnm hts hsz hA hS hP hK hD hZ hl
  have hRf : R.frames = 3 := by rw [hRe]
  have hRl : R.locals = 64 := by rw [hRe]
  have hRc : R.cells = 0 := by rw [hRe]
  have hRs : R.slots = 0 := by rw [hRe]
  refine lv_aload_n hx hb dJ0_charAt_5068e_0 rfl (lv_at hl 0 rfl) ?_
  refine mm_finir (va_runV (As := []) (rest := []) ⟨hx, hb, hml, hown, hts⟩ (K305_J0_isLatin1_aae02 l G cy H.size  ) (cwV 0 hts (mm_gV mm_w274 mm_w275 mm_w276 mm_w261 mm_w277) rfl rfl rfl hd_J0_isLatin1_aae02 ⟨by rw [hRf]; exact Nat.le_of_ble_eq_true rfl, by rw [hRl]; exact Nat.le_of_ble_eq_true rfl⟩) (mm_preVS hK hZ hS hA hP hD [] rfl rfl 2 (by decide)) rfl rfl hl.1 rfl (lv_room (Nat.le_of_ble_eq_true rfl)) dJ0_charAt_5068e_1 ⟨by rw [hRc]; exact Nat.le_of_ble_eq_true rfl, by rw [hRs]; exact Nat.le_of_ble_eq_true rfl⟩) hP hD hS hA [] rfl (fun _ => rfl) ?_
  clear hP hD hS
  clear H locs
  intro v1 _u H locs hw hP hD hS
  subst hw
  refine lv_if_eq (tgt := 16) hx hb dJ0_charAt_5068e_4 (by decide) (fun c2 => ?_) (fun c2 => ?_)
  · exact mm_eqN c2.symm mm_k0 mm_k1 (by decide)
  · refine lv_aload_n hx hb dJ0_charAt_5068e_7 rfl (lv_at hl 0 rfl) ?_
    refine vk_getf hx hb ((hZ.1.1 2 (by decide)).2.2.1) hS hown (mm_h hts mm_w263) (fun _ h9 => h9) dJ0_charAt_5068e_8 ?_
    refine W.eq (g2 := F0 m 11 ls [.ref (cy 105)]) rfl ?_
    refine lv_iload_n hx hb dJ0_charAt_5068e_11 rfl (lv_at hl 1 rfl) ?_
    refine mm_finir (va_runS (As := [.ref (cy 105), .int i_0]) (rest := []) ⟨hx, hb, hml, hown, hts⟩ (K316_J1_charAt_3b067 l G cy H.size i_0 h0) (va_cwS 2 hts (mm_gS mm_w278 mm_w279 mm_w280 mm_w281) rfl rfl rfl hs_J1_charAt_3b067 ⟨by rw [hRf]; exact Nat.le_of_ble_eq_true rfl, by rw [hRl]; exact Nat.le_of_ble_eq_true rfl⟩) (mm_preS hK hZ hS hA hP hD [] rfl rfl) rfl rfl hl.1 rfl (lv_room (Nat.le_of_ble_eq_true rfl)) dJ0_charAt_5068e_12 ⟨by rw [hRc]; exact Nat.le_of_ble_eq_true rfl, by rw [hRs]; exact Nat.le_of_ble_eq_true rfl⟩) hP hD hS hA [] rfl (fun _ => rfl) ?_
    clear hP hD hS
    clear H locs
    intro v3 _u H locs hw hP hD hS
    have w4 := hw
    subst hAe
    rw [hQ]
    exact W.zret (v := v3) hx hb hr (mm_nch w4) (fun t ht hW => ⟨⟨v3, (), rfl, w4, by rw [ht]; exact hP, hK.warm hW, hD⟩, hS.F ht⟩) hS.2.2 dJ0_charAt_5068e_15

set_option maxHeartbeats 4000000 in
set_option maxRecDepth 100000 in
theorem K318_X7_isName (l : Launch) (G : va_G) (cy : Nat → ClassId) (sz : Nat) (a_0 : Nat) (a_1 : Nat) (a_2 : Nat) (i_0 : Int32) (f_0 : Nat → Int32) (a_3 : Nat) (i_1 : Int32) (i_2 : Int32) (i_3 : Int32) (i_4 : Int32) (i_5 : Int32) (i_6 : Int32) (h0 : mm_rg i_0 0 600) (h1 : mm_ar f_0 (-128) 127) (h2 : mm_rg i_3 0 5) (h3 : mm_rg i_4 0 600) (h4 : mm_rg i_5 0 600)  : mm_CI l yX7_isName (mm_ws yX7_isName cX7_isName 4 (some .boolean)) ({ frames := 4, cells := 0, slots := 0, locals := 85 } : Room) G cy sz [(a_1, .inr (9, [.ref a_2, .int i_0])), (a_2, .inl (cy 0, 600, .inl f_0)), (a_0, .inr (7, [.ref a_1, .ref a_3, .int i_1, .int i_2, .int i_3, .int i_4, .int i_5, .int i_6]))] [.ref a_0, .ref (cy 104)] (fun u : Unit => [(a_1, .inr (9, [.ref a_2, .int i_0])), (a_2, .inl (cy 0, 600, .inl f_0)), (a_0, .inr (7, [.ref a_1, .ref a_3, .int i_1, .int i_2, .int i_3, .int i_4, .int i_5, .int i_6]))]) (fun (r : Int32) (u : Unit) => ((0 = r) ∨ (1 = r))) 0 0 := by
  refine mm_begin (lv := [(0, .ref a_0), (1, .ref (cy 104))]) (by decide) (Nat.le_of_ble_eq_true rfl) rfl ?_
  intro p e s m below meth c A ls R args Q H locs hRe hQ hAe hx hb hr hlocks hml hown hnm hts hsz hA hS hP hK hD hZ hl
  have hRf : R.frames = 4 := by rw [hRe]
  have hRl : R.locals = 85 := by rw [hRe]
  have hRc : R.cells = 0 := by rw [hRe]
  have hRs : R.slots = 0 := by rw [hRe]
  refine lv_aload_n hx hb dX7_isName_0 rfl (lv_at hl 1 rfl) ?_
  refine mm_finir (va_runV (As := []) (rest := []) ⟨hx, hb, hml, hown, hts⟩ (K304_J0_length_8abf5 l G cy H.size  ) (cwV 0 hts (mm_gV mm_w258 mm_w259 mm_w260 mm_w261 mm_w262) rfl rfl rfl hd_J0_length_8abf5 ⟨by rw [hRf]; exact Nat.le_of_ble_eq_true rfl, by rw [hRl]; exact Nat.le_of_ble_eq_true rfl⟩) (mm_preVS hK hZ hS hA hP hD [] rfl rfl 2 (by decide)) rfl rfl hl.1 rfl (lv_room (Nat.le_of_ble_eq_true rfl)) dX7_isName_1 ⟨by rw [hRc]; exact Nat.le_of_ble_eq_true rfl, by rw [hRs]; exact Nat.le_of_ble_eq_true rfl⟩) hP hD hS hA [] rfl (fun _ => rfl) ?_
  clear hP hD hS
  clear H locs
  intro v1 _u H locs hw hP hD hS
  subst hw
  refine lv_istore_n (lv' := [(2, .int 5), (0, .ref a_0), (1, .ref (cy 104))]) hx hb dX7_isName_4 rfl hl (by decide) rfl ?_
  clear hl
  clear ls
  intro ls hl
  refine lv_aload_n hx hb dX7_isName_5 rfl (lv_at hl 1 rfl) ?_
  refine va_get (D := G) (ci := 7) (v := .int i_3) (C := RX7) (T := TX7) (N := 8) hx hb hts (mm_i inlX7) hown hK.1 hP 2 rfl rfl 4 (by decide) (mm_h hts mm_w207) (fun _ h9 => h9) rfl dX7_isName_6 ?_
  refine lv_iconst (v := 2) hx hb dX7_isName_9 (by decide) ?_
  refine lv_icmp_ne (tgt := 40) hx hb dX7_isName_10 (by decide) (fun c2 => ?_) (fun c2 => ?_)
  · refine lv_iconst (v := 0) hx hb dX7_isName_40 (by decide) ?_
    subst hAe
    rw [hQ]
    exact W.zret (v := 0) hx hb hr rfl (fun t ht hW => ⟨⟨0, (), rfl, (Or.inl rfl), by rw [ht]; exact hP, hK.warm hW, hD⟩, hS.F ht⟩) hS.2.2 dX7_isName_41
  · have q3 := mm_eqI (lo := 2) (hi := 2) c2 h2 mm_k2 (by decide)
    refine lv_aload_n hx hb dX7_isName_13 rfl (lv_at hl 1 rfl) ?_
    refine va_get (D := G) (ci := 7) (v := .int i_5) (C := RX7) (T := TX7) (N := 8) hx hb hts (mm_i inlX7) hown hK.1 hP 2 rfl rfl 6 (by decide) (mm_h hts mm_w206) (fun _ h9 => h9) rfl dX7_isName_14 ?_
    refine lv_aload_n hx hb dX7_isName_17 rfl (lv_at hl 1 rfl) ?_
    refine va_get (D := G) (ci := 7) (v := .int i_4) (C := RX7) (T := TX7) (N := 8) hx hb hts (mm_i inlX7) hown hK.1 hP 2 rfl rfl 5 (by decide) (mm_h hts mm_w232) (fun _ h9 => h9) rfl dX7_isName_18 ?_
    refine lv_isub hx hb dX7_isName_21 ?_
    refine lv_topi (fun v4 ev4 => ?_)
    have rv4 : mm_rg v4 (-600) 600 := mm_sub ev4 h4 h3 (by decide) (by decide)
    have tv4 := mm_subE ev4 h4 h3 (by decide)
    refine lv_iload_n hx hb dX7_isName_22 rfl (lv_at hl 0 rfl) ?_
    refine lv_icmp_ne (tgt := 40) hx hb dX7_isName_23 (by decide) (fun c5 => ?_) (fun c5 => ?_)
    · refine lv_iconst (v := 0) hx hb dX7_isName_40 (by decide) ?_
      subst hAe
      rw [hQ]
      exact W.zret (v := 0) hx hb hr rfl (fun t ht hW => ⟨⟨0, (), rfl, (Or.inl rfl), by rw [ht]; exact hP, hK.warm hW, hD⟩, hS.F ht⟩) hS.2.2 dX7_isName_41
    · have q6 := mm_eqI (lo := 5) (hi := 5) c5 rv4 mm_k5 (by decide)
      have q7 : mm_rg i_4 0 595 := mm_unsubY tv4 q6 h4 h3 (by decide)
      have q8 : mm_rg i_5 5 600 := mm_unsubX tv4 q6 q7 h4 (by decide)
      refine lv_aload_n hx hb dX7_isName_26 rfl (lv_at hl 1 rfl) ?_
      refine va_get (D := G) (ci := 7) (v := .int i_5) (C := RX7) (T := TX7) (N := 8) hx hb hts (mm_i inlX7) hown hK.1 hP 2 rfl rfl 6 (by decide) (mm_h hts mm_w206) (fun _ h9 => h9) rfl dX7_isName_27 ?_
      refine lv_aload_n hx hb dX7_isName_30 rfl (lv_at hl 1 rfl) ?_
      refine va_get (D := G) (ci := 7) (v := .ref a_1) (C := RX7) (T := TX7) (N := 8) hx hb hts (mm_i inlX7) hown hK.1 hP 2 rfl rfl 0 (by decide) (mm_h hts mm_w67) (fun _ h9 => h9) rfl dX7_isName_31 ?_
      refine va_get (D := G) (ci := 9) (v := .int i_0) (C := RX9) (T := TX9) (N := 2) hx hb hts (mm_i inlX9) hown hK.1 hP 0 rfl rfl 1 (by decide) (mm_h hts mm_w231) (fun _ h9 => h9) rfl dX7_isName_34 ?_
      refine lv_icmp_le (tgt := 42) hx hb dX7_isName_37 (by decide) (fun c9 => ?_) (fun c9 => ?_)
      · have q10 := mm_leR (mm_le c9) q8 h0
        refine lv_iconst (v := 0) hx hb dX7_isName_42 (by decide) ?_
        refine lv_istore_n (lv' := [(3, .int 0), (2, .int 5), (0, .ref a_0), (1, .ref (cy 104))]) hx hb dX7_isName_43 rfl hl (by decide) rfl ?_
        clear hl
        clear ls
        intro ls hl
        have L44_81 : ∀ (n : Nat) (x44_3_81 : Int32), mm_rg x44_3_81 0 5 → (5 - x44_3_81.toInt).toNat < n → ∀ (H : Heap) (locs : List Loc), va_P G vwCl [(a_1, .inr (9, [.ref a_2, .int i_0])), (a_2, .inl (cy 0, 600, .inl f_0)), (a_0, .inr (7, [.ref a_1, .ref a_3, .int i_1, .int i_2, .int i_3, .int i_4, .int i_5, .int i_6]))] H → va_D A [(a_1, .inr (9, [.ref a_2, .int i_0])), (a_2, .inl (cy 0, 600, .inl f_0)), (a_0, .inr (7, [.ref a_1, .ref a_3, .int i_1, .int i_2, .int i_3, .int i_4, .int i_5, .int i_6]))] → va_S A s.heap H locs → ∀ (ls : Array Slot), lv_has ls 4 [(3, .int x44_3_81), (2, .int 5), (0, .ref a_0), (1, .ref (cy 104))] → W p l e R s m args below meth c H locs 0 0 Q (F0 m 44 ls []) := by
          intro n
          induction n with
          | zero => intro x44_3_81 rx44_3_81 hm; exact absurd hm (Nat.not_lt_zero _)
          | succ n ih44 =>
            intro x44_3_81 rx44_3_81 hm44 H locs hP hD hS ls hl
            refine lv_iload_n hx hb dX7_isName_44 rfl (lv_at hl 0 rfl) ?_
            refine lv_iload_n hx hb dX7_isName_45 rfl (lv_at hl 1 rfl) ?_
            refine lv_icmp_ge (tgt := 79) hx hb dX7_isName_46 (by decide) (fun c83 => ?_) (fun c83 => ?_)
            · have q84 := mm_leR (mm_le c83) mm_k5 rx44_3_81
              refine lv_iconst (v := 1) hx hb dX7_isName_79 (by decide) ?_
              subst hAe
              rw [hQ]
              exact W.zret (v := 1) hx hb hr rfl (fun t ht hW => ⟨⟨1, (), rfl, (Or.inr rfl), by rw [ht]; exact hP, hK.warm hW, hD⟩, hS.F ht⟩) hS.2.2 dX7_isName_80
            · have q85 := mm_ltL (h := 4) (mm_nle c83) rx44_3_81 mm_k5 (by decide)
              refine lv_aload_n hx hb dX7_isName_49 rfl (lv_at hl 2 rfl) ?_
              refine va_get (D := G) (ci := 7) (v := .ref a_1) (C := RX7) (T := TX7) (N := 8) hx hb hts (mm_i inlX7) hown hK.1 hP 2 rfl rfl 0 (by decide) (mm_h hts mm_w67) (fun _ h9 => h9) rfl dX7_isName_50 ?_
              refine va_get (D := G) (ci := 9) (v := .ref a_2) (C := RX9) (T := TX9) (N := 2) hx hb hts (mm_i inlX9) hown hK.1 hP 0 rfl rfl 0 (by decide) (mm_h hts mm_w238) (fun _ h9 => h9) rfl dX7_isName_53 ?_
              refine lv_aload_n hx hb dX7_isName_56 rfl (lv_at hl 2 rfl) ?_
              refine va_get (D := G) (ci := 7) (v := .int i_4) (C := RX7) (T := TX7) (N := 8) hx hb hts (mm_i inlX7) hown hK.1 hP 2 rfl rfl 5 (by decide) (mm_h hts mm_w232) (fun _ h9 => h9) rfl dX7_isName_57 ?_
              refine lv_iload_n hx hb dX7_isName_60 rfl (lv_at hl 0 rfl) ?_
              refine lv_iadd hx hb dX7_isName_61 ?_
              refine lv_topi (fun v86 ev86 => ?_)
              have rv86 : mm_rg v86 0 599 := mm_add ev86 q7 q85 (by decide) (by decide)
              have tv86 := mm_addE ev86 q7 q85 (by decide)
              refine va_bald hx hb hK.1 hP 1 0 rfl rfl (mm_in rv86 (by decide)) dX7_isName_62 ?_
              refine lv_topi (fun v87 ev87 => ?_)
              have rv87 : mm_rg v87 (-128) 127 := mm_eqv ev87 (h1 _)
              refine lv_aload_n hx hb dX7_isName_63 rfl (lv_at hl 3 rfl) ?_
              refine lv_iload_n hx hb dX7_isName_64 rfl (lv_at hl 0 rfl) ?_
              refine mm_finir (va_runV (As := [.int x44_3_81]) (rest := [.int v87]) ⟨hx, hb, hml, hown, hts⟩ (K317_J0_charAt_5068e l G cy H.size x44_3_81 q85) (cwV 1 hts (mm_gV mm_w270 mm_w271 mm_w272 mm_w261 mm_w273) rfl rfl rfl hd_J0_charAt_5068e ⟨by rw [hRf]; exact Nat.le_of_ble_eq_true rfl, by rw [hRl]; exact Nat.le_of_ble_eq_true rfl⟩) (mm_preVS hK hZ hS hA hP hD [] rfl rfl 2 (by decide)) rfl rfl hl.1 rfl (lv_room (Nat.le_of_ble_eq_true rfl)) dX7_isName_65 ⟨by rw [hRc]; exact Nat.le_of_ble_eq_true rfl, by rw [hRs]; exact Nat.le_of_ble_eq_true rfl⟩) hP hD hS hA [] rfl (fun _ => rfl) ?_
              clear hP hD hS
              clear H locs
              intro v88 _u H locs hw hP hD hS
              have w89 := hw
              refine lv_icmp_eq (tgt := 73) hx hb dX7_isName_68 (by decide) (fun c90 => ?_) (fun c90 => ?_)
              · have q91 := mm_eqI (lo := 0) (hi := 127) c90 rv87 w89 (by decide)
                have q92 := mm_eqI (lo := 0) (hi := 127) c90.symm w89 rv87 (by decide)
                obtain ⟨v93, ev93⟩ : ∃ y : Int32, y = x44_3_81 + 1 := ⟨_, rfl⟩
                refine lv_iinc (v := v93) (lv' := [(3, .int v93), (2, .int 5), (0, .ref a_0), (1, .ref (cy 104))]) hx hb dX7_isName_73 hl (k := 0) rfl (by rw [ev93]; rfl) (by decide) rfl ?_
                clear hl
                clear ls
                intro ls hl
                have rv93 : mm_rg v93 1 5 := mm_add ev93 q85 mm_k1 (by decide) (by decide)
                have tv93 := mm_addEc ev93 q85 mm_k1 (by decide) (k := 1) (by decide)
                refine lv_goto (tgt := 44) hx hb dX7_isName_76 (by decide) ?_
                exact ih44 v93 (mm_wk rv93 (by decide)) (mm_mu hm44 tv93 (by decide) (rv93).2 (by decide)) H locs hP hD hS ls (lv_sub hl [0, 1, 2, 3] rfl)
              · refine lv_iconst (v := 0) hx hb dX7_isName_71 (by decide) ?_
                subst hAe
                rw [hQ]
                exact W.zret (v := 0) hx hb hr rfl (fun t ht hW => ⟨⟨0, (), rfl, (Or.inl rfl), by rw [ht]; exact hP, hK.warm hW, hD⟩, hS.F ht⟩) hS.2.2 dX7_isName_72
        exact L44_81 _ 0 (mm_wk mm_k0 (by decide)) (Nat.lt_succ_self _) H locs hP hD hS ls (lv_sub hl [0, 1, 2, 3] rfl)
      · have q94 := mm_ltL (h := 599) (mm_nle c9) h0 q8 (by decide)
        refine lv_iconst (v := 0) hx hb dX7_isName_40 (by decide) ?_
        subst hAe
        rw [hQ]
        exact W.zret (v := 0) hx hb hr rfl (fun t ht hW => ⟨⟨0, (), rfl, (Or.inl rfl), by rw [ht]; exact hP, hK.warm hW, hD⟩, hS.F ht⟩) hS.2.2 dX7_isName_41

set_option maxHeartbeats 4000000 in
set_option maxRecDepth 100000 in
theorem K319_X7_takeBookLine (l : Launch) (G : va_G) (cy : Nat → ClassId) (sz : Nat) (a_0 : Nat) (a_1 : Nat) (a_2 : Nat) (i_0 : Int32) (f_0 : Nat → Int32) (a_3 : Nat) (i_1 : Int32) (i_2 : Int32) (i_3 : Int32) (i_4 : Int32) (i_5 : Int32) (i_6 : Int32) (i_7 : Int32) (i_8 : Int32) (i_9 : Int32) (i_10 : Int32) (i_11 : Int32) (i_12 : Int32) (i_13 : Int32) (i_14 : Int32) (a_4 : Nat) (a_5 : Nat) (a_6 : Nat) (a_7 : Nat) (a_8 : Nat) (a_9 : Nat) (a_10 : Nat) (a_11 : Nat) (a_12 : Nat) (a_13 : Nat) (h0 : mm_rg i_0 0 600) (h1 : mm_ar f_0 (-128) 127) (h2 : mm_rg i_1 0 3) (h3 : mm_rg i_3 0 5) (h4 : mm_rg i_4 0 600) (h5 : mm_rg i_5 0 600) (h6 : mm_rg i_8 0 10) (h7 : mm_rg i_9 0 99)  : mm_CV l yX7_takeBookLine (mm_ws yX7_takeBookLine cX7_takeBookLine 1 (none)) ({ frames := 5, cells := 0, slots := 0, locals := 108 } : Room) G cy sz [(a_1, .inr (9, [.ref a_2, .int i_0])), (a_2, .inl (cy 0, 600, .inl f_0)), (a_0, .inr (7, [.ref a_1, .ref a_3, .int i_1, .int i_2, .int i_3, .int i_4, .int i_5, .int i_6])), (a_3, .inr (0, [.int i_7, .int i_8, .int i_9, .int i_10, .int i_11, .int i_12, .int i_13, .int i_14, .ref a_4, .ref a_5, .ref a_6, .ref a_7, .ref a_8, .ref a_9, .ref a_10, .ref a_11, .ref a_12, .ref a_13]))] [.ref a_0] (fun u : Int32 × Int32 × Int32 × Int32 × Int32 × Int32 × Int32 × Int32 => [(a_1, .inr (9, [.ref a_2, .int i_0])), (a_2, .inl (cy 0, 600, .inl f_0)), (a_0, .inr (7, [.ref a_1, .ref a_3, .int u.1, .int u.2.1, .int u.2.2.1, .int u.2.2.2.1, .int u.2.2.2.2.1, .int u.2.2.2.2.2.1])), (a_3, .inr (0, [.int i_7, .int u.2.2.2.2.2.2.1, .int u.2.2.2.2.2.2.2, .int i_10, .int i_11, .int i_12, .int i_13, .int i_14, .ref a_4, .ref a_5, .ref a_6, .ref a_7, .ref a_8, .ref a_9, .ref a_10, .ref a_11, .ref a_12, .ref a_13]))]) (fun u : Int32 × Int32 × Int32 × Int32 × Int32 × Int32 × Int32 × Int32 => mm_rg u.1 0 3 ∧ mm_rg u.2.2.1 0 5 ∧ mm_rg u.2.2.2.1 0 600 ∧ mm_rg u.2.2.2.2.1 0 600 ∧ mm_rg u.2.2.2.2.2.2.1 0 10 ∧ mm_rg u.2.2.2.2.2.2.2 0 99) 0 0 := by
  refine mm_begin (lv := [(0, .ref a_0)]) (by decide) (Nat.le_of_ble_eq_true rfl) rfl ?_
  intro p e s m below meth c A ls R args Q H locs hRe hQ hAe hx hb hr hlocks hml hown hnm hts hsz hA hS hP hK hD hZ hl
  have hRf : R.frames = 5 := by rw [hRe]
  have hRl : R.locals = 108 := by rw [hRe]
  have hRc : R.cells = 0 := by rw [hRe]
  have hRs : R.slots = 0 := by rw [hRe]
  refine lv_aload_n hx hb dX7_takeBookLine_0 rfl (lv_at hl 0 rfl) ?_
  refine lv_aload_n hx hb dX7_takeBookLine_1 rfl (lv_at hl 0 rfl) ?_
  refine va_ldcS hx hb hown (hK.2.2.2 0 "MissingMeaning$Scribe" 95 "book" rfl) dX7_takeBookLine_2 ?_
  refine mm_finir (va_runV (As := [.ref (cy 100)]) (rest := [.ref a_0]) ⟨hx, hb, hml, hown, hts⟩ (K287_X7_isName l G cy H.size a_0 a_1 a_2 i_0 f_0 a_3 i_1 i_2 i_3 i_4 i_5 i_6 h0 h1 h3 h4 h5) (cwV 1 hts (mm_gV mm_w254 mm_w255 mm_w256 mm_w19 mm_w257) rfl rfl rfl hd_X7_isName ⟨by rw [hRf]; exact Nat.le_of_ble_eq_true rfl, by rw [hRl]; exact Nat.le_of_ble_eq_true rfl⟩) (mm_preV hK hZ hS hA hP hD [0, 1, 2] rfl rfl 2 rfl rfl rfl) rfl rfl hl.1 rfl (lv_room (Nat.le_of_ble_eq_true rfl)) dX7_takeBookLine_4 ⟨by rw [hRc]; exact Nat.le_of_ble_eq_true rfl, by rw [hRs]; exact Nat.le_of_ble_eq_true rfl⟩) hP hD hS hA [0, 1, 2] rfl (fun _ => rfl) ?_
  clear hP hD hS
  clear H locs
  intro v1 _u H locs hw hP hD hS
  rcases hw with rfl | rfl
  · refine mm_finv (va_runV (As := [.int 0]) (rest := []) ⟨hx, hb, hml, hown, hts⟩ (K169_X7_takeIf l G cy H.size a_0 a_1 a_3 i_1 i_2 i_3 i_4 i_5 i_6 h2 h4) (cwV 1 hts (mm_gV mm_w307 mm_w308 mm_w309 mm_w19 mm_w310) rfl rfl rfl hd_X7_takeIf ⟨by rw [hRf]; exact Nat.le_of_ble_eq_true rfl, by rw [hRl]; exact Nat.le_of_ble_eq_true rfl⟩) (mm_preV hK hZ hS hA hP hD [2] rfl rfl 2 rfl rfl rfl) rfl rfl hl.1 rfl (lv_room (Nat.le_of_ble_eq_true rfl)) dX7_takeBookLine_7 ⟨by rw [hRc]; exact Nat.le_of_ble_eq_true rfl, by rw [hRs]; exact Nat.le_of_ble_eq_true rfl⟩) hP hD hS hA (fun u : Int32 × Int32 => [(a_1, .inr (9, [.ref a_2, .int i_0])), (a_2, .inl (cy 0, 600, .inl f_0)), (a_0, .inr (7, [.ref a_1, .ref a_3, .int u.1, .int u.2, .int i_3, .int i_4, .int i_5, .int i_6])), (a_3, .inr (0, [.int i_7, .int i_8, .int i_9, .int i_10, .int i_11, .int i_12, .int i_13, .int i_14, .ref a_4, .ref a_5, .ref a_6, .ref a_7, .ref a_8, .ref a_9, .ref a_10, .ref a_11, .ref a_12, .ref a_13]))]) [2] [0, 1, 3] (n := 4) (fun _ => rfl) (by decide +kernel) (by decide +kernel) rfl (fun _ => rfl) (wr := [(a_1, .inr (9, [.ref a_2, .int i_0])), (a_2, .inl (cy 0, 600, .inl f_0)), (a_3, .inr (0, [.int i_7, .int i_8, .int i_9, .int i_10, .int i_11, .int i_12, .int i_13, .int i_14, .ref a_4, .ref a_5, .ref a_6, .ref a_7, .ref a_8, .ref a_9, .ref a_10, .ref a_11, .ref a_12, .ref a_13]))]) rfl (fun _ => rfl) (fun _ => rfl) ?_
    clear hP hD hS
    clear H locs
    intro u
    obtain ⟨n2, n3⟩ := u
    intro H locs hw (hP : va_P G vwCl [(a_1, .inr (9, [.ref a_2, .int i_0])), (a_2, .inl (cy 0, 600, .inl f_0)), (a_0, .inr (7, [.ref a_1, .ref a_3, .int n2, .int n3, .int i_3, .int i_4, .int i_5, .int i_6])), (a_3, .inr (0, [.int i_7, .int i_8, .int i_9, .int i_10, .int i_11, .int i_12, .int i_13, .int i_14, .ref a_4, .ref a_5, .ref a_6, .ref a_7, .ref a_8, .ref a_9, .ref a_10, .ref a_11, .ref a_12, .ref a_13]))] H) (hD : va_D A [(a_1, .inr (9, [.ref a_2, .int i_0])), (a_2, .inl (cy 0, 600, .inl f_0)), (a_0, .inr (7, [.ref a_1, .ref a_3, .int n2, .int n3, .int i_3, .int i_4, .int i_5, .int i_6])), (a_3, .inr (0, [.int i_7, .int i_8, .int i_9, .int i_10, .int i_11, .int i_12, .int i_13, .int i_14, .ref a_4, .ref a_5, .ref a_6, .ref a_7, .ref a_8, .ref a_9, .ref a_10, .ref a_11, .ref a_12, .ref a_13]))]) hS
    have w4 := hw
    refine lv_aload_n hx hb dX7_takeBookLine_10 rfl (lv_at hl 0 rfl) ?_
    refine lv_aload_n hx hb dX7_takeBookLine_11 rfl (lv_at hl 0 rfl) ?_
    refine va_ldcS hx hb hown (hK.2.2.2 1 "MissingMeaning$Scribe" 97 "odds" rfl) dX7_takeBookLine_12 ?_
    refine mm_finir (va_runV (As := [.ref (cy 102)]) (rest := [.ref a_0]) ⟨hx, hb, hml, hown, hts⟩ (K301_X7_isName l G cy H.size a_0 a_1 a_2 i_0 f_0 a_3 n2 n3 i_3 i_4 i_5 i_6 h0 h1 h3 h4 h5) (cwV 1 hts (mm_gV mm_w254 mm_w255 mm_w256 mm_w19 mm_w257) rfl rfl rfl hd_X7_isName ⟨by rw [hRf]; exact Nat.le_of_ble_eq_true rfl, by rw [hRl]; exact Nat.le_of_ble_eq_true rfl⟩) (mm_preV hK hZ hS hA hP hD [0, 1, 2] rfl rfl 2 rfl rfl rfl) rfl rfl hl.1 rfl (lv_room (Nat.le_of_ble_eq_true rfl)) dX7_takeBookLine_14 ⟨by rw [hRc]; exact Nat.le_of_ble_eq_true rfl, by rw [hRs]; exact Nat.le_of_ble_eq_true rfl⟩) hP hD hS hA [0, 1, 2] rfl (fun _ => rfl) ?_
    clear hP hD hS
    clear H locs
    intro v5 _u H locs hw hP hD hS
    rcases hw with rfl | rfl
    · refine mm_finv (va_runV (As := [.int 0]) (rest := []) ⟨hx, hb, hml, hown, hts⟩ (K169_X7_takeIf l G cy H.size a_0 a_1 a_3 n2 n3 i_3 i_4 i_5 i_6 (mm_wk w4 (by decide)) h4) (cwV 1 hts (mm_gV mm_w307 mm_w308 mm_w309 mm_w19 mm_w310) rfl rfl rfl hd_X7_takeIf ⟨by rw [hRf]; exact Nat.le_of_ble_eq_true rfl, by rw [hRl]; exact Nat.le_of_ble_eq_true rfl⟩) (mm_preV hK hZ hS hA hP hD [2] rfl rfl 2 rfl rfl rfl) rfl rfl hl.1 rfl (lv_room (Nat.le_of_ble_eq_true rfl)) dX7_takeBookLine_17 ⟨by rw [hRc]; exact Nat.le_of_ble_eq_true rfl, by rw [hRs]; exact Nat.le_of_ble_eq_true rfl⟩) hP hD hS hA (fun u : Int32 × Int32 => [(a_1, .inr (9, [.ref a_2, .int i_0])), (a_2, .inl (cy 0, 600, .inl f_0)), (a_0, .inr (7, [.ref a_1, .ref a_3, .int u.1, .int u.2, .int i_3, .int i_4, .int i_5, .int i_6])), (a_3, .inr (0, [.int i_7, .int i_8, .int i_9, .int i_10, .int i_11, .int i_12, .int i_13, .int i_14, .ref a_4, .ref a_5, .ref a_6, .ref a_7, .ref a_8, .ref a_9, .ref a_10, .ref a_11, .ref a_12, .ref a_13]))]) [2] [0, 1, 3] (n := 4) (fun _ => rfl) (by decide +kernel) (by decide +kernel) rfl (fun _ => rfl) (wr := [(a_1, .inr (9, [.ref a_2, .int i_0])), (a_2, .inl (cy 0, 600, .inl f_0)), (a_3, .inr (0, [.int i_7, .int i_8, .int i_9, .int i_10, .int i_11, .int i_12, .int i_13, .int i_14, .ref a_4, .ref a_5, .ref a_6, .ref a_7, .ref a_8, .ref a_9, .ref a_10, .ref a_11, .ref a_12, .ref a_13]))]) rfl (fun _ => rfl) (fun _ => rfl) ?_
      clear hP hD hS
      clear H locs
      intro u
      obtain ⟨n6, n7⟩ := u
      intro H locs hw (hP : va_P G vwCl [(a_1, .inr (9, [.ref a_2, .int i_0])), (a_2, .inl (cy 0, 600, .inl f_0)), (a_0, .inr (7, [.ref a_1, .ref a_3, .int n6, .int n7, .int i_3, .int i_4, .int i_5, .int i_6])), (a_3, .inr (0, [.int i_7, .int i_8, .int i_9, .int i_10, .int i_11, .int i_12, .int i_13, .int i_14, .ref a_4, .ref a_5, .ref a_6, .ref a_7, .ref a_8, .ref a_9, .ref a_10, .ref a_11, .ref a_12, .ref a_13]))] H) (hD : va_D A [(a_1, .inr (9, [.ref a_2, .int i_0])), (a_2, .inl (cy 0, 600, .inl f_0)), (a_0, .inr (7, [.ref a_1, .ref a_3, .int n6, .int n7, .int i_3, .int i_4, .int i_5, .int i_6])), (a_3, .inr (0, [.int i_7, .int i_8, .int i_9, .int i_10, .int i_11, .int i_12, .int i_13, .int i_14, .ref a_4, .ref a_5, .ref a_6, .ref a_7, .ref a_8, .ref a_9, .ref a_10, .ref a_11, .ref a_12, .ref a_13]))]) hS
      have w8 := hw
      refine lv_aload_n hx hb dX7_takeBookLine_20 rfl (lv_at hl 0 rfl) ?_
      refine va_get (D := G) (ci := 7) (v := .ref a_3) (C := RX7) (T := TX7) (N := 8) hx hb hts (mm_i inlX7) hown hK.1 hP 2 rfl rfl 1 (by decide) (mm_h hts mm_w65) (fun _ h9 => h9) rfl dX7_takeBookLine_21 ?_
      refine lv_aload_n hx hb dX7_takeBookLine_24 rfl (lv_at hl 0 rfl) ?_
      refine lv_iconst (v := 0) hx hb dX7_takeBookLine_25 (by decide) ?_
      refine lv_bipush (v := 10) hx hb dX7_takeBookLine_26 (by decide) ?_
      refine mm_fini (va_runV (As := [.int 0, .int 10]) (rest := [.ref a_3]) ⟨hx, hb, hml, hown, hts⟩ (K302_X7_takeNumber l G cy H.size a_0 a_1 a_2 i_0 f_0 a_3 n6 n7 i_3 i_4 i_5 i_6 h0 h1 (mm_wk w8 (by decide)) h3 h4 h5) (cwV 2 hts (mm_gV mm_w315 mm_w316 mm_w317 mm_w19 mm_w318) rfl rfl rfl hd_X7_takeNumber ⟨by rw [hRf]; exact Nat.le_of_ble_eq_true rfl, by rw [hRl]; exact Nat.le_of_ble_eq_true rfl⟩) (mm_preV hK hZ hS hA hP hD [0, 1, 2] rfl rfl 2 rfl rfl rfl) rfl rfl hl.1 rfl (lv_room (Nat.le_of_ble_eq_true rfl)) dX7_takeBookLine_28 ⟨by rw [hRc]; exact Nat.le_of_ble_eq_true rfl, by rw [hRs]; exact Nat.le_of_ble_eq_true rfl⟩) hP hD hS hA (fun u : Int32 × Int32 × Int32 × Int32 × Int32 × Int32 => [(a_1, .inr (9, [.ref a_2, .int i_0])), (a_2, .inl (cy 0, 600, .inl f_0)), (a_0, .inr (7, [.ref a_1, .ref a_3, .int u.1, .int u.2.1, .int u.2.2.1, .int u.2.2.2.1, .int u.2.2.2.2.1, .int u.2.2.2.2.2])), (a_3, .inr (0, [.int i_7, .int i_8, .int i_9, .int i_10, .int i_11, .int i_12, .int i_13, .int i_14, .ref a_4, .ref a_5, .ref a_6, .ref a_7, .ref a_8, .ref a_9, .ref a_10, .ref a_11, .ref a_12, .ref a_13]))]) [0, 1, 2] [3] (n := 4) (fun _ => rfl) (by decide +kernel) (by decide +kernel) rfl (fun _ => rfl) (wr := [(a_3, .inr (0, [.int i_7, .int i_8, .int i_9, .int i_10, .int i_11, .int i_12, .int i_13, .int i_14, .ref a_4, .ref a_5, .ref a_6, .ref a_7, .ref a_8, .ref a_9, .ref a_10, .ref a_11, .ref a_12, .ref a_13]))]) rfl (fun _ => rfl) (fun _ => rfl) ?_
      clear hP hD hS
      clear H locs
      intro v15 u
      obtain ⟨n9, n10, n11, n12, n13, n14⟩ := u
      intro H locs hw (hP : va_P G vwCl [(a_1, .inr (9, [.ref a_2, .int i_0])), (a_2, .inl (cy 0, 600, .inl f_0)), (a_0, .inr (7, [.ref a_1, .ref a_3, .int n9, .int n10, .int n11, .int n12, .int n13, .int n14])), (a_3, .inr (0, [.int i_7, .int i_8, .int i_9, .int i_10, .int i_11, .int i_12, .int i_13, .int i_14, .ref a_4, .ref a_5, .ref a_6, .ref a_7, .ref a_8, .ref a_9, .ref a_10, .ref a_11, .ref a_12, .ref a_13]))] H) (hD : va_D A [(a_1, .inr (9, [.ref a_2, .int i_0])), (a_2, .inl (cy 0, 600, .inl f_0)), (a_0, .inr (7, [.ref a_1, .ref a_3, .int n9, .int n10, .int n11, .int n12, .int n13, .int n14])), (a_3, .inr (0, [.int i_7, .int i_8, .int i_9, .int i_10, .int i_11, .int i_12, .int i_13, .int i_14, .ref a_4, .ref a_5, .ref a_6, .ref a_7, .ref a_8, .ref a_9, .ref a_10, .ref a_11, .ref a_12, .ref a_13]))]) hS
      obtain ⟨w16, w17, w18, w19, hw⟩ := hw
      have w20 := hw
      refine va_put (D := G) (ci := 0) (v := .int v15) (ty := tyX0 1) (C := RX0) (T := TX0) (N := 18) hx hb hts (mm_i inlX0) tyX0 tyX0_ok nmX0 hown hK.1 hP hD hS 3 rfl rfl 1 (by decide) (mm_h hts mm_w253) (fun _ h9 => h9) rfl (tyX0_ok 1 (by decide)) rfl rfl (Nat.le_of_ble_eq_true rfl) dX7_takeBookLine_31 ?_
      clear hP hD hS
      clear H locs
      intro H locs (hP : va_P G vwCl [(a_1, .inr (9, [.ref a_2, .int i_0])), (a_2, .inl (cy 0, 600, .inl f_0)), (a_0, .inr (7, [.ref a_1, .ref a_3, .int n9, .int n10, .int n11, .int n12, .int n13, .int n14])), (a_3, .inr (0, [.int i_7, .int v15, .int i_9, .int i_10, .int i_11, .int i_12, .int i_13, .int i_14, .ref a_4, .ref a_5, .ref a_6, .ref a_7, .ref a_8, .ref a_9, .ref a_10, .ref a_11, .ref a_12, .ref a_13]))] H) (hD : va_D A [(a_1, .inr (9, [.ref a_2, .int i_0])), (a_2, .inl (cy 0, 600, .inl f_0)), (a_0, .inr (7, [.ref a_1, .ref a_3, .int n9, .int n10, .int n11, .int n12, .int n13, .int n14])), (a_3, .inr (0, [.int i_7, .int v15, .int i_9, .int i_10, .int i_11, .int i_12, .int i_13, .int i_14, .ref a_4, .ref a_5, .ref a_6, .ref a_7, .ref a_8, .ref a_9, .ref a_10, .ref a_11, .ref a_12, .ref a_13]))]) hS
      refine lv_aload_n hx hb dX7_takeBookLine_34 rfl (lv_at hl 0 rfl) ?_
      refine lv_aload_n hx hb dX7_takeBookLine_35 rfl (lv_at hl 0 rfl) ?_
      refine va_ldcS hx hb hown (hK.2.2.2 2 "MissingMeaning$Scribe" 105 "stock" rfl) dX7_takeBookLine_36 ?_
      refine mm_finir (va_runV (As := [.ref (cy 104)]) (rest := [.ref a_0]) ⟨hx, hb, hml, hown, hts⟩ (K318_X7_isName l G cy H.size a_0 a_1 a_2 i_0 f_0 a_3 n9 n10 n11 n12 n13 n14 h0 h1 w17 w18 w19) (cwV 1 hts (mm_gV mm_w254 mm_w255 mm_w256 mm_w19 mm_w257) rfl rfl rfl hd_X7_isName ⟨by rw [hRf]; exact Nat.le_of_ble_eq_true rfl, by rw [hRl]; exact Nat.le_of_ble_eq_true rfl⟩) (mm_preV hK hZ hS hA hP hD [0, 1, 2] rfl rfl 2 rfl rfl rfl) rfl rfl hl.1 rfl (lv_room (Nat.le_of_ble_eq_true rfl)) dX7_takeBookLine_38 ⟨by rw [hRc]; exact Nat.le_of_ble_eq_true rfl, by rw [hRs]; exact Nat.le_of_ble_eq_true rfl⟩) hP hD hS hA [0, 1, 2] rfl (fun _ => rfl) ?_
      clear hP hD hS
      clear H locs
      intro v21 _u H locs hw hP hD hS
      rcases hw with rfl | rfl
      · refine mm_finv (va_runV (As := [.int 0]) (rest := []) ⟨hx, hb, hml, hown, hts⟩ (K169_X7_takeIf l G cy H.size a_0 a_1 a_3 n9 n10 n11 n12 n13 n14 w16 w18) (cwV 1 hts (mm_gV mm_w307 mm_w308 mm_w309 mm_w19 mm_w310) rfl rfl rfl hd_X7_takeIf ⟨by rw [hRf]; exact Nat.le_of_ble_eq_true rfl, by rw [hRl]; exact Nat.le_of_ble_eq_true rfl⟩) (mm_preV hK hZ hS hA hP hD [2] rfl rfl 2 rfl rfl rfl) rfl rfl hl.1 rfl (lv_room (Nat.le_of_ble_eq_true rfl)) dX7_takeBookLine_41 ⟨by rw [hRc]; exact Nat.le_of_ble_eq_true rfl, by rw [hRs]; exact Nat.le_of_ble_eq_true rfl⟩) hP hD hS hA (fun u : Int32 × Int32 => [(a_1, .inr (9, [.ref a_2, .int i_0])), (a_2, .inl (cy 0, 600, .inl f_0)), (a_0, .inr (7, [.ref a_1, .ref a_3, .int u.1, .int u.2, .int n11, .int n12, .int n13, .int n14])), (a_3, .inr (0, [.int i_7, .int v15, .int i_9, .int i_10, .int i_11, .int i_12, .int i_13, .int i_14, .ref a_4, .ref a_5, .ref a_6, .ref a_7, .ref a_8, .ref a_9, .ref a_10, .ref a_11, .ref a_12, .ref a_13]))]) [2] [0, 1, 3] (n := 4) (fun _ => rfl) (by decide +kernel) (by decide +kernel) rfl (fun _ => rfl) (wr := [(a_1, .inr (9, [.ref a_2, .int i_0])), (a_2, .inl (cy 0, 600, .inl f_0)), (a_3, .inr (0, [.int i_7, .int v15, .int i_9, .int i_10, .int i_11, .int i_12, .int i_13, .int i_14, .ref a_4, .ref a_5, .ref a_6, .ref a_7, .ref a_8, .ref a_9, .ref a_10, .ref a_11, .ref a_12, .ref a_13]))]) rfl (fun _ => rfl) (fun _ => rfl) ?_
        clear hP hD hS
        clear H locs
        intro u
        obtain ⟨n22, n23⟩ := u
        intro H locs hw (hP : va_P G vwCl [(a_1, .inr (9, [.ref a_2, .int i_0])), (a_2, .inl (cy 0, 600, .inl f_0)), (a_0, .inr (7, [.ref a_1, .ref a_3, .int n22, .int n23, .int n11, .int n12, .int n13, .int n14])), (a_3, .inr (0, [.int i_7, .int v15, .int i_9, .int i_10, .int i_11, .int i_12, .int i_13, .int i_14, .ref a_4, .ref a_5, .ref a_6, .ref a_7, .ref a_8, .ref a_9, .ref a_10, .ref a_11, .ref a_12, .ref a_13]))] H) (hD : va_D A [(a_1, .inr (9, [.ref a_2, .int i_0])), (a_2, .inl (cy 0, 600, .inl f_0)), (a_0, .inr (7, [.ref a_1, .ref a_3, .int n22, .int n23, .int n11, .int n12, .int n13, .int n14])), (a_3, .inr (0, [.int i_7, .int v15, .int i_9, .int i_10, .int i_11, .int i_12, .int i_13, .int i_14, .ref a_4, .ref a_5, .ref a_6, .ref a_7, .ref a_8, .ref a_9, .ref a_10, .ref a_11, .ref a_12, .ref a_13]))]) hS
        have w24 := hw
        refine lv_aload_n hx hb dX7_takeBookLine_44 rfl (lv_at hl 0 rfl) ?_
        refine va_get (D := G) (ci := 7) (v := .ref a_3) (C := RX7) (T := TX7) (N := 8) hx hb hts (mm_i inlX7) hown hK.1 hP 2 rfl rfl 1 (by decide) (mm_h hts mm_w65) (fun _ h9 => h9) rfl dX7_takeBookLine_45 ?_
        refine lv_aload_n hx hb dX7_takeBookLine_48 rfl (lv_at hl 0 rfl) ?_
        refine lv_iconst (v := 0) hx hb dX7_takeBookLine_49 (by decide) ?_
        refine lv_bipush (v := 99) hx hb dX7_takeBookLine_50 (by decide) ?_
        refine mm_fini (va_runV (As := [.int 0, .int 99]) (rest := [.ref a_3]) ⟨hx, hb, hml, hown, hts⟩ (K272_X7_takeNumber l G cy H.size a_0 a_1 a_2 i_0 f_0 a_3 n22 n23 n11 n12 n13 n14 h0 h1 (mm_wk w24 (by decide)) w17 w18 w19) (cwV 2 hts (mm_gV mm_w315 mm_w316 mm_w317 mm_w19 mm_w318) rfl rfl rfl hd_X7_takeNumber ⟨by rw [hRf]; exact Nat.le_of_ble_eq_true rfl, by rw [hRl]; exact Nat.le_of_ble_eq_true rfl⟩) (mm_preV hK hZ hS hA hP hD [0, 1, 2] rfl rfl 2 rfl rfl rfl) rfl rfl hl.1 rfl (lv_room (Nat.le_of_ble_eq_true rfl)) dX7_takeBookLine_52 ⟨by rw [hRc]; exact Nat.le_of_ble_eq_true rfl, by rw [hRs]; exact Nat.le_of_ble_eq_true rfl⟩) hP hD hS hA (fun u : Int32 × Int32 × Int32 × Int32 × Int32 × Int32 => [(a_1, .inr (9, [.ref a_2, .int i_0])), (a_2, .inl (cy 0, 600, .inl f_0)), (a_0, .inr (7, [.ref a_1, .ref a_3, .int u.1, .int u.2.1, .int u.2.2.1, .int u.2.2.2.1, .int u.2.2.2.2.1, .int u.2.2.2.2.2])), (a_3, .inr (0, [.int i_7, .int v15, .int i_9, .int i_10, .int i_11, .int i_12, .int i_13, .int i_14, .ref a_4, .ref a_5, .ref a_6, .ref a_7, .ref a_8, .ref a_9, .ref a_10, .ref a_11, .ref a_12, .ref a_13]))]) [0, 1, 2] [3] (n := 4) (fun _ => rfl) (by decide +kernel) (by decide +kernel) rfl (fun _ => rfl) (wr := [(a_3, .inr (0, [.int i_7, .int v15, .int i_9, .int i_10, .int i_11, .int i_12, .int i_13, .int i_14, .ref a_4, .ref a_5, .ref a_6, .ref a_7, .ref a_8, .ref a_9, .ref a_10, .ref a_11, .ref a_12, .ref a_13]))]) rfl (fun _ => rfl) (fun _ => rfl) ?_
        clear hP hD hS
        clear H locs
        intro v31 u
        obtain ⟨n25, n26, n27, n28, n29, n30⟩ := u
        intro H locs hw (hP : va_P G vwCl [(a_1, .inr (9, [.ref a_2, .int i_0])), (a_2, .inl (cy 0, 600, .inl f_0)), (a_0, .inr (7, [.ref a_1, .ref a_3, .int n25, .int n26, .int n27, .int n28, .int n29, .int n30])), (a_3, .inr (0, [.int i_7, .int v15, .int i_9, .int i_10, .int i_11, .int i_12, .int i_13, .int i_14, .ref a_4, .ref a_5, .ref a_6, .ref a_7, .ref a_8, .ref a_9, .ref a_10, .ref a_11, .ref a_12, .ref a_13]))] H) (hD : va_D A [(a_1, .inr (9, [.ref a_2, .int i_0])), (a_2, .inl (cy 0, 600, .inl f_0)), (a_0, .inr (7, [.ref a_1, .ref a_3, .int n25, .int n26, .int n27, .int n28, .int n29, .int n30])), (a_3, .inr (0, [.int i_7, .int v15, .int i_9, .int i_10, .int i_11, .int i_12, .int i_13, .int i_14, .ref a_4, .ref a_5, .ref a_6, .ref a_7, .ref a_8, .ref a_9, .ref a_10, .ref a_11, .ref a_12, .ref a_13]))]) hS
        obtain ⟨w32, w33, w34, w35, hw⟩ := hw
        have w36 := hw
        refine va_put (D := G) (ci := 0) (v := .int v31) (ty := tyX0 2) (C := RX0) (T := TX0) (N := 18) hx hb hts (mm_i inlX0) tyX0 tyX0_ok nmX0 hown hK.1 hP hD hS 3 rfl rfl 2 (by decide) (mm_h hts mm_w209) (fun _ h9 => h9) rfl (tyX0_ok 2 (by decide)) rfl rfl (Nat.le_of_ble_eq_true rfl) dX7_takeBookLine_55 ?_
        clear hP hD hS
        clear H locs
        intro H locs (hP : va_P G vwCl [(a_1, .inr (9, [.ref a_2, .int i_0])), (a_2, .inl (cy 0, 600, .inl f_0)), (a_0, .inr (7, [.ref a_1, .ref a_3, .int n25, .int n26, .int n27, .int n28, .int n29, .int n30])), (a_3, .inr (0, [.int i_7, .int v15, .int v31, .int i_10, .int i_11, .int i_12, .int i_13, .int i_14, .ref a_4, .ref a_5, .ref a_6, .ref a_7, .ref a_8, .ref a_9, .ref a_10, .ref a_11, .ref a_12, .ref a_13]))] H) (hD : va_D A [(a_1, .inr (9, [.ref a_2, .int i_0])), (a_2, .inl (cy 0, 600, .inl f_0)), (a_0, .inr (7, [.ref a_1, .ref a_3, .int n25, .int n26, .int n27, .int n28, .int n29, .int n30])), (a_3, .inr (0, [.int i_7, .int v15, .int v31, .int i_10, .int i_11, .int i_12, .int i_13, .int i_14, .ref a_4, .ref a_5, .ref a_6, .ref a_7, .ref a_8, .ref a_9, .ref a_10, .ref a_11, .ref a_12, .ref a_13]))]) hS
        subst hAe
        rw [hQ]
        exact W.vret hx hb hr (fun t ht hW => ⟨⟨(n25, n26, n27, n28, n29, n30, v15, v31), rfl, ⟨w32, w33, w34, w35, w20, w36⟩, by rw [ht]; exact hP, hK.warm hW, hD⟩, hS.F ht⟩) hS.2.2 dX7_takeBookLine_58
      · refine mm_finv (va_runV (As := [.int 1]) (rest := []) ⟨hx, hb, hml, hown, hts⟩ (K170_X7_takeIf l G cy H.size a_0 a_1 a_2 i_0 f_0 a_3 n9 n10 n11 n12 n13 n14 h0 h1 w16 w17 w18 w19) (cwV 1 hts (mm_gV mm_w307 mm_w308 mm_w309 mm_w19 mm_w310) rfl rfl rfl hd_X7_takeIf ⟨by rw [hRf]; exact Nat.le_of_ble_eq_true rfl, by rw [hRl]; exact Nat.le_of_ble_eq_true rfl⟩) (mm_preV hK hZ hS hA hP hD [0, 1, 2] rfl rfl 2 rfl rfl rfl) rfl rfl hl.1 rfl (lv_room (Nat.le_of_ble_eq_true rfl)) dX7_takeBookLine_41 ⟨by rw [hRc]; exact Nat.le_of_ble_eq_true rfl, by rw [hRs]; exact Nat.le_of_ble_eq_true rfl⟩) hP hD hS hA (fun u : Int32 × Int32 × Int32 × Int32 => [(a_1, .inr (9, [.ref a_2, .int i_0])), (a_2, .inl (cy 0, 600, .inl f_0)), (a_0, .inr (7, [.ref a_1, .ref a_3, .int n9, .int n10, .int u.1, .int u.2.1, .int u.2.2.1, .int u.2.2.2])), (a_3, .inr (0, [.int i_7, .int v15, .int i_9, .int i_10, .int i_11, .int i_12, .int i_13, .int i_14, .ref a_4, .ref a_5, .ref a_6, .ref a_7, .ref a_8, .ref a_9, .ref a_10, .ref a_11, .ref a_12, .ref a_13]))]) [0, 1, 2] [3] (n := 4) (fun _ => rfl) (by decide +kernel) (by decide +kernel) rfl (fun _ => rfl) (wr := [(a_3, .inr (0, [.int i_7, .int v15, .int i_9, .int i_10, .int i_11, .int i_12, .int i_13, .int i_14, .ref a_4, .ref a_5, .ref a_6, .ref a_7, .ref a_8, .ref a_9, .ref a_10, .ref a_11, .ref a_12, .ref a_13]))]) rfl (fun _ => rfl) (fun _ => rfl) ?_
        clear hP hD hS
        clear H locs
        intro u
        obtain ⟨n37, n38, n39, n40⟩ := u
        intro H locs hw (hP : va_P G vwCl [(a_1, .inr (9, [.ref a_2, .int i_0])), (a_2, .inl (cy 0, 600, .inl f_0)), (a_0, .inr (7, [.ref a_1, .ref a_3, .int n9, .int n10, .int n37, .int n38, .int n39, .int n40])), (a_3, .inr (0, [.int i_7, .int v15, .int i_9, .int i_10, .int i_11, .int i_12, .int i_13, .int i_14, .ref a_4, .ref a_5, .ref a_6, .ref a_7, .ref a_8, .ref a_9, .ref a_10, .ref a_11, .ref a_12, .ref a_13]))] H) (hD : va_D A [(a_1, .inr (9, [.ref a_2, .int i_0])), (a_2, .inl (cy 0, 600, .inl f_0)), (a_0, .inr (7, [.ref a_1, .ref a_3, .int n9, .int n10, .int n37, .int n38, .int n39, .int n40])), (a_3, .inr (0, [.int i_7, .int v15, .int i_9, .int i_10, .int i_11, .int i_12, .int i_13, .int i_14, .ref a_4, .ref a_5, .ref a_6, .ref a_7, .ref a_8, .ref a_9, .ref a_10, .ref a_11, .ref a_12, .ref a_13]))]) hS
        obtain ⟨w41, w42, w43⟩ := hw
        refine lv_aload_n hx hb dX7_takeBookLine_44 rfl (lv_at hl 0 rfl) ?_
        refine va_get (D := G) (ci := 7) (v := .ref a_3) (C := RX7) (T := TX7) (N := 8) hx hb hts (mm_i inlX7) hown hK.1 hP 2 rfl rfl 1 (by decide) (mm_h hts mm_w65) (fun _ h9 => h9) rfl dX7_takeBookLine_45 ?_
        refine lv_aload_n hx hb dX7_takeBookLine_48 rfl (lv_at hl 0 rfl) ?_
        refine lv_iconst (v := 0) hx hb dX7_takeBookLine_49 (by decide) ?_
        refine lv_bipush (v := 99) hx hb dX7_takeBookLine_50 (by decide) ?_
        refine mm_fini (va_runV (As := [.int 0, .int 99]) (rest := [.ref a_3]) ⟨hx, hb, hml, hown, hts⟩ (K272_X7_takeNumber l G cy H.size a_0 a_1 a_2 i_0 f_0 a_3 n9 n10 n37 n38 n39 n40 h0 h1 w16 w41 w42 w43) (cwV 2 hts (mm_gV mm_w315 mm_w316 mm_w317 mm_w19 mm_w318) rfl rfl rfl hd_X7_takeNumber ⟨by rw [hRf]; exact Nat.le_of_ble_eq_true rfl, by rw [hRl]; exact Nat.le_of_ble_eq_true rfl⟩) (mm_preV hK hZ hS hA hP hD [0, 1, 2] rfl rfl 2 rfl rfl rfl) rfl rfl hl.1 rfl (lv_room (Nat.le_of_ble_eq_true rfl)) dX7_takeBookLine_52 ⟨by rw [hRc]; exact Nat.le_of_ble_eq_true rfl, by rw [hRs]; exact Nat.le_of_ble_eq_true rfl⟩) hP hD hS hA (fun u : Int32 × Int32 × Int32 × Int32 × Int32 × Int32 => [(a_1, .inr (9, [.ref a_2, .int i_0])), (a_2, .inl (cy 0, 600, .inl f_0)), (a_0, .inr (7, [.ref a_1, .ref a_3, .int u.1, .int u.2.1, .int u.2.2.1, .int u.2.2.2.1, .int u.2.2.2.2.1, .int u.2.2.2.2.2])), (a_3, .inr (0, [.int i_7, .int v15, .int i_9, .int i_10, .int i_11, .int i_12, .int i_13, .int i_14, .ref a_4, .ref a_5, .ref a_6, .ref a_7, .ref a_8, .ref a_9, .ref a_10, .ref a_11, .ref a_12, .ref a_13]))]) [0, 1, 2] [3] (n := 4) (fun _ => rfl) (by decide +kernel) (by decide +kernel) rfl (fun _ => rfl) (wr := [(a_3, .inr (0, [.int i_7, .int v15, .int i_9, .int i_10, .int i_11, .int i_12, .int i_13, .int i_14, .ref a_4, .ref a_5, .ref a_6, .ref a_7, .ref a_8, .ref a_9, .ref a_10, .ref a_11, .ref a_12, .ref a_13]))]) rfl (fun _ => rfl) (fun _ => rfl) ?_
        clear hP hD hS
        clear H locs
        intro v50 u
        obtain ⟨n44, n45, n46, n47, n48, n49⟩ := u
        intro H locs hw (hP : va_P G vwCl [(a_1, .inr (9, [.ref a_2, .int i_0])), (a_2, .inl (cy 0, 600, .inl f_0)), (a_0, .inr (7, [.ref a_1, .ref a_3, .int n44, .int n45, .int n46, .int n47, .int n48, .int n49])), (a_3, .inr (0, [.int i_7, .int v15, .int i_9, .int i_10, .int i_11, .int i_12, .int i_13, .int i_14, .ref a_4, .ref a_5, .ref a_6, .ref a_7, .ref a_8, .ref a_9, .ref a_10, .ref a_11, .ref a_12, .ref a_13]))] H) (hD : va_D A [(a_1, .inr (9, [.ref a_2, .int i_0])), (a_2, .inl (cy 0, 600, .inl f_0)), (a_0, .inr (7, [.ref a_1, .ref a_3, .int n44, .int n45, .int n46, .int n47, .int n48, .int n49])), (a_3, .inr (0, [.int i_7, .int v15, .int i_9, .int i_10, .int i_11, .int i_12, .int i_13, .int i_14, .ref a_4, .ref a_5, .ref a_6, .ref a_7, .ref a_8, .ref a_9, .ref a_10, .ref a_11, .ref a_12, .ref a_13]))]) hS
        obtain ⟨w51, w52, w53, w54, hw⟩ := hw
        have w55 := hw
        refine va_put (D := G) (ci := 0) (v := .int v50) (ty := tyX0 2) (C := RX0) (T := TX0) (N := 18) hx hb hts (mm_i inlX0) tyX0 tyX0_ok nmX0 hown hK.1 hP hD hS 3 rfl rfl 2 (by decide) (mm_h hts mm_w209) (fun _ h9 => h9) rfl (tyX0_ok 2 (by decide)) rfl rfl (Nat.le_of_ble_eq_true rfl) dX7_takeBookLine_55 ?_
        clear hP hD hS
        clear H locs
        intro H locs (hP : va_P G vwCl [(a_1, .inr (9, [.ref a_2, .int i_0])), (a_2, .inl (cy 0, 600, .inl f_0)), (a_0, .inr (7, [.ref a_1, .ref a_3, .int n44, .int n45, .int n46, .int n47, .int n48, .int n49])), (a_3, .inr (0, [.int i_7, .int v15, .int v50, .int i_10, .int i_11, .int i_12, .int i_13, .int i_14, .ref a_4, .ref a_5, .ref a_6, .ref a_7, .ref a_8, .ref a_9, .ref a_10, .ref a_11, .ref a_12, .ref a_13]))] H) (hD : va_D A [(a_1, .inr (9, [.ref a_2, .int i_0])), (a_2, .inl (cy 0, 600, .inl f_0)), (a_0, .inr (7, [.ref a_1, .ref a_3, .int n44, .int n45, .int n46, .int n47, .int n48, .int n49])), (a_3, .inr (0, [.int i_7, .int v15, .int v50, .int i_10, .int i_11, .int i_12, .int i_13, .int i_14, .ref a_4, .ref a_5, .ref a_6, .ref a_7, .ref a_8, .ref a_9, .ref a_10, .ref a_11, .ref a_12, .ref a_13]))]) hS
        subst hAe
        rw [hQ]
        exact W.vret hx hb hr (fun t ht hW => ⟨⟨(n44, n45, n46, n47, n48, n49, v15, v50), rfl, ⟨w51, w52, w53, w54, w20, w55⟩, by rw [ht]; exact hP, hK.warm hW, hD⟩, hS.F ht⟩) hS.2.2 dX7_takeBookLine_58
    · refine mm_finv (va_runV (As := [.int 1]) (rest := []) ⟨hx, hb, hml, hown, hts⟩ (K170_X7_takeIf l G cy H.size a_0 a_1 a_2 i_0 f_0 a_3 n2 n3 i_3 i_4 i_5 i_6 h0 h1 (mm_wk w4 (by decide)) h3 h4 h5) (cwV 1 hts (mm_gV mm_w307 mm_w308 mm_w309 mm_w19 mm_w310) rfl rfl rfl hd_X7_takeIf ⟨by rw [hRf]; exact Nat.le_of_ble_eq_true rfl, by rw [hRl]; exact Nat.le_of_ble_eq_true rfl⟩) (mm_preV hK hZ hS hA hP hD [0, 1, 2] rfl rfl 2 rfl rfl rfl) rfl rfl hl.1 rfl (lv_room (Nat.le_of_ble_eq_true rfl)) dX7_takeBookLine_17 ⟨by rw [hRc]; exact Nat.le_of_ble_eq_true rfl, by rw [hRs]; exact Nat.le_of_ble_eq_true rfl⟩) hP hD hS hA (fun u : Int32 × Int32 × Int32 × Int32 => [(a_1, .inr (9, [.ref a_2, .int i_0])), (a_2, .inl (cy 0, 600, .inl f_0)), (a_0, .inr (7, [.ref a_1, .ref a_3, .int n2, .int n3, .int u.1, .int u.2.1, .int u.2.2.1, .int u.2.2.2])), (a_3, .inr (0, [.int i_7, .int i_8, .int i_9, .int i_10, .int i_11, .int i_12, .int i_13, .int i_14, .ref a_4, .ref a_5, .ref a_6, .ref a_7, .ref a_8, .ref a_9, .ref a_10, .ref a_11, .ref a_12, .ref a_13]))]) [0, 1, 2] [3] (n := 4) (fun _ => rfl) (by decide +kernel) (by decide +kernel) rfl (fun _ => rfl) (wr := [(a_3, .inr (0, [.int i_7, .int i_8, .int i_9, .int i_10, .int i_11, .int i_12, .int i_13, .int i_14, .ref a_4, .ref a_5, .ref a_6, .ref a_7, .ref a_8, .ref a_9, .ref a_10, .ref a_11, .ref a_12, .ref a_13]))]) rfl (fun _ => rfl) (fun _ => rfl) ?_
      clear hP hD hS
      clear H locs
      intro u
      obtain ⟨n56, n57, n58, n59⟩ := u
      intro H locs hw (hP : va_P G vwCl [(a_1, .inr (9, [.ref a_2, .int i_0])), (a_2, .inl (cy 0, 600, .inl f_0)), (a_0, .inr (7, [.ref a_1, .ref a_3, .int n2, .int n3, .int n56, .int n57, .int n58, .int n59])), (a_3, .inr (0, [.int i_7, .int i_8, .int i_9, .int i_10, .int i_11, .int i_12, .int i_13, .int i_14, .ref a_4, .ref a_5, .ref a_6, .ref a_7, .ref a_8, .ref a_9, .ref a_10, .ref a_11, .ref a_12, .ref a_13]))] H) (hD : va_D A [(a_1, .inr (9, [.ref a_2, .int i_0])), (a_2, .inl (cy 0, 600, .inl f_0)), (a_0, .inr (7, [.ref a_1, .ref a_3, .int n2, .int n3, .int n56, .int n57, .int n58, .int n59])), (a_3, .inr (0, [.int i_7, .int i_8, .int i_9, .int i_10, .int i_11, .int i_12, .int i_13, .int i_14, .ref a_4, .ref a_5, .ref a_6, .ref a_7, .ref a_8, .ref a_9, .ref a_10, .ref a_11, .ref a_12, .ref a_13]))]) hS
      obtain ⟨w60, w61, w62⟩ := hw
      refine lv_aload_n hx hb dX7_takeBookLine_20 rfl (lv_at hl 0 rfl) ?_
      refine va_get (D := G) (ci := 7) (v := .ref a_3) (C := RX7) (T := TX7) (N := 8) hx hb hts (mm_i inlX7) hown hK.1 hP 2 rfl rfl 1 (by decide) (mm_h hts mm_w65) (fun _ h9 => h9) rfl dX7_takeBookLine_21 ?_
      refine lv_aload_n hx hb dX7_takeBookLine_24 rfl (lv_at hl 0 rfl) ?_
      refine lv_iconst (v := 0) hx hb dX7_takeBookLine_25 (by decide) ?_
      refine lv_bipush (v := 10) hx hb dX7_takeBookLine_26 (by decide) ?_
      refine mm_fini (va_runV (As := [.int 0, .int 10]) (rest := [.ref a_3]) ⟨hx, hb, hml, hown, hts⟩ (K302_X7_takeNumber l G cy H.size a_0 a_1 a_2 i_0 f_0 a_3 n2 n3 n56 n57 n58 n59 h0 h1 (mm_wk w4 (by decide)) w60 w61 w62) (cwV 2 hts (mm_gV mm_w315 mm_w316 mm_w317 mm_w19 mm_w318) rfl rfl rfl hd_X7_takeNumber ⟨by rw [hRf]; exact Nat.le_of_ble_eq_true rfl, by rw [hRl]; exact Nat.le_of_ble_eq_true rfl⟩) (mm_preV hK hZ hS hA hP hD [0, 1, 2] rfl rfl 2 rfl rfl rfl) rfl rfl hl.1 rfl (lv_room (Nat.le_of_ble_eq_true rfl)) dX7_takeBookLine_28 ⟨by rw [hRc]; exact Nat.le_of_ble_eq_true rfl, by rw [hRs]; exact Nat.le_of_ble_eq_true rfl⟩) hP hD hS hA (fun u : Int32 × Int32 × Int32 × Int32 × Int32 × Int32 => [(a_1, .inr (9, [.ref a_2, .int i_0])), (a_2, .inl (cy 0, 600, .inl f_0)), (a_0, .inr (7, [.ref a_1, .ref a_3, .int u.1, .int u.2.1, .int u.2.2.1, .int u.2.2.2.1, .int u.2.2.2.2.1, .int u.2.2.2.2.2])), (a_3, .inr (0, [.int i_7, .int i_8, .int i_9, .int i_10, .int i_11, .int i_12, .int i_13, .int i_14, .ref a_4, .ref a_5, .ref a_6, .ref a_7, .ref a_8, .ref a_9, .ref a_10, .ref a_11, .ref a_12, .ref a_13]))]) [0, 1, 2] [3] (n := 4) (fun _ => rfl) (by decide +kernel) (by decide +kernel) rfl (fun _ => rfl) (wr := [(a_3, .inr (0, [.int i_7, .int i_8, .int i_9, .int i_10, .int i_11, .int i_12, .int i_13, .int i_14, .ref a_4, .ref a_5, .ref a_6, .ref a_7, .ref a_8, .ref a_9, .ref a_10, .ref a_11, .ref a_12, .ref a_13]))]) rfl (fun _ => rfl) (fun _ => rfl) ?_
      clear hP hD hS
      clear H locs
      intro v69 u
      obtain ⟨n63, n64, n65, n66, n67, n68⟩ := u
      intro H locs hw (hP : va_P G vwCl [(a_1, .inr (9, [.ref a_2, .int i_0])), (a_2, .inl (cy 0, 600, .inl f_0)), (a_0, .inr (7, [.ref a_1, .ref a_3, .int n63, .int n64, .int n65, .int n66, .int n67, .int n68])), (a_3, .inr (0, [.int i_7, .int i_8, .int i_9, .int i_10, .int i_11, .int i_12, .int i_13, .int i_14, .ref a_4, .ref a_5, .ref a_6, .ref a_7, .ref a_8, .ref a_9, .ref a_10, .ref a_11, .ref a_12, .ref a_13]))] H) (hD : va_D A [(a_1, .inr (9, [.ref a_2, .int i_0])), (a_2, .inl (cy 0, 600, .inl f_0)), (a_0, .inr (7, [.ref a_1, .ref a_3, .int n63, .int n64, .int n65, .int n66, .int n67, .int n68])), (a_3, .inr (0, [.int i_7, .int i_8, .int i_9, .int i_10, .int i_11, .int i_12, .int i_13, .int i_14, .ref a_4, .ref a_5, .ref a_6, .ref a_7, .ref a_8, .ref a_9, .ref a_10, .ref a_11, .ref a_12, .ref a_13]))]) hS
      obtain ⟨w70, w71, w72, w73, hw⟩ := hw
      have w74 := hw
      refine va_put (D := G) (ci := 0) (v := .int v69) (ty := tyX0 1) (C := RX0) (T := TX0) (N := 18) hx hb hts (mm_i inlX0) tyX0 tyX0_ok nmX0 hown hK.1 hP hD hS 3 rfl rfl 1 (by decide) (mm_h hts mm_w253) (fun _ h9 => h9) rfl (tyX0_ok 1 (by decide)) rfl rfl (Nat.le_of_ble_eq_true rfl) dX7_takeBookLine_31 ?_
      clear hP hD hS
      clear H locs
      intro H locs (hP : va_P G vwCl [(a_1, .inr (9, [.ref a_2, .int i_0])), (a_2, .inl (cy 0, 600, .inl f_0)), (a_0, .inr (7, [.ref a_1, .ref a_3, .int n63, .int n64, .int n65, .int n66, .int n67, .int n68])), (a_3, .inr (0, [.int i_7, .int v69, .int i_9, .int i_10, .int i_11, .int i_12, .int i_13, .int i_14, .ref a_4, .ref a_5, .ref a_6, .ref a_7, .ref a_8, .ref a_9, .ref a_10, .ref a_11, .ref a_12, .ref a_13]))] H) (hD : va_D A [(a_1, .inr (9, [.ref a_2, .int i_0])), (a_2, .inl (cy 0, 600, .inl f_0)), (a_0, .inr (7, [.ref a_1, .ref a_3, .int n63, .int n64, .int n65, .int n66, .int n67, .int n68])), (a_3, .inr (0, [.int i_7, .int v69, .int i_9, .int i_10, .int i_11, .int i_12, .int i_13, .int i_14, .ref a_4, .ref a_5, .ref a_6, .ref a_7, .ref a_8, .ref a_9, .ref a_10, .ref a_11, .ref a_12, .ref a_13]))]) hS
      refine lv_aload_n hx hb dX7_takeBookLine_34 rfl (lv_at hl 0 rfl) ?_
      refine lv_aload_n hx hb dX7_takeBookLine_35 rfl (lv_at hl 0 rfl) ?_
      refine va_ldcS hx hb hown (hK.2.2.2 2 "MissingMeaning$Scribe" 105 "stock" rfl) dX7_takeBookLine_36 ?_
      refine mm_finir (va_runV (As := [.ref (cy 104)]) (rest := [.ref a_0]) ⟨hx, hb, hml, hown, hts⟩ (K318_X7_isName l G cy H.size a_0 a_1 a_2 i_0 f_0 a_3 n63 n64 n65 n66 n67 n68 h0 h1 w71 w72 w73) (cwV 1 hts (mm_gV mm_w254 mm_w255 mm_w256 mm_w19 mm_w257) rfl rfl rfl hd_X7_isName ⟨by rw [hRf]; exact Nat.le_of_ble_eq_true rfl, by rw [hRl]; exact Nat.le_of_ble_eq_true rfl⟩) (mm_preV hK hZ hS hA hP hD [0, 1, 2] rfl rfl 2 rfl rfl rfl) rfl rfl hl.1 rfl (lv_room (Nat.le_of_ble_eq_true rfl)) dX7_takeBookLine_38 ⟨by rw [hRc]; exact Nat.le_of_ble_eq_true rfl, by rw [hRs]; exact Nat.le_of_ble_eq_true rfl⟩) hP hD hS hA [0, 1, 2] rfl (fun _ => rfl) ?_
      clear hP hD hS
      clear H locs
      intro v75 _u H locs hw hP hD hS
      rcases hw with rfl | rfl
      · refine mm_finv (va_runV (As := [.int 0]) (rest := []) ⟨hx, hb, hml, hown, hts⟩ (K169_X7_takeIf l G cy H.size a_0 a_1 a_3 n63 n64 n65 n66 n67 n68 w70 w72) (cwV 1 hts (mm_gV mm_w307 mm_w308 mm_w309 mm_w19 mm_w310) rfl rfl rfl hd_X7_takeIf ⟨by rw [hRf]; exact Nat.le_of_ble_eq_true rfl, by rw [hRl]; exact Nat.le_of_ble_eq_true rfl⟩) (mm_preV hK hZ hS hA hP hD [2] rfl rfl 2 rfl rfl rfl) rfl rfl hl.1 rfl (lv_room (Nat.le_of_ble_eq_true rfl)) dX7_takeBookLine_41 ⟨by rw [hRc]; exact Nat.le_of_ble_eq_true rfl, by rw [hRs]; exact Nat.le_of_ble_eq_true rfl⟩) hP hD hS hA (fun u : Int32 × Int32 => [(a_1, .inr (9, [.ref a_2, .int i_0])), (a_2, .inl (cy 0, 600, .inl f_0)), (a_0, .inr (7, [.ref a_1, .ref a_3, .int u.1, .int u.2, .int n65, .int n66, .int n67, .int n68])), (a_3, .inr (0, [.int i_7, .int v69, .int i_9, .int i_10, .int i_11, .int i_12, .int i_13, .int i_14, .ref a_4, .ref a_5, .ref a_6, .ref a_7, .ref a_8, .ref a_9, .ref a_10, .ref a_11, .ref a_12, .ref a_13]))]) [2] [0, 1, 3] (n := 4) (fun _ => rfl) (by decide +kernel) (by decide +kernel) rfl (fun _ => rfl) (wr := [(a_1, .inr (9, [.ref a_2, .int i_0])), (a_2, .inl (cy 0, 600, .inl f_0)), (a_3, .inr (0, [.int i_7, .int v69, .int i_9, .int i_10, .int i_11, .int i_12, .int i_13, .int i_14, .ref a_4, .ref a_5, .ref a_6, .ref a_7, .ref a_8, .ref a_9, .ref a_10, .ref a_11, .ref a_12, .ref a_13]))]) rfl (fun _ => rfl) (fun _ => rfl) ?_
        clear hP hD hS
        clear H locs
        intro u
        obtain ⟨n76, n77⟩ := u
        intro H locs hw (hP : va_P G vwCl [(a_1, .inr (9, [.ref a_2, .int i_0])), (a_2, .inl (cy 0, 600, .inl f_0)), (a_0, .inr (7, [.ref a_1, .ref a_3, .int n76, .int n77, .int n65, .int n66, .int n67, .int n68])), (a_3, .inr (0, [.int i_7, .int v69, .int i_9, .int i_10, .int i_11, .int i_12, .int i_13, .int i_14, .ref a_4, .ref a_5, .ref a_6, .ref a_7, .ref a_8, .ref a_9, .ref a_10, .ref a_11, .ref a_12, .ref a_13]))] H) (hD : va_D A [(a_1, .inr (9, [.ref a_2, .int i_0])), (a_2, .inl (cy 0, 600, .inl f_0)), (a_0, .inr (7, [.ref a_1, .ref a_3, .int n76, .int n77, .int n65, .int n66, .int n67, .int n68])), (a_3, .inr (0, [.int i_7, .int v69, .int i_9, .int i_10, .int i_11, .int i_12, .int i_13, .int i_14, .ref a_4, .ref a_5, .ref a_6, .ref a_7, .ref a_8, .ref a_9, .ref a_10, .ref a_11, .ref a_12, .ref a_13]))]) hS
        have w78 := hw
        refine lv_aload_n hx hb dX7_takeBookLine_44 rfl (lv_at hl 0 rfl) ?_
        refine va_get (D := G) (ci := 7) (v := .ref a_3) (C := RX7) (T := TX7) (N := 8) hx hb hts (mm_i inlX7) hown hK.1 hP 2 rfl rfl 1 (by decide) (mm_h hts mm_w65) (fun _ h9 => h9) rfl dX7_takeBookLine_45 ?_
        refine lv_aload_n hx hb dX7_takeBookLine_48 rfl (lv_at hl 0 rfl) ?_
        refine lv_iconst (v := 0) hx hb dX7_takeBookLine_49 (by decide) ?_
        refine lv_bipush (v := 99) hx hb dX7_takeBookLine_50 (by decide) ?_
        refine mm_fini (va_runV (As := [.int 0, .int 99]) (rest := [.ref a_3]) ⟨hx, hb, hml, hown, hts⟩ (K272_X7_takeNumber l G cy H.size a_0 a_1 a_2 i_0 f_0 a_3 n76 n77 n65 n66 n67 n68 h0 h1 (mm_wk w78 (by decide)) w71 w72 w73) (cwV 2 hts (mm_gV mm_w315 mm_w316 mm_w317 mm_w19 mm_w318) rfl rfl rfl hd_X7_takeNumber ⟨by rw [hRf]; exact Nat.le_of_ble_eq_true rfl, by rw [hRl]; exact Nat.le_of_ble_eq_true rfl⟩) (mm_preV hK hZ hS hA hP hD [0, 1, 2] rfl rfl 2 rfl rfl rfl) rfl rfl hl.1 rfl (lv_room (Nat.le_of_ble_eq_true rfl)) dX7_takeBookLine_52 ⟨by rw [hRc]; exact Nat.le_of_ble_eq_true rfl, by rw [hRs]; exact Nat.le_of_ble_eq_true rfl⟩) hP hD hS hA (fun u : Int32 × Int32 × Int32 × Int32 × Int32 × Int32 => [(a_1, .inr (9, [.ref a_2, .int i_0])), (a_2, .inl (cy 0, 600, .inl f_0)), (a_0, .inr (7, [.ref a_1, .ref a_3, .int u.1, .int u.2.1, .int u.2.2.1, .int u.2.2.2.1, .int u.2.2.2.2.1, .int u.2.2.2.2.2])), (a_3, .inr (0, [.int i_7, .int v69, .int i_9, .int i_10, .int i_11, .int i_12, .int i_13, .int i_14, .ref a_4, .ref a_5, .ref a_6, .ref a_7, .ref a_8, .ref a_9, .ref a_10, .ref a_11, .ref a_12, .ref a_13]))]) [0, 1, 2] [3] (n := 4) (fun _ => rfl) (by decide +kernel) (by decide +kernel) rfl (fun _ => rfl) (wr := [(a_3, .inr (0, [.int i_7, .int v69, .int i_9, .int i_10, .int i_11, .int i_12, .int i_13, .int i_14, .ref a_4, .ref a_5, .ref a_6, .ref a_7, .ref a_8, .ref a_9, .ref a_10, .ref a_11, .ref a_12, .ref a_13]))]) rfl (fun _ => rfl) (fun _ => rfl) ?_
        clear hP hD hS
        clear H locs
        intro v85 u
        obtain ⟨n79, n80, n81, n82, n83, n84⟩ := u
        intro H locs hw (hP : va_P G vwCl [(a_1, .inr (9, [.ref a_2, .int i_0])), (a_2, .inl (cy 0, 600, .inl f_0)), (a_0, .inr (7, [.ref a_1, .ref a_3, .int n79, .int n80, .int n81, .int n82, .int n83, .int n84])), (a_3, .inr (0, [.int i_7, .int v69, .int i_9, .int i_10, .int i_11, .int i_12, .int i_13, .int i_14, .ref a_4, .ref a_5, .ref a_6, .ref a_7, .ref a_8, .ref a_9, .ref a_10, .ref a_11, .ref a_12, .ref a_13]))] H) (hD : va_D A [(a_1, .inr (9, [.ref a_2, .int i_0])), (a_2, .inl (cy 0, 600, .inl f_0)), (a_0, .inr (7, [.ref a_1, .ref a_3, .int n79, .int n80, .int n81, .int n82, .int n83, .int n84])), (a_3, .inr (0, [.int i_7, .int v69, .int i_9, .int i_10, .int i_11, .int i_12, .int i_13, .int i_14, .ref a_4, .ref a_5, .ref a_6, .ref a_7, .ref a_8, .ref a_9, .ref a_10, .ref a_11, .ref a_12, .ref a_13]))]) hS
        obtain ⟨w86, w87, w88, w89, hw⟩ := hw
        have w90 := hw
        refine va_put (D := G) (ci := 0) (v := .int v85) (ty := tyX0 2) (C := RX0) (T := TX0) (N := 18) hx hb hts (mm_i inlX0) tyX0 tyX0_ok nmX0 hown hK.1 hP hD hS 3 rfl rfl 2 (by decide) (mm_h hts mm_w209) (fun _ h9 => h9) rfl (tyX0_ok 2 (by decide)) rfl rfl (Nat.le_of_ble_eq_true rfl) dX7_takeBookLine_55 ?_
        clear hP hD hS
        clear H locs
        intro H locs (hP : va_P G vwCl [(a_1, .inr (9, [.ref a_2, .int i_0])), (a_2, .inl (cy 0, 600, .inl f_0)), (a_0, .inr (7, [.ref a_1, .ref a_3, .int n79, .int n80, .int n81, .int n82, .int n83, .int n84])), (a_3, .inr (0, [.int i_7, .int v69, .int v85, .int i_10, .int i_11, .int i_12, .int i_13, .int i_14, .ref a_4, .ref a_5, .ref a_6, .ref a_7, .ref a_8, .ref a_9, .ref a_10, .ref a_11, .ref a_12, .ref a_13]))] H) (hD : va_D A [(a_1, .inr (9, [.ref a_2, .int i_0])), (a_2, .inl (cy 0, 600, .inl f_0)), (a_0, .inr (7, [.ref a_1, .ref a_3, .int n79, .int n80, .int n81, .int n82, .int n83, .int n84])), (a_3, .inr (0, [.int i_7, .int v69, .int v85, .int i_10, .int i_11, .int i_12, .int i_13, .int i_14, .ref a_4, .ref a_5, .ref a_6, .ref a_7, .ref a_8, .ref a_9, .ref a_10, .ref a_11, .ref a_12, .ref a_13]))]) hS
        subst hAe
        rw [hQ]
        exact W.vret hx hb hr (fun t ht hW => ⟨⟨(n79, n80, n81, n82, n83, n84, v69, v85), rfl, ⟨w86, w87, w88, w89, w74, w90⟩, by rw [ht]; exact hP, hK.warm hW, hD⟩, hS.F ht⟩) hS.2.2 dX7_takeBookLine_58
      · refine mm_finv (va_runV (As := [.int 1]) (rest := []) ⟨hx, hb, hml, hown, hts⟩ (K170_X7_takeIf l G cy H.size a_0 a_1 a_2 i_0 f_0 a_3 n63 n64 n65 n66 n67 n68 h0 h1 w70 w71 w72 w73) (cwV 1 hts (mm_gV mm_w307 mm_w308 mm_w309 mm_w19 mm_w310) rfl rfl rfl hd_X7_takeIf ⟨by rw [hRf]; exact Nat.le_of_ble_eq_true rfl, by rw [hRl]; exact Nat.le_of_ble_eq_true rfl⟩) (mm_preV hK hZ hS hA hP hD [0, 1, 2] rfl rfl 2 rfl rfl rfl) rfl rfl hl.1 rfl (lv_room (Nat.le_of_ble_eq_true rfl)) dX7_takeBookLine_41 ⟨by rw [hRc]; exact Nat.le_of_ble_eq_true rfl, by rw [hRs]; exact Nat.le_of_ble_eq_true rfl⟩) hP hD hS hA (fun u : Int32 × Int32 × Int32 × Int32 => [(a_1, .inr (9, [.ref a_2, .int i_0])), (a_2, .inl (cy 0, 600, .inl f_0)), (a_0, .inr (7, [.ref a_1, .ref a_3, .int n63, .int n64, .int u.1, .int u.2.1, .int u.2.2.1, .int u.2.2.2])), (a_3, .inr (0, [.int i_7, .int v69, .int i_9, .int i_10, .int i_11, .int i_12, .int i_13, .int i_14, .ref a_4, .ref a_5, .ref a_6, .ref a_7, .ref a_8, .ref a_9, .ref a_10, .ref a_11, .ref a_12, .ref a_13]))]) [0, 1, 2] [3] (n := 4) (fun _ => rfl) (by decide +kernel) (by decide +kernel) rfl (fun _ => rfl) (wr := [(a_3, .inr (0, [.int i_7, .int v69, .int i_9, .int i_10, .int i_11, .int i_12, .int i_13, .int i_14, .ref a_4, .ref a_5, .ref a_6, .ref a_7, .ref a_8, .ref a_9, .ref a_10, .ref a_11, .ref a_12, .ref a_13]))]) rfl (fun _ => rfl) (fun _ => rfl) ?_
        clear hP hD hS
        clear H locs
        intro u
        obtain ⟨n91, n92, n93, n94⟩ := u
        intro H locs hw (hP : va_P G vwCl [(a_1, .inr (9, [.ref a_2, .int i_0])), (a_2, .inl (cy 0, 600, .inl f_0)), (a_0, .inr (7, [.ref a_1, .ref a_3, .int n63, .int n64, .int n91, .int n92, .int n93, .int n94])), (a_3, .inr (0, [.int i_7, .int v69, .int i_9, .int i_10, .int i_11, .int i_12, .int i_13, .int i_14, .ref a_4, .ref a_5, .ref a_6, .ref a_7, .ref a_8, .ref a_9, .ref a_10, .ref a_11, .ref a_12, .ref a_13]))] H) (hD : va_D A [(a_1, .inr (9, [.ref a_2, .int i_0])), (a_2, .inl (cy 0, 600, .inl f_0)), (a_0, .inr (7, [.ref a_1, .ref a_3, .int n63, .int n64, .int n91, .int n92, .int n93, .int n94])), (a_3, .inr (0, [.int i_7, .int v69, .int i_9, .int i_10, .int i_11, .int i_12, .int i_13, .int i_14, .ref a_4, .ref a_5, .ref a_6, .ref a_7, .ref a_8, .ref a_9, .ref a_10, .ref a_11, .ref a_12, .ref a_13]))]) hS
        obtain ⟨w95, w96, w97⟩ := hw
        refine lv_aload_n hx hb dX7_takeBookLine_44 rfl (lv_at hl 0 rfl) ?_
        refine va_get (D := G) (ci := 7) (v := .ref a_3) (C := RX7) (T := TX7) (N := 8) hx hb hts (mm_i inlX7) hown hK.1 hP 2 rfl rfl 1 (by decide) (mm_h hts mm_w65) (fun _ h9 => h9) rfl dX7_takeBookLine_45 ?_
        refine lv_aload_n hx hb dX7_takeBookLine_48 rfl (lv_at hl 0 rfl) ?_
        refine lv_iconst (v := 0) hx hb dX7_takeBookLine_49 (by decide) ?_
        refine lv_bipush (v := 99) hx hb dX7_takeBookLine_50 (by decide) ?_
        refine mm_fini (va_runV (As := [.int 0, .int 99]) (rest := [.ref a_3]) ⟨hx, hb, hml, hown, hts⟩ (K272_X7_takeNumber l G cy H.size a_0 a_1 a_2 i_0 f_0 a_3 n63 n64 n91 n92 n93 n94 h0 h1 w70 w95 w96 w97) (cwV 2 hts (mm_gV mm_w315 mm_w316 mm_w317 mm_w19 mm_w318) rfl rfl rfl hd_X7_takeNumber ⟨by rw [hRf]; exact Nat.le_of_ble_eq_true rfl, by rw [hRl]; exact Nat.le_of_ble_eq_true rfl⟩) (mm_preV hK hZ hS hA hP hD [0, 1, 2] rfl rfl 2 rfl rfl rfl) rfl rfl hl.1 rfl (lv_room (Nat.le_of_ble_eq_true rfl)) dX7_takeBookLine_52 ⟨by rw [hRc]; exact Nat.le_of_ble_eq_true rfl, by rw [hRs]; exact Nat.le_of_ble_eq_true rfl⟩) hP hD hS hA (fun u : Int32 × Int32 × Int32 × Int32 × Int32 × Int32 => [(a_1, .inr (9, [.ref a_2, .int i_0])), (a_2, .inl (cy 0, 600, .inl f_0)), (a_0, .inr (7, [.ref a_1, .ref a_3, .int u.1, .int u.2.1, .int u.2.2.1, .int u.2.2.2.1, .int u.2.2.2.2.1, .int u.2.2.2.2.2])), (a_3, .inr (0, [.int i_7, .int v69, .int i_9, .int i_10, .int i_11, .int i_12, .int i_13, .int i_14, .ref a_4, .ref a_5, .ref a_6, .ref a_7, .ref a_8, .ref a_9, .ref a_10, .ref a_11, .ref a_12, .ref a_13]))]) [0, 1, 2] [3] (n := 4) (fun _ => rfl) (by decide +kernel) (by decide +kernel) rfl (fun _ => rfl) (wr := [(a_3, .inr (0, [.int i_7, .int v69, .int i_9, .int i_10, .int i_11, .int i_12, .int i_13, .int i_14, .ref a_4, .ref a_5, .ref a_6, .ref a_7, .ref a_8, .ref a_9, .ref a_10, .ref a_11, .ref a_12, .ref a_13]))]) rfl (fun _ => rfl) (fun _ => rfl) ?_
        clear hP hD hS
        clear H locs
        intro v104 u
        obtain ⟨n98, n99, n100, n101, n102, n103⟩ := u
        intro H locs hw (hP : va_P G vwCl [(a_1, .inr (9, [.ref a_2, .int i_0])), (a_2, .inl (cy 0, 600, .inl f_0)), (a_0, .inr (7, [.ref a_1, .ref a_3, .int n98, .int n99, .int n100, .int n101, .int n102, .int n103])), (a_3, .inr (0, [.int i_7, .int v69, .int i_9, .int i_10, .int i_11, .int i_12, .int i_13, .int i_14, .ref a_4, .ref a_5, .ref a_6, .ref a_7, .ref a_8, .ref a_9, .ref a_10, .ref a_11, .ref a_12, .ref a_13]))] H) (hD : va_D A [(a_1, .inr (9, [.ref a_2, .int i_0])), (a_2, .inl (cy 0, 600, .inl f_0)), (a_0, .inr (7, [.ref a_1, .ref a_3, .int n98, .int n99, .int n100, .int n101, .int n102, .int n103])), (a_3, .inr (0, [.int i_7, .int v69, .int i_9, .int i_10, .int i_11, .int i_12, .int i_13, .int i_14, .ref a_4, .ref a_5, .ref a_6, .ref a_7, .ref a_8, .ref a_9, .ref a_10, .ref a_11, .ref a_12, .ref a_13]))]) hS
        obtain ⟨w105, w106, w107, w108, hw⟩ := hw
        have w109 := hw
        refine va_put (D := G) (ci := 0) (v := .int v104) (ty := tyX0 2) (C := RX0) (T := TX0) (N := 18) hx hb hts (mm_i inlX0) tyX0 tyX0_ok nmX0 hown hK.1 hP hD hS 3 rfl rfl 2 (by decide) (mm_h hts mm_w209) (fun _ h9 => h9) rfl (tyX0_ok 2 (by decide)) rfl rfl (Nat.le_of_ble_eq_true rfl) dX7_takeBookLine_55 ?_
        clear hP hD hS
        clear H locs
        intro H locs (hP : va_P G vwCl [(a_1, .inr (9, [.ref a_2, .int i_0])), (a_2, .inl (cy 0, 600, .inl f_0)), (a_0, .inr (7, [.ref a_1, .ref a_3, .int n98, .int n99, .int n100, .int n101, .int n102, .int n103])), (a_3, .inr (0, [.int i_7, .int v69, .int v104, .int i_10, .int i_11, .int i_12, .int i_13, .int i_14, .ref a_4, .ref a_5, .ref a_6, .ref a_7, .ref a_8, .ref a_9, .ref a_10, .ref a_11, .ref a_12, .ref a_13]))] H) (hD : va_D A [(a_1, .inr (9, [.ref a_2, .int i_0])), (a_2, .inl (cy 0, 600, .inl f_0)), (a_0, .inr (7, [.ref a_1, .ref a_3, .int n98, .int n99, .int n100, .int n101, .int n102, .int n103])), (a_3, .inr (0, [.int i_7, .int v69, .int v104, .int i_10, .int i_11, .int i_12, .int i_13, .int i_14, .ref a_4, .ref a_5, .ref a_6, .ref a_7, .ref a_8, .ref a_9, .ref a_10, .ref a_11, .ref a_12, .ref a_13]))]) hS
        subst hAe
        rw [hQ]
        exact W.vret hx hb hr (fun t ht hW => ⟨⟨(n98, n99, n100, n101, n102, n103, v69, v104), rfl, ⟨w105, w106, w107, w108, w74, w109⟩, by rw [ht]; exact hP, hK.warm hW, hD⟩, hS.F ht⟩) hS.2.2 dX7_takeBookLine_58
  · refine mm_finv (va_runV (As := [.int 1]) (rest := []) ⟨hx, hb, hml, hown, hts⟩ (K170_X7_takeIf l G cy H.size a_0 a_1 a_2 i_0 f_0 a_3 i_1 i_2 i_3 i_4 i_5 i_6 h0 h1 h2 h3 h4 h5) (cwV 1 hts (mm_gV mm_w307 mm_w308 mm_w309 mm_w19 mm_w310) rfl rfl rfl hd_X7_takeIf ⟨by rw [hRf]; exact Nat.le_of_ble_eq_true rfl, by rw [hRl]; exact Nat.le_of_ble_eq_true rfl⟩) (mm_preV hK hZ hS hA hP hD [0, 1, 2] rfl rfl 2 rfl rfl rfl) rfl rfl hl.1 rfl (lv_room (Nat.le_of_ble_eq_true rfl)) dX7_takeBookLine_7 ⟨by rw [hRc]; exact Nat.le_of_ble_eq_true rfl, by rw [hRs]; exact Nat.le_of_ble_eq_true rfl⟩) hP hD hS hA (fun u : Int32 × Int32 × Int32 × Int32 => [(a_1, .inr (9, [.ref a_2, .int i_0])), (a_2, .inl (cy 0, 600, .inl f_0)), (a_0, .inr (7, [.ref a_1, .ref a_3, .int i_1, .int i_2, .int u.1, .int u.2.1, .int u.2.2.1, .int u.2.2.2])), (a_3, .inr (0, [.int i_7, .int i_8, .int i_9, .int i_10, .int i_11, .int i_12, .int i_13, .int i_14, .ref a_4, .ref a_5, .ref a_6, .ref a_7, .ref a_8, .ref a_9, .ref a_10, .ref a_11, .ref a_12, .ref a_13]))]) [0, 1, 2] [3] (n := 4) (fun _ => rfl) (by decide +kernel) (by decide +kernel) rfl (fun _ => rfl) (wr := [(a_3, .inr (0, [.int i_7, .int i_8, .int i_9, .int i_10, .int i_11, .int i_12, .int i_13, .int i_14, .ref a_4, .ref a_5, .ref a_6, .ref a_7, .ref a_8, .ref a_9, .ref a_10, .ref a_11, .ref a_12, .ref a_13]))]) rfl (fun _ => rfl) (fun _ => rfl) ?_
    clear hP hD hS
    clear H locs
    intro u
    obtain ⟨n110, n111, n112, n113⟩ := u
    intro H locs hw (hP : va_P G vwCl [(a_1, .inr (9, [.ref a_2, .int i_0])), (a_2, .inl (cy 0, 600, .inl f_0)), (a_0, .inr (7, [.ref a_1, .ref a_3, .int i_1, .int i_2, .int n110, .int n111, .int n112, .int n113])), (a_3, .inr (0, [.int i_7, .int i_8, .int i_9, .int i_10, .int i_11, .int i_12, .int i_13, .int i_14, .ref a_4, .ref a_5, .ref a_6, .ref a_7, .ref a_8, .ref a_9, .ref a_10, .ref a_11, .ref a_12, .ref a_13]))] H) (hD : va_D A [(a_1, .inr (9, [.ref a_2, .int i_0])), (a_2, .inl (cy 0, 600, .inl f_0)), (a_0, .inr (7, [.ref a_1, .ref a_3, .int i_1, .int i_2, .int n110, .int n111, .int n112, .int n113])), (a_3, .inr (0, [.int i_7, .int i_8, .int i_9, .int i_10, .int i_11, .int i_12, .int i_13, .int i_14, .ref a_4, .ref a_5, .ref a_6, .ref a_7, .ref a_8, .ref a_9, .ref a_10, .ref a_11, .ref a_12, .ref a_13]))]) hS
    obtain ⟨w114, w115, w116⟩ := hw
    refine lv_aload_n hx hb dX7_takeBookLine_10 rfl (lv_at hl 0 rfl) ?_
    refine lv_aload_n hx hb dX7_takeBookLine_11 rfl (lv_at hl 0 rfl) ?_
    refine va_ldcS hx hb hown (hK.2.2.2 1 "MissingMeaning$Scribe" 97 "odds" rfl) dX7_takeBookLine_12 ?_
    refine mm_finir (va_runV (As := [.ref (cy 102)]) (rest := [.ref a_0]) ⟨hx, hb, hml, hown, hts⟩ (K301_X7_isName l G cy H.size a_0 a_1 a_2 i_0 f_0 a_3 i_1 i_2 n110 n111 n112 n113 h0 h1 w114 w115 w116) (cwV 1 hts (mm_gV mm_w254 mm_w255 mm_w256 mm_w19 mm_w257) rfl rfl rfl hd_X7_isName ⟨by rw [hRf]; exact Nat.le_of_ble_eq_true rfl, by rw [hRl]; exact Nat.le_of_ble_eq_true rfl⟩) (mm_preV hK hZ hS hA hP hD [0, 1, 2] rfl rfl 2 rfl rfl rfl) rfl rfl hl.1 rfl (lv_room (Nat.le_of_ble_eq_true rfl)) dX7_takeBookLine_14 ⟨by rw [hRc]; exact Nat.le_of_ble_eq_true rfl, by rw [hRs]; exact Nat.le_of_ble_eq_true rfl⟩) hP hD hS hA [0, 1, 2] rfl (fun _ => rfl) ?_
    clear hP hD hS
    clear H locs
    intro v117 _u H locs hw hP hD hS
    rcases hw with rfl | rfl
    · refine mm_finv (va_runV (As := [.int 0]) (rest := []) ⟨hx, hb, hml, hown, hts⟩ (K169_X7_takeIf l G cy H.size a_0 a_1 a_3 i_1 i_2 n110 n111 n112 n113 h2 w115) (cwV 1 hts (mm_gV mm_w307 mm_w308 mm_w309 mm_w19 mm_w310) rfl rfl rfl hd_X7_takeIf ⟨by rw [hRf]; exact Nat.le_of_ble_eq_true rfl, by rw [hRl]; exact Nat.le_of_ble_eq_true rfl⟩) (mm_preV hK hZ hS hA hP hD [2] rfl rfl 2 rfl rfl rfl) rfl rfl hl.1 rfl (lv_room (Nat.le_of_ble_eq_true rfl)) dX7_takeBookLine_17 ⟨by rw [hRc]; exact Nat.le_of_ble_eq_true rfl, by rw [hRs]; exact Nat.le_of_ble_eq_true rfl⟩) hP hD hS hA (fun u : Int32 × Int32 => [(a_1, .inr (9, [.ref a_2, .int i_0])), (a_2, .inl (cy 0, 600, .inl f_0)), (a_0, .inr (7, [.ref a_1, .ref a_3, .int u.1, .int u.2, .int n110, .int n111, .int n112, .int n113])), (a_3, .inr (0, [.int i_7, .int i_8, .int i_9, .int i_10, .int i_11, .int i_12, .int i_13, .int i_14, .ref a_4, .ref a_5, .ref a_6, .ref a_7, .ref a_8, .ref a_9, .ref a_10, .ref a_11, .ref a_12, .ref a_13]))]) [2] [0, 1, 3] (n := 4) (fun _ => rfl) (by decide +kernel) (by decide +kernel) rfl (fun _ => rfl) (wr := [(a_1, .inr (9, [.ref a_2, .int i_0])), (a_2, .inl (cy 0, 600, .inl f_0)), (a_3, .inr (0, [.int i_7, .int i_8, .int i_9, .int i_10, .int i_11, .int i_12, .int i_13, .int i_14, .ref a_4, .ref a_5, .ref a_6, .ref a_7, .ref a_8, .ref a_9, .ref a_10, .ref a_11, .ref a_12, .ref a_13]))]) rfl (fun _ => rfl) (fun _ => rfl) ?_
      clear hP hD hS
      clear H locs
      intro u
      obtain ⟨n118, n119⟩ := u
      intro H locs hw (hP : va_P G vwCl [(a_1, .inr (9, [.ref a_2, .int i_0])), (a_2, .inl (cy 0, 600, .inl f_0)), (a_0, .inr (7, [.ref a_1, .ref a_3, .int n118, .int n119, .int n110, .int n111, .int n112, .int n113])), (a_3, .inr (0, [.int i_7, .int i_8, .int i_9, .int i_10, .int i_11, .int i_12, .int i_13, .int i_14, .ref a_4, .ref a_5, .ref a_6, .ref a_7, .ref a_8, .ref a_9, .ref a_10, .ref a_11, .ref a_12, .ref a_13]))] H) (hD : va_D A [(a_1, .inr (9, [.ref a_2, .int i_0])), (a_2, .inl (cy 0, 600, .inl f_0)), (a_0, .inr (7, [.ref a_1, .ref a_3, .int n118, .int n119, .int n110, .int n111, .int n112, .int n113])), (a_3, .inr (0, [.int i_7, .int i_8, .int i_9, .int i_10, .int i_11, .int i_12, .int i_13, .int i_14, .ref a_4, .ref a_5, .ref a_6, .ref a_7, .ref a_8, .ref a_9, .ref a_10, .ref a_11, .ref a_12, .ref a_13]))]) hS
      have w120 := hw
      refine lv_aload_n hx hb dX7_takeBookLine_20 rfl (lv_at hl 0 rfl) ?_
      refine va_get (D := G) (ci := 7) (v := .ref a_3) (C := RX7) (T := TX7) (N := 8) hx hb hts (mm_i inlX7) hown hK.1 hP 2 rfl rfl 1 (by decide) (mm_h hts mm_w65) (fun _ h9 => h9) rfl dX7_takeBookLine_21 ?_
      refine lv_aload_n hx hb dX7_takeBookLine_24 rfl (lv_at hl 0 rfl) ?_
      refine lv_iconst (v := 0) hx hb dX7_takeBookLine_25 (by decide) ?_
      refine lv_bipush (v := 10) hx hb dX7_takeBookLine_26 (by decide) ?_
      refine mm_fini (va_runV (As := [.int 0, .int 10]) (rest := [.ref a_3]) ⟨hx, hb, hml, hown, hts⟩ (K302_X7_takeNumber l G cy H.size a_0 a_1 a_2 i_0 f_0 a_3 n118 n119 n110 n111 n112 n113 h0 h1 (mm_wk w120 (by decide)) w114 w115 w116) (cwV 2 hts (mm_gV mm_w315 mm_w316 mm_w317 mm_w19 mm_w318) rfl rfl rfl hd_X7_takeNumber ⟨by rw [hRf]; exact Nat.le_of_ble_eq_true rfl, by rw [hRl]; exact Nat.le_of_ble_eq_true rfl⟩) (mm_preV hK hZ hS hA hP hD [0, 1, 2] rfl rfl 2 rfl rfl rfl) rfl rfl hl.1 rfl (lv_room (Nat.le_of_ble_eq_true rfl)) dX7_takeBookLine_28 ⟨by rw [hRc]; exact Nat.le_of_ble_eq_true rfl, by rw [hRs]; exact Nat.le_of_ble_eq_true rfl⟩) hP hD hS hA (fun u : Int32 × Int32 × Int32 × Int32 × Int32 × Int32 => [(a_1, .inr (9, [.ref a_2, .int i_0])), (a_2, .inl (cy 0, 600, .inl f_0)), (a_0, .inr (7, [.ref a_1, .ref a_3, .int u.1, .int u.2.1, .int u.2.2.1, .int u.2.2.2.1, .int u.2.2.2.2.1, .int u.2.2.2.2.2])), (a_3, .inr (0, [.int i_7, .int i_8, .int i_9, .int i_10, .int i_11, .int i_12, .int i_13, .int i_14, .ref a_4, .ref a_5, .ref a_6, .ref a_7, .ref a_8, .ref a_9, .ref a_10, .ref a_11, .ref a_12, .ref a_13]))]) [0, 1, 2] [3] (n := 4) (fun _ => rfl) (by decide +kernel) (by decide +kernel) rfl (fun _ => rfl) (wr := [(a_3, .inr (0, [.int i_7, .int i_8, .int i_9, .int i_10, .int i_11, .int i_12, .int i_13, .int i_14, .ref a_4, .ref a_5, .ref a_6, .ref a_7, .ref a_8, .ref a_9, .ref a_10, .ref a_11, .ref a_12, .ref a_13]))]) rfl (fun _ => rfl) (fun _ => rfl) ?_
      clear hP hD hS
      clear H locs
      intro v127 u
      obtain ⟨n121, n122, n123, n124, n125, n126⟩ := u
      intro H locs hw (hP : va_P G vwCl [(a_1, .inr (9, [.ref a_2, .int i_0])), (a_2, .inl (cy 0, 600, .inl f_0)), (a_0, .inr (7, [.ref a_1, .ref a_3, .int n121, .int n122, .int n123, .int n124, .int n125, .int n126])), (a_3, .inr (0, [.int i_7, .int i_8, .int i_9, .int i_10, .int i_11, .int i_12, .int i_13, .int i_14, .ref a_4, .ref a_5, .ref a_6, .ref a_7, .ref a_8, .ref a_9, .ref a_10, .ref a_11, .ref a_12, .ref a_13]))] H) (hD : va_D A [(a_1, .inr (9, [.ref a_2, .int i_0])), (a_2, .inl (cy 0, 600, .inl f_0)), (a_0, .inr (7, [.ref a_1, .ref a_3, .int n121, .int n122, .int n123, .int n124, .int n125, .int n126])), (a_3, .inr (0, [.int i_7, .int i_8, .int i_9, .int i_10, .int i_11, .int i_12, .int i_13, .int i_14, .ref a_4, .ref a_5, .ref a_6, .ref a_7, .ref a_8, .ref a_9, .ref a_10, .ref a_11, .ref a_12, .ref a_13]))]) hS
      obtain ⟨w128, w129, w130, w131, hw⟩ := hw
      have w132 := hw
      refine va_put (D := G) (ci := 0) (v := .int v127) (ty := tyX0 1) (C := RX0) (T := TX0) (N := 18) hx hb hts (mm_i inlX0) tyX0 tyX0_ok nmX0 hown hK.1 hP hD hS 3 rfl rfl 1 (by decide) (mm_h hts mm_w253) (fun _ h9 => h9) rfl (tyX0_ok 1 (by decide)) rfl rfl (Nat.le_of_ble_eq_true rfl) dX7_takeBookLine_31 ?_
      clear hP hD hS
      clear H locs
      intro H locs (hP : va_P G vwCl [(a_1, .inr (9, [.ref a_2, .int i_0])), (a_2, .inl (cy 0, 600, .inl f_0)), (a_0, .inr (7, [.ref a_1, .ref a_3, .int n121, .int n122, .int n123, .int n124, .int n125, .int n126])), (a_3, .inr (0, [.int i_7, .int v127, .int i_9, .int i_10, .int i_11, .int i_12, .int i_13, .int i_14, .ref a_4, .ref a_5, .ref a_6, .ref a_7, .ref a_8, .ref a_9, .ref a_10, .ref a_11, .ref a_12, .ref a_13]))] H) (hD : va_D A [(a_1, .inr (9, [.ref a_2, .int i_0])), (a_2, .inl (cy 0, 600, .inl f_0)), (a_0, .inr (7, [.ref a_1, .ref a_3, .int n121, .int n122, .int n123, .int n124, .int n125, .int n126])), (a_3, .inr (0, [.int i_7, .int v127, .int i_9, .int i_10, .int i_11, .int i_12, .int i_13, .int i_14, .ref a_4, .ref a_5, .ref a_6, .ref a_7, .ref a_8, .ref a_9, .ref a_10, .ref a_11, .ref a_12, .ref a_13]))]) hS
      refine lv_aload_n hx hb dX7_takeBookLine_34 rfl (lv_at hl 0 rfl) ?_
      refine lv_aload_n hx hb dX7_takeBookLine_35 rfl (lv_at hl 0 rfl) ?_
      refine va_ldcS hx hb hown (hK.2.2.2 2 "MissingMeaning$Scribe" 105 "stock" rfl) dX7_takeBookLine_36 ?_
      refine mm_finir (va_runV (As := [.ref (cy 104)]) (rest := [.ref a_0]) ⟨hx, hb, hml, hown, hts⟩ (K318_X7_isName l G cy H.size a_0 a_1 a_2 i_0 f_0 a_3 n121 n122 n123 n124 n125 n126 h0 h1 w129 w130 w131) (cwV 1 hts (mm_gV mm_w254 mm_w255 mm_w256 mm_w19 mm_w257) rfl rfl rfl hd_X7_isName ⟨by rw [hRf]; exact Nat.le_of_ble_eq_true rfl, by rw [hRl]; exact Nat.le_of_ble_eq_true rfl⟩) (mm_preV hK hZ hS hA hP hD [0, 1, 2] rfl rfl 2 rfl rfl rfl) rfl rfl hl.1 rfl (lv_room (Nat.le_of_ble_eq_true rfl)) dX7_takeBookLine_38 ⟨by rw [hRc]; exact Nat.le_of_ble_eq_true rfl, by rw [hRs]; exact Nat.le_of_ble_eq_true rfl⟩) hP hD hS hA [0, 1, 2] rfl (fun _ => rfl) ?_
      clear hP hD hS
      clear H locs
      intro v133 _u H locs hw hP hD hS
      rcases hw with rfl | rfl
      · refine mm_finv (va_runV (As := [.int 0]) (rest := []) ⟨hx, hb, hml, hown, hts⟩ (K169_X7_takeIf l G cy H.size a_0 a_1 a_3 n121 n122 n123 n124 n125 n126 w128 w130) (cwV 1 hts (mm_gV mm_w307 mm_w308 mm_w309 mm_w19 mm_w310) rfl rfl rfl hd_X7_takeIf ⟨by rw [hRf]; exact Nat.le_of_ble_eq_true rfl, by rw [hRl]; exact Nat.le_of_ble_eq_true rfl⟩) (mm_preV hK hZ hS hA hP hD [2] rfl rfl 2 rfl rfl rfl) rfl rfl hl.1 rfl (lv_room (Nat.le_of_ble_eq_true rfl)) dX7_takeBookLine_41 ⟨by rw [hRc]; exact Nat.le_of_ble_eq_true rfl, by rw [hRs]; exact Nat.le_of_ble_eq_true rfl⟩) hP hD hS hA (fun u : Int32 × Int32 => [(a_1, .inr (9, [.ref a_2, .int i_0])), (a_2, .inl (cy 0, 600, .inl f_0)), (a_0, .inr (7, [.ref a_1, .ref a_3, .int u.1, .int u.2, .int n123, .int n124, .int n125, .int n126])), (a_3, .inr (0, [.int i_7, .int v127, .int i_9, .int i_10, .int i_11, .int i_12, .int i_13, .int i_14, .ref a_4, .ref a_5, .ref a_6, .ref a_7, .ref a_8, .ref a_9, .ref a_10, .ref a_11, .ref a_12, .ref a_13]))]) [2] [0, 1, 3] (n := 4) (fun _ => rfl) (by decide +kernel) (by decide +kernel) rfl (fun _ => rfl) (wr := [(a_1, .inr (9, [.ref a_2, .int i_0])), (a_2, .inl (cy 0, 600, .inl f_0)), (a_3, .inr (0, [.int i_7, .int v127, .int i_9, .int i_10, .int i_11, .int i_12, .int i_13, .int i_14, .ref a_4, .ref a_5, .ref a_6, .ref a_7, .ref a_8, .ref a_9, .ref a_10, .ref a_11, .ref a_12, .ref a_13]))]) rfl (fun _ => rfl) (fun _ => rfl) ?_
        clear hP hD hS
        clear H locs
        intro u
        obtain ⟨n134, n135⟩ := u
        intro H locs hw (hP : va_P G vwCl [(a_1, .inr (9, [.ref a_2, .int i_0])), (a_2, .inl (cy 0, 600, .inl f_0)), (a_0, .inr (7, [.ref a_1, .ref a_3, .int n134, .int n135, .int n123, .int n124, .int n125, .int n126])), (a_3, .inr (0, [.int i_7, .int v127, .int i_9, .int i_10, .int i_11, .int i_12, .int i_13, .int i_14, .ref a_4, .ref a_5, .ref a_6, .ref a_7, .ref a_8, .ref a_9, .ref a_10, .ref a_11, .ref a_12, .ref a_13]))] H) (hD : va_D A [(a_1, .inr (9, [.ref a_2, .int i_0])), (a_2, .inl (cy 0, 600, .inl f_0)), (a_0, .inr (7, [.ref a_1, .ref a_3, .int n134, .int n135, .int n123, .int n124, .int n125, .int n126])), (a_3, .inr (0, [.int i_7, .int v127, .int i_9, .int i_10, .int i_11, .int i_12, .int i_13, .int i_14, .ref a_4, .ref a_5, .ref a_6, .ref a_7, .ref a_8, .ref a_9, .ref a_10, .ref a_11, .ref a_12, .ref a_13]))]) hS
        have w136 := hw
        refine lv_aload_n hx hb dX7_takeBookLine_44 rfl (lv_at hl 0 rfl) ?_
        refine va_get (D := G) (ci := 7) (v := .ref a_3) (C := RX7) (T := TX7) (N := 8) hx hb hts (mm_i inlX7) hown hK.1 hP 2 rfl rfl 1 (by decide) (mm_h hts mm_w65) (fun _ h9 => h9) rfl dX7_takeBookLine_45 ?_
        refine lv_aload_n hx hb dX7_takeBookLine_48 rfl (lv_at hl 0 rfl) ?_
        refine lv_iconst (v := 0) hx hb dX7_takeBookLine_49 (by decide) ?_
        refine lv_bipush (v := 99) hx hb dX7_takeBookLine_50 (by decide) ?_
        refine mm_fini (va_runV (As := [.int 0, .int 99]) (rest := [.ref a_3]) ⟨hx, hb, hml, hown, hts⟩ (K272_X7_takeNumber l G cy H.size a_0 a_1 a_2 i_0 f_0 a_3 n134 n135 n123 n124 n125 n126 h0 h1 (mm_wk w136 (by decide)) w129 w130 w131) (cwV 2 hts (mm_gV mm_w315 mm_w316 mm_w317 mm_w19 mm_w318) rfl rfl rfl hd_X7_takeNumber ⟨by rw [hRf]; exact Nat.le_of_ble_eq_true rfl, by rw [hRl]; exact Nat.le_of_ble_eq_true rfl⟩) (mm_preV hK hZ hS hA hP hD [0, 1, 2] rfl rfl 2 rfl rfl rfl) rfl rfl hl.1 rfl (lv_room (Nat.le_of_ble_eq_true rfl)) dX7_takeBookLine_52 ⟨by rw [hRc]; exact Nat.le_of_ble_eq_true rfl, by rw [hRs]; exact Nat.le_of_ble_eq_true rfl⟩) hP hD hS hA (fun u : Int32 × Int32 × Int32 × Int32 × Int32 × Int32 => [(a_1, .inr (9, [.ref a_2, .int i_0])), (a_2, .inl (cy 0, 600, .inl f_0)), (a_0, .inr (7, [.ref a_1, .ref a_3, .int u.1, .int u.2.1, .int u.2.2.1, .int u.2.2.2.1, .int u.2.2.2.2.1, .int u.2.2.2.2.2])), (a_3, .inr (0, [.int i_7, .int v127, .int i_9, .int i_10, .int i_11, .int i_12, .int i_13, .int i_14, .ref a_4, .ref a_5, .ref a_6, .ref a_7, .ref a_8, .ref a_9, .ref a_10, .ref a_11, .ref a_12, .ref a_13]))]) [0, 1, 2] [3] (n := 4) (fun _ => rfl) (by decide +kernel) (by decide +kernel) rfl (fun _ => rfl) (wr := [(a_3, .inr (0, [.int i_7, .int v127, .int i_9, .int i_10, .int i_11, .int i_12, .int i_13, .int i_14, .ref a_4, .ref a_5, .ref a_6, .ref a_7, .ref a_8, .ref a_9, .ref a_10, .ref a_11, .ref a_12, .ref a_13]))]) rfl (fun _ => rfl) (fun _ => rfl) ?_
        clear hP hD hS
        clear H locs
        intro v143 u
        obtain ⟨n137, n138, n139, n140, n141, n142⟩ := u
        intro H locs hw (hP : va_P G vwCl [(a_1, .inr (9, [.ref a_2, .int i_0])), (a_2, .inl (cy 0, 600, .inl f_0)), (a_0, .inr (7, [.ref a_1, .ref a_3, .int n137, .int n138, .int n139, .int n140, .int n141, .int n142])), (a_3, .inr (0, [.int i_7, .int v127, .int i_9, .int i_10, .int i_11, .int i_12, .int i_13, .int i_14, .ref a_4, .ref a_5, .ref a_6, .ref a_7, .ref a_8, .ref a_9, .ref a_10, .ref a_11, .ref a_12, .ref a_13]))] H) (hD : va_D A [(a_1, .inr (9, [.ref a_2, .int i_0])), (a_2, .inl (cy 0, 600, .inl f_0)), (a_0, .inr (7, [.ref a_1, .ref a_3, .int n137, .int n138, .int n139, .int n140, .int n141, .int n142])), (a_3, .inr (0, [.int i_7, .int v127, .int i_9, .int i_10, .int i_11, .int i_12, .int i_13, .int i_14, .ref a_4, .ref a_5, .ref a_6, .ref a_7, .ref a_8, .ref a_9, .ref a_10, .ref a_11, .ref a_12, .ref a_13]))]) hS
        obtain ⟨w144, w145, w146, w147, hw⟩ := hw
        have w148 := hw
        refine va_put (D := G) (ci := 0) (v := .int v143) (ty := tyX0 2) (C := RX0) (T := TX0) (N := 18) hx hb hts (mm_i inlX0) tyX0 tyX0_ok nmX0 hown hK.1 hP hD hS 3 rfl rfl 2 (by decide) (mm_h hts mm_w209) (fun _ h9 => h9) rfl (tyX0_ok 2 (by decide)) rfl rfl (Nat.le_of_ble_eq_true rfl) dX7_takeBookLine_55 ?_
        clear hP hD hS
        clear H locs
        intro H locs (hP : va_P G vwCl [(a_1, .inr (9, [.ref a_2, .int i_0])), (a_2, .inl (cy 0, 600, .inl f_0)), (a_0, .inr (7, [.ref a_1, .ref a_3, .int n137, .int n138, .int n139, .int n140, .int n141, .int n142])), (a_3, .inr (0, [.int i_7, .int v127, .int v143, .int i_10, .int i_11, .int i_12, .int i_13, .int i_14, .ref a_4, .ref a_5, .ref a_6, .ref a_7, .ref a_8, .ref a_9, .ref a_10, .ref a_11, .ref a_12, .ref a_13]))] H) (hD : va_D A [(a_1, .inr (9, [.ref a_2, .int i_0])), (a_2, .inl (cy 0, 600, .inl f_0)), (a_0, .inr (7, [.ref a_1, .ref a_3, .int n137, .int n138, .int n139, .int n140, .int n141, .int n142])), (a_3, .inr (0, [.int i_7, .int v127, .int v143, .int i_10, .int i_11, .int i_12, .int i_13, .int i_14, .ref a_4, .ref a_5, .ref a_6, .ref a_7, .ref a_8, .ref a_9, .ref a_10, .ref a_11, .ref a_12, .ref a_13]))]) hS
        subst hAe
        rw [hQ]
        exact W.vret hx hb hr (fun t ht hW => ⟨⟨(n137, n138, n139, n140, n141, n142, v127, v143), rfl, ⟨w144, w145, w146, w147, w132, w148⟩, by rw [ht]; exact hP, hK.warm hW, hD⟩, hS.F ht⟩) hS.2.2 dX7_takeBookLine_58
      · refine mm_finv (va_runV (As := [.int 1]) (rest := []) ⟨hx, hb, hml, hown, hts⟩ (K170_X7_takeIf l G cy H.size a_0 a_1 a_2 i_0 f_0 a_3 n121 n122 n123 n124 n125 n126 h0 h1 w128 w129 w130 w131) (cwV 1 hts (mm_gV mm_w307 mm_w308 mm_w309 mm_w19 mm_w310) rfl rfl rfl hd_X7_takeIf ⟨by rw [hRf]; exact Nat.le_of_ble_eq_true rfl, by rw [hRl]; exact Nat.le_of_ble_eq_true rfl⟩) (mm_preV hK hZ hS hA hP hD [0, 1, 2] rfl rfl 2 rfl rfl rfl) rfl rfl hl.1 rfl (lv_room (Nat.le_of_ble_eq_true rfl)) dX7_takeBookLine_41 ⟨by rw [hRc]; exact Nat.le_of_ble_eq_true rfl, by rw [hRs]; exact Nat.le_of_ble_eq_true rfl⟩) hP hD hS hA (fun u : Int32 × Int32 × Int32 × Int32 => [(a_1, .inr (9, [.ref a_2, .int i_0])), (a_2, .inl (cy 0, 600, .inl f_0)), (a_0, .inr (7, [.ref a_1, .ref a_3, .int n121, .int n122, .int u.1, .int u.2.1, .int u.2.2.1, .int u.2.2.2])), (a_3, .inr (0, [.int i_7, .int v127, .int i_9, .int i_10, .int i_11, .int i_12, .int i_13, .int i_14, .ref a_4, .ref a_5, .ref a_6, .ref a_7, .ref a_8, .ref a_9, .ref a_10, .ref a_11, .ref a_12, .ref a_13]))]) [0, 1, 2] [3] (n := 4) (fun _ => rfl) (by decide +kernel) (by decide +kernel) rfl (fun _ => rfl) (wr := [(a_3, .inr (0, [.int i_7, .int v127, .int i_9, .int i_10, .int i_11, .int i_12, .int i_13, .int i_14, .ref a_4, .ref a_5, .ref a_6, .ref a_7, .ref a_8, .ref a_9, .ref a_10, .ref a_11, .ref a_12, .ref a_13]))]) rfl (fun _ => rfl) (fun _ => rfl) ?_
        clear hP hD hS
        clear H locs
        intro u
        obtain ⟨n149, n150, n151, n152⟩ := u
        intro H locs hw (hP : va_P G vwCl [(a_1, .inr (9, [.ref a_2, .int i_0])), (a_2, .inl (cy 0, 600, .inl f_0)), (a_0, .inr (7, [.ref a_1, .ref a_3, .int n121, .int n122, .int n149, .int n150, .int n151, .int n152])), (a_3, .inr (0, [.int i_7, .int v127, .int i_9, .int i_10, .int i_11, .int i_12, .int i_13, .int i_14, .ref a_4, .ref a_5, .ref a_6, .ref a_7, .ref a_8, .ref a_9, .ref a_10, .ref a_11, .ref a_12, .ref a_13]))] H) (hD : va_D A [(a_1, .inr (9, [.ref a_2, .int i_0])), (a_2, .inl (cy 0, 600, .inl f_0)), (a_0, .inr (7, [.ref a_1, .ref a_3, .int n121, .int n122, .int n149, .int n150, .int n151, .int n152])), (a_3, .inr (0, [.int i_7, .int v127, .int i_9, .int i_10, .int i_11, .int i_12, .int i_13, .int i_14, .ref a_4, .ref a_5, .ref a_6, .ref a_7, .ref a_8, .ref a_9, .ref a_10, .ref a_11, .ref a_12, .ref a_13]))]) hS
        obtain ⟨w153, w154, w155⟩ := hw
        refine lv_aload_n hx hb dX7_takeBookLine_44 rfl (lv_at hl 0 rfl) ?_
        refine va_get (D := G) (ci := 7) (v := .ref a_3) (C := RX7) (T := TX7) (N := 8) hx hb hts (mm_i inlX7) hown hK.1 hP 2 rfl rfl 1 (by decide) (mm_h hts mm_w65) (fun _ h9 => h9) rfl dX7_takeBookLine_45 ?_
        refine lv_aload_n hx hb dX7_takeBookLine_48 rfl (lv_at hl 0 rfl) ?_
        refine lv_iconst (v := 0) hx hb dX7_takeBookLine_49 (by decide) ?_
        refine lv_bipush (v := 99) hx hb dX7_takeBookLine_50 (by decide) ?_
        refine mm_fini (va_runV (As := [.int 0, .int 99]) (rest := [.ref a_3]) ⟨hx, hb, hml, hown, hts⟩ (K272_X7_takeNumber l G cy H.size a_0 a_1 a_2 i_0 f_0 a_3 n121 n122 n149 n150 n151 n152 h0 h1 w128 w153 w154 w155) (cwV 2 hts (mm_gV mm_w315 mm_w316 mm_w317 mm_w19 mm_w318) rfl rfl rfl hd_X7_takeNumber ⟨by rw [hRf]; exact Nat.le_of_ble_eq_true rfl, by rw [hRl]; exact Nat.le_of_ble_eq_true rfl⟩) (mm_preV hK hZ hS hA hP hD [0, 1, 2] rfl rfl 2 rfl rfl rfl) rfl rfl hl.1 rfl (lv_room (Nat.le_of_ble_eq_true rfl)) dX7_takeBookLine_52 ⟨by rw [hRc]; exact Nat.le_of_ble_eq_true rfl, by rw [hRs]; exact Nat.le_of_ble_eq_true rfl⟩) hP hD hS hA (fun u : Int32 × Int32 × Int32 × Int32 × Int32 × Int32 => [(a_1, .inr (9, [.ref a_2, .int i_0])), (a_2, .inl (cy 0, 600, .inl f_0)), (a_0, .inr (7, [.ref a_1, .ref a_3, .int u.1, .int u.2.1, .int u.2.2.1, .int u.2.2.2.1, .int u.2.2.2.2.1, .int u.2.2.2.2.2])), (a_3, .inr (0, [.int i_7, .int v127, .int i_9, .int i_10, .int i_11, .int i_12, .int i_13, .int i_14, .ref a_4, .ref a_5, .ref a_6, .ref a_7, .ref a_8, .ref a_9, .ref a_10, .ref a_11, .ref a_12, .ref a_13]))]) [0, 1, 2] [3] (n := 4) (fun _ => rfl) (by decide +kernel) (by decide +kernel) rfl (fun _ => rfl) (wr := [(a_3, .inr (0, [.int i_7, .int v127, .int i_9, .int i_10, .int i_11, .int i_12, .int i_13, .int i_14, .ref a_4, .ref a_5, .ref a_6, .ref a_7, .ref a_8, .ref a_9, .ref a_10, .ref a_11, .ref a_12, .ref a_13]))]) rfl (fun _ => rfl) (fun _ => rfl) ?_
        clear hP hD hS
        clear H locs
        intro v162 u
        obtain ⟨n156, n157, n158, n159, n160, n161⟩ := u
        intro H locs hw (hP : va_P G vwCl [(a_1, .inr (9, [.ref a_2, .int i_0])), (a_2, .inl (cy 0, 600, .inl f_0)), (a_0, .inr (7, [.ref a_1, .ref a_3, .int n156, .int n157, .int n158, .int n159, .int n160, .int n161])), (a_3, .inr (0, [.int i_7, .int v127, .int i_9, .int i_10, .int i_11, .int i_12, .int i_13, .int i_14, .ref a_4, .ref a_5, .ref a_6, .ref a_7, .ref a_8, .ref a_9, .ref a_10, .ref a_11, .ref a_12, .ref a_13]))] H) (hD : va_D A [(a_1, .inr (9, [.ref a_2, .int i_0])), (a_2, .inl (cy 0, 600, .inl f_0)), (a_0, .inr (7, [.ref a_1, .ref a_3, .int n156, .int n157, .int n158, .int n159, .int n160, .int n161])), (a_3, .inr (0, [.int i_7, .int v127, .int i_9, .int i_10, .int i_11, .int i_12, .int i_13, .int i_14, .ref a_4, .ref a_5, .ref a_6, .ref a_7, .ref a_8, .ref a_9, .ref a_10, .ref a_11, .ref a_12, .ref a_13]))]) hS
        obtain ⟨w163, w164, w165, w166, hw⟩ := hw
        have w167 := hw
        refine va_put (D := G) (ci := 0) (v := .int v162) (ty := tyX0 2) (C := RX0) (T := TX0) (N := 18) hx hb hts (mm_i inlX0) tyX0 tyX0_ok nmX0 hown hK.1 hP hD hS 3 rfl rfl 2 (by decide) (mm_h hts mm_w209) (fun _ h9 => h9) rfl (tyX0_ok 2 (by decide)) rfl rfl (Nat.le_of_ble_eq_true rfl) dX7_takeBookLine_55 ?_
        clear hP hD hS
        clear H locs
        intro H locs (hP : va_P G vwCl [(a_1, .inr (9, [.ref a_2, .int i_0])), (a_2, .inl (cy 0, 600, .inl f_0)), (a_0, .inr (7, [.ref a_1, .ref a_3, .int n156, .int n157, .int n158, .int n159, .int n160, .int n161])), (a_3, .inr (0, [.int i_7, .int v127, .int v162, .int i_10, .int i_11, .int i_12, .int i_13, .int i_14, .ref a_4, .ref a_5, .ref a_6, .ref a_7, .ref a_8, .ref a_9, .ref a_10, .ref a_11, .ref a_12, .ref a_13]))] H) (hD : va_D A [(a_1, .inr (9, [.ref a_2, .int i_0])), (a_2, .inl (cy 0, 600, .inl f_0)), (a_0, .inr (7, [.ref a_1, .ref a_3, .int n156, .int n157, .int n158, .int n159, .int n160, .int n161])), (a_3, .inr (0, [.int i_7, .int v127, .int v162, .int i_10, .int i_11, .int i_12, .int i_13, .int i_14, .ref a_4, .ref a_5, .ref a_6, .ref a_7, .ref a_8, .ref a_9, .ref a_10, .ref a_11, .ref a_12, .ref a_13]))]) hS
        subst hAe
        rw [hQ]
        exact W.vret hx hb hr (fun t ht hW => ⟨⟨(n156, n157, n158, n159, n160, n161, v127, v162), rfl, ⟨w163, w164, w165, w166, w132, w167⟩, by rw [ht]; exact hP, hK.warm hW, hD⟩, hS.F ht⟩) hS.2.2 dX7_takeBookLine_58
    · refine mm_finv (va_runV (As := [.int 1]) (rest := []) ⟨hx, hb, hml, hown, hts⟩ (K170_X7_takeIf l G cy H.size a_0 a_1 a_2 i_0 f_0 a_3 i_1 i_2 n110 n111 n112 n113 h0 h1 h2 w114 w115 w116) (cwV 1 hts (mm_gV mm_w307 mm_w308 mm_w309 mm_w19 mm_w310) rfl rfl rfl hd_X7_takeIf ⟨by rw [hRf]; exact Nat.le_of_ble_eq_true rfl, by rw [hRl]; exact Nat.le_of_ble_eq_true rfl⟩) (mm_preV hK hZ hS hA hP hD [0, 1, 2] rfl rfl 2 rfl rfl rfl) rfl rfl hl.1 rfl (lv_room (Nat.le_of_ble_eq_true rfl)) dX7_takeBookLine_17 ⟨by rw [hRc]; exact Nat.le_of_ble_eq_true rfl, by rw [hRs]; exact Nat.le_of_ble_eq_true rfl⟩) hP hD hS hA (fun u : Int32 × Int32 × Int32 × Int32 => [(a_1, .inr (9, [.ref a_2, .int i_0])), (a_2, .inl (cy 0, 600, .inl f_0)), (a_0, .inr (7, [.ref a_1, .ref a_3, .int i_1, .int i_2, .int u.1, .int u.2.1, .int u.2.2.1, .int u.2.2.2])), (a_3, .inr (0, [.int i_7, .int i_8, .int i_9, .int i_10, .int i_11, .int i_12, .int i_13, .int i_14, .ref a_4, .ref a_5, .ref a_6, .ref a_7, .ref a_8, .ref a_9, .ref a_10, .ref a_11, .ref a_12, .ref a_13]))]) [0, 1, 2] [3] (n := 4) (fun _ => rfl) (by decide +kernel) (by decide +kernel) rfl (fun _ => rfl) (wr := [(a_3, .inr (0, [.int i_7, .int i_8, .int i_9, .int i_10, .int i_11, .int i_12, .int i_13, .int i_14, .ref a_4, .ref a_5, .ref a_6, .ref a_7, .ref a_8, .ref a_9, .ref a_10, .ref a_11, .ref a_12, .ref a_13]))]) rfl (fun _ => rfl) (fun _ => rfl) ?_
      clear hP hD hS
      clear H locs
      intro u
      obtain ⟨n168, n169, n170, n171⟩ := u
      intro H locs hw (hP : va_P G vwCl [(a_1, .inr (9, [.ref a_2, .int i_0])), (a_2, .inl (cy 0, 600, .inl f_0)), (a_0, .inr (7, [.ref a_1, .ref a_3, .int i_1, .int i_2, .int n168, .int n169, .int n170, .int n171])), (a_3, .inr (0, [.int i_7, .int i_8, .int i_9, .int i_10, .int i_11, .int i_12, .int i_13, .int i_14, .ref a_4, .ref a_5, .ref a_6, .ref a_7, .ref a_8, .ref a_9, .ref a_10, .ref a_11, .ref a_12, .ref a_13]))] H) (hD : va_D A [(a_1, .inr (9, [.ref a_2, .int i_0])), (a_2, .inl (cy 0, 600, .inl f_0)), (a_0, .inr (7, [.ref a_1, .ref a_3, .int i_1, .int i_2, .int n168, .int n169, .int n170, .int n171])), (a_3, .inr (0, [.int i_7, .int i_8, .int i_9, .int i_10, .int i_11, .int i_12, .int i_13, .int i_14, .ref a_4, .ref a_5, .ref a_6, .ref a_7, .ref a_8, .ref a_9, .ref a_10, .ref a_11, .ref a_12, .ref a_13]))]) hS
      obtain ⟨w172, w173, w174⟩ := hw
      refine lv_aload_n hx hb dX7_takeBookLine_20 rfl (lv_at hl 0 rfl) ?_
      refine va_get (D := G) (ci := 7) (v := .ref a_3) (C := RX7) (T := TX7) (N := 8) hx hb hts (mm_i inlX7) hown hK.1 hP 2 rfl rfl 1 (by decide) (mm_h hts mm_w65) (fun _ h9 => h9) rfl dX7_takeBookLine_21 ?_
      refine lv_aload_n hx hb dX7_takeBookLine_24 rfl (lv_at hl 0 rfl) ?_
      refine lv_iconst (v := 0) hx hb dX7_takeBookLine_25 (by decide) ?_
      refine lv_bipush (v := 10) hx hb dX7_takeBookLine_26 (by decide) ?_
      refine mm_fini (va_runV (As := [.int 0, .int 10]) (rest := [.ref a_3]) ⟨hx, hb, hml, hown, hts⟩ (K302_X7_takeNumber l G cy H.size a_0 a_1 a_2 i_0 f_0 a_3 i_1 i_2 n168 n169 n170 n171 h0 h1 h2 w172 w173 w174) (cwV 2 hts (mm_gV mm_w315 mm_w316 mm_w317 mm_w19 mm_w318) rfl rfl rfl hd_X7_takeNumber ⟨by rw [hRf]; exact Nat.le_of_ble_eq_true rfl, by rw [hRl]; exact Nat.le_of_ble_eq_true rfl⟩) (mm_preV hK hZ hS hA hP hD [0, 1, 2] rfl rfl 2 rfl rfl rfl) rfl rfl hl.1 rfl (lv_room (Nat.le_of_ble_eq_true rfl)) dX7_takeBookLine_28 ⟨by rw [hRc]; exact Nat.le_of_ble_eq_true rfl, by rw [hRs]; exact Nat.le_of_ble_eq_true rfl⟩) hP hD hS hA (fun u : Int32 × Int32 × Int32 × Int32 × Int32 × Int32 => [(a_1, .inr (9, [.ref a_2, .int i_0])), (a_2, .inl (cy 0, 600, .inl f_0)), (a_0, .inr (7, [.ref a_1, .ref a_3, .int u.1, .int u.2.1, .int u.2.2.1, .int u.2.2.2.1, .int u.2.2.2.2.1, .int u.2.2.2.2.2])), (a_3, .inr (0, [.int i_7, .int i_8, .int i_9, .int i_10, .int i_11, .int i_12, .int i_13, .int i_14, .ref a_4, .ref a_5, .ref a_6, .ref a_7, .ref a_8, .ref a_9, .ref a_10, .ref a_11, .ref a_12, .ref a_13]))]) [0, 1, 2] [3] (n := 4) (fun _ => rfl) (by decide +kernel) (by decide +kernel) rfl (fun _ => rfl) (wr := [(a_3, .inr (0, [.int i_7, .int i_8, .int i_9, .int i_10, .int i_11, .int i_12, .int i_13, .int i_14, .ref a_4, .ref a_5, .ref a_6, .ref a_7, .ref a_8, .ref a_9, .ref a_10, .ref a_11, .ref a_12, .ref a_13]))]) rfl (fun _ => rfl) (fun _ => rfl) ?_
      clear hP hD hS
      clear H locs
      intro v181 u
      obtain ⟨n175, n176, n177, n178, n179, n180⟩ := u
      intro H locs hw (hP : va_P G vwCl [(a_1, .inr (9, [.ref a_2, .int i_0])), (a_2, .inl (cy 0, 600, .inl f_0)), (a_0, .inr (7, [.ref a_1, .ref a_3, .int n175, .int n176, .int n177, .int n178, .int n179, .int n180])), (a_3, .inr (0, [.int i_7, .int i_8, .int i_9, .int i_10, .int i_11, .int i_12, .int i_13, .int i_14, .ref a_4, .ref a_5, .ref a_6, .ref a_7, .ref a_8, .ref a_9, .ref a_10, .ref a_11, .ref a_12, .ref a_13]))] H) (hD : va_D A [(a_1, .inr (9, [.ref a_2, .int i_0])), (a_2, .inl (cy 0, 600, .inl f_0)), (a_0, .inr (7, [.ref a_1, .ref a_3, .int n175, .int n176, .int n177, .int n178, .int n179, .int n180])), (a_3, .inr (0, [.int i_7, .int i_8, .int i_9, .int i_10, .int i_11, .int i_12, .int i_13, .int i_14, .ref a_4, .ref a_5, .ref a_6, .ref a_7, .ref a_8, .ref a_9, .ref a_10, .ref a_11, .ref a_12, .ref a_13]))]) hS
      obtain ⟨w182, w183, w184, w185, hw⟩ := hw
      have w186 := hw
      refine va_put (D := G) (ci := 0) (v := .int v181) (ty := tyX0 1) (C := RX0) (T := TX0) (N := 18) hx hb hts (mm_i inlX0) tyX0 tyX0_ok nmX0 hown hK.1 hP hD hS 3 rfl rfl 1 (by decide) (mm_h hts mm_w253) (fun _ h9 => h9) rfl (tyX0_ok 1 (by decide)) rfl rfl (Nat.le_of_ble_eq_true rfl) dX7_takeBookLine_31 ?_
      clear hP hD hS
      clear H locs
      intro H locs (hP : va_P G vwCl [(a_1, .inr (9, [.ref a_2, .int i_0])), (a_2, .inl (cy 0, 600, .inl f_0)), (a_0, .inr (7, [.ref a_1, .ref a_3, .int n175, .int n176, .int n177, .int n178, .int n179, .int n180])), (a_3, .inr (0, [.int i_7, .int v181, .int i_9, .int i_10, .int i_11, .int i_12, .int i_13, .int i_14, .ref a_4, .ref a_5, .ref a_6, .ref a_7, .ref a_8, .ref a_9, .ref a_10, .ref a_11, .ref a_12, .ref a_13]))] H) (hD : va_D A [(a_1, .inr (9, [.ref a_2, .int i_0])), (a_2, .inl (cy 0, 600, .inl f_0)), (a_0, .inr (7, [.ref a_1, .ref a_3, .int n175, .int n176, .int n177, .int n178, .int n179, .int n180])), (a_3, .inr (0, [.int i_7, .int v181, .int i_9, .int i_10, .int i_11, .int i_12, .int i_13, .int i_14, .ref a_4, .ref a_5, .ref a_6, .ref a_7, .ref a_8, .ref a_9, .ref a_10, .ref a_11, .ref a_12, .ref a_13]))]) hS
      refine lv_aload_n hx hb dX7_takeBookLine_34 rfl (lv_at hl 0 rfl) ?_
      refine lv_aload_n hx hb dX7_takeBookLine_35 rfl (lv_at hl 0 rfl) ?_
      refine va_ldcS hx hb hown (hK.2.2.2 2 "MissingMeaning$Scribe" 105 "stock" rfl) dX7_takeBookLine_36 ?_
      refine mm_finir (va_runV (As := [.ref (cy 104)]) (rest := [.ref a_0]) ⟨hx, hb, hml, hown, hts⟩ (K318_X7_isName l G cy H.size a_0 a_1 a_2 i_0 f_0 a_3 n175 n176 n177 n178 n179 n180 h0 h1 w183 w184 w185) (cwV 1 hts (mm_gV mm_w254 mm_w255 mm_w256 mm_w19 mm_w257) rfl rfl rfl hd_X7_isName ⟨by rw [hRf]; exact Nat.le_of_ble_eq_true rfl, by rw [hRl]; exact Nat.le_of_ble_eq_true rfl⟩) (mm_preV hK hZ hS hA hP hD [0, 1, 2] rfl rfl 2 rfl rfl rfl) rfl rfl hl.1 rfl (lv_room (Nat.le_of_ble_eq_true rfl)) dX7_takeBookLine_38 ⟨by rw [hRc]; exact Nat.le_of_ble_eq_true rfl, by rw [hRs]; exact Nat.le_of_ble_eq_true rfl⟩) hP hD hS hA [0, 1, 2] rfl (fun _ => rfl) ?_
      clear hP hD hS
      clear H locs
      intro v187 _u H locs hw hP hD hS
      rcases hw with rfl | rfl
      · refine mm_finv (va_runV (As := [.int 0]) (rest := []) ⟨hx, hb, hml, hown, hts⟩ (K169_X7_takeIf l G cy H.size a_0 a_1 a_3 n175 n176 n177 n178 n179 n180 w182 w184) (cwV 1 hts (mm_gV mm_w307 mm_w308 mm_w309 mm_w19 mm_w310) rfl rfl rfl hd_X7_takeIf ⟨by rw [hRf]; exact Nat.le_of_ble_eq_true rfl, by rw [hRl]; exact Nat.le_of_ble_eq_true rfl⟩) (mm_preV hK hZ hS hA hP hD [2] rfl rfl 2 rfl rfl rfl) rfl rfl hl.1 rfl (lv_room (Nat.le_of_ble_eq_true rfl)) dX7_takeBookLine_41 ⟨by rw [hRc]; exact Nat.le_of_ble_eq_true rfl, by rw [hRs]; exact Nat.le_of_ble_eq_true rfl⟩) hP hD hS hA (fun u : Int32 × Int32 => [(a_1, .inr (9, [.ref a_2, .int i_0])), (a_2, .inl (cy 0, 600, .inl f_0)), (a_0, .inr (7, [.ref a_1, .ref a_3, .int u.1, .int u.2, .int n177, .int n178, .int n179, .int n180])), (a_3, .inr (0, [.int i_7, .int v181, .int i_9, .int i_10, .int i_11, .int i_12, .int i_13, .int i_14, .ref a_4, .ref a_5, .ref a_6, .ref a_7, .ref a_8, .ref a_9, .ref a_10, .ref a_11, .ref a_12, .ref a_13]))]) [2] [0, 1, 3] (n := 4) (fun _ => rfl) (by decide +kernel) (by decide +kernel) rfl (fun _ => rfl) (wr := [(a_1, .inr (9, [.ref a_2, .int i_0])), (a_2, .inl (cy 0, 600, .inl f_0)), (a_3, .inr (0, [.int i_7, .int v181, .int i_9, .int i_10, .int i_11, .int i_12, .int i_13, .int i_14, .ref a_4, .ref a_5, .ref a_6, .ref a_7, .ref a_8, .ref a_9, .ref a_10, .ref a_11, .ref a_12, .ref a_13]))]) rfl (fun _ => rfl) (fun _ => rfl) ?_
        clear hP hD hS
        clear H locs
        intro u
        obtain ⟨n188, n189⟩ := u
        intro H locs hw (hP : va_P G vwCl [(a_1, .inr (9, [.ref a_2, .int i_0])), (a_2, .inl (cy 0, 600, .inl f_0)), (a_0, .inr (7, [.ref a_1, .ref a_3, .int n188, .int n189, .int n177, .int n178, .int n179, .int n180])), (a_3, .inr (0, [.int i_7, .int v181, .int i_9, .int i_10, .int i_11, .int i_12, .int i_13, .int i_14, .ref a_4, .ref a_5, .ref a_6, .ref a_7, .ref a_8, .ref a_9, .ref a_10, .ref a_11, .ref a_12, .ref a_13]))] H) (hD : va_D A [(a_1, .inr (9, [.ref a_2, .int i_0])), (a_2, .inl (cy 0, 600, .inl f_0)), (a_0, .inr (7, [.ref a_1, .ref a_3, .int n188, .int n189, .int n177, .int n178, .int n179, .int n180])), (a_3, .inr (0, [.int i_7, .int v181, .int i_9, .int i_10, .int i_11, .int i_12, .int i_13, .int i_14, .ref a_4, .ref a_5, .ref a_6, .ref a_7, .ref a_8, .ref a_9, .ref a_10, .ref a_11, .ref a_12, .ref a_13]))]) hS
        have w190 := hw
        refine lv_aload_n hx hb dX7_takeBookLine_44 rfl (lv_at hl 0 rfl) ?_
        refine va_get (D := G) (ci := 7) (v := .ref a_3) (C := RX7) (T := TX7) (N := 8) hx hb hts (mm_i inlX7) hown hK.1 hP 2 rfl rfl 1 (by decide) (mm_h hts mm_w65) (fun _ h9 => h9) rfl dX7_takeBookLine_45 ?_
        refine lv_aload_n hx hb dX7_takeBookLine_48 rfl (lv_at hl 0 rfl) ?_
        refine lv_iconst (v := 0) hx hb dX7_takeBookLine_49 (by decide) ?_
        refine lv_bipush (v := 99) hx hb dX7_takeBookLine_50 (by decide) ?_
        refine mm_fini (va_runV (As := [.int 0, .int 99]) (rest := [.ref a_3]) ⟨hx, hb, hml, hown, hts⟩ (K272_X7_takeNumber l G cy H.size a_0 a_1 a_2 i_0 f_0 a_3 n188 n189 n177 n178 n179 n180 h0 h1 (mm_wk w190 (by decide)) w183 w184 w185) (cwV 2 hts (mm_gV mm_w315 mm_w316 mm_w317 mm_w19 mm_w318) rfl rfl rfl hd_X7_takeNumber ⟨by rw [hRf]; exact Nat.le_of_ble_eq_true rfl, by rw [hRl]; exact Nat.le_of_ble_eq_true rfl⟩) (mm_preV hK hZ hS hA hP hD [0, 1, 2] rfl rfl 2 rfl rfl rfl) rfl rfl hl.1 rfl (lv_room (Nat.le_of_ble_eq_true rfl)) dX7_takeBookLine_52 ⟨by rw [hRc]; exact Nat.le_of_ble_eq_true rfl, by rw [hRs]; exact Nat.le_of_ble_eq_true rfl⟩) hP hD hS hA (fun u : Int32 × Int32 × Int32 × Int32 × Int32 × Int32 => [(a_1, .inr (9, [.ref a_2, .int i_0])), (a_2, .inl (cy 0, 600, .inl f_0)), (a_0, .inr (7, [.ref a_1, .ref a_3, .int u.1, .int u.2.1, .int u.2.2.1, .int u.2.2.2.1, .int u.2.2.2.2.1, .int u.2.2.2.2.2])), (a_3, .inr (0, [.int i_7, .int v181, .int i_9, .int i_10, .int i_11, .int i_12, .int i_13, .int i_14, .ref a_4, .ref a_5, .ref a_6, .ref a_7, .ref a_8, .ref a_9, .ref a_10, .ref a_11, .ref a_12, .ref a_13]))]) [0, 1, 2] [3] (n := 4) (fun _ => rfl) (by decide +kernel) (by decide +kernel) rfl (fun _ => rfl) (wr := [(a_3, .inr (0, [.int i_7, .int v181, .int i_9, .int i_10, .int i_11, .int i_12, .int i_13, .int i_14, .ref a_4, .ref a_5, .ref a_6, .ref a_7, .ref a_8, .ref a_9, .ref a_10, .ref a_11, .ref a_12, .ref a_13]))]) rfl (fun _ => rfl) (fun _ => rfl) ?_
        clear hP hD hS
        clear H locs
        intro v197 u
        obtain ⟨n191, n192, n193, n194, n195, n196⟩ := u
        intro H locs hw (hP : va_P G vwCl [(a_1, .inr (9, [.ref a_2, .int i_0])), (a_2, .inl (cy 0, 600, .inl f_0)), (a_0, .inr (7, [.ref a_1, .ref a_3, .int n191, .int n192, .int n193, .int n194, .int n195, .int n196])), (a_3, .inr (0, [.int i_7, .int v181, .int i_9, .int i_10, .int i_11, .int i_12, .int i_13, .int i_14, .ref a_4, .ref a_5, .ref a_6, .ref a_7, .ref a_8, .ref a_9, .ref a_10, .ref a_11, .ref a_12, .ref a_13]))] H) (hD : va_D A [(a_1, .inr (9, [.ref a_2, .int i_0])), (a_2, .inl (cy 0, 600, .inl f_0)), (a_0, .inr (7, [.ref a_1, .ref a_3, .int n191, .int n192, .int n193, .int n194, .int n195, .int n196])), (a_3, .inr (0, [.int i_7, .int v181, .int i_9, .int i_10, .int i_11, .int i_12, .int i_13, .int i_14, .ref a_4, .ref a_5, .ref a_6, .ref a_7, .ref a_8, .ref a_9, .ref a_10, .ref a_11, .ref a_12, .ref a_13]))]) hS
        obtain ⟨w198, w199, w200, w201, hw⟩ := hw
        have w202 := hw
        refine va_put (D := G) (ci := 0) (v := .int v197) (ty := tyX0 2) (C := RX0) (T := TX0) (N := 18) hx hb hts (mm_i inlX0) tyX0 tyX0_ok nmX0 hown hK.1 hP hD hS 3 rfl rfl 2 (by decide) (mm_h hts mm_w209) (fun _ h9 => h9) rfl (tyX0_ok 2 (by decide)) rfl rfl (Nat.le_of_ble_eq_true rfl) dX7_takeBookLine_55 ?_
        clear hP hD hS
        clear H locs
        intro H locs (hP : va_P G vwCl [(a_1, .inr (9, [.ref a_2, .int i_0])), (a_2, .inl (cy 0, 600, .inl f_0)), (a_0, .inr (7, [.ref a_1, .ref a_3, .int n191, .int n192, .int n193, .int n194, .int n195, .int n196])), (a_3, .inr (0, [.int i_7, .int v181, .int v197, .int i_10, .int i_11, .int i_12, .int i_13, .int i_14, .ref a_4, .ref a_5, .ref a_6, .ref a_7, .ref a_8, .ref a_9, .ref a_10, .ref a_11, .ref a_12, .ref a_13]))] H) (hD : va_D A [(a_1, .inr (9, [.ref a_2, .int i_0])), (a_2, .inl (cy 0, 600, .inl f_0)), (a_0, .inr (7, [.ref a_1, .ref a_3, .int n191, .int n192, .int n193, .int n194, .int n195, .int n196])), (a_3, .inr (0, [.int i_7, .int v181, .int v197, .int i_10, .int i_11, .int i_12, .int i_13, .int i_14, .ref a_4, .ref a_5, .ref a_6, .ref a_7, .ref a_8, .ref a_9, .ref a_10, .ref a_11, .ref a_12, .ref a_13]))]) hS
        subst hAe
        rw [hQ]
        exact W.vret hx hb hr (fun t ht hW => ⟨⟨(n191, n192, n193, n194, n195, n196, v181, v197), rfl, ⟨w198, w199, w200, w201, w186, w202⟩, by rw [ht]; exact hP, hK.warm hW, hD⟩, hS.F ht⟩) hS.2.2 dX7_takeBookLine_58
      · refine mm_finv (va_runV (As := [.int 1]) (rest := []) ⟨hx, hb, hml, hown, hts⟩ (K170_X7_takeIf l G cy H.size a_0 a_1 a_2 i_0 f_0 a_3 n175 n176 n177 n178 n179 n180 h0 h1 w182 w183 w184 w185) (cwV 1 hts (mm_gV mm_w307 mm_w308 mm_w309 mm_w19 mm_w310) rfl rfl rfl hd_X7_takeIf ⟨by rw [hRf]; exact Nat.le_of_ble_eq_true rfl, by rw [hRl]; exact Nat.le_of_ble_eq_true rfl⟩) (mm_preV hK hZ hS hA hP hD [0, 1, 2] rfl rfl 2 rfl rfl rfl) rfl rfl hl.1 rfl (lv_room (Nat.le_of_ble_eq_true rfl)) dX7_takeBookLine_41 ⟨by rw [hRc]; exact Nat.le_of_ble_eq_true rfl, by rw [hRs]; exact Nat.le_of_ble_eq_true rfl⟩) hP hD hS hA (fun u : Int32 × Int32 × Int32 × Int32 => [(a_1, .inr (9, [.ref a_2, .int i_0])), (a_2, .inl (cy 0, 600, .inl f_0)), (a_0, .inr (7, [.ref a_1, .ref a_3, .int n175, .int n176, .int u.1, .int u.2.1, .int u.2.2.1, .int u.2.2.2])), (a_3, .inr (0, [.int i_7, .int v181, .int i_9, .int i_10, .int i_11, .int i_12, .int i_13, .int i_14, .ref a_4, .ref a_5, .ref a_6, .ref a_7, .ref a_8, .ref a_9, .ref a_10, .ref a_11, .ref a_12, .ref a_13]))]) [0, 1, 2] [3] (n := 4) (fun _ => rfl) (by decide +kernel) (by decide +kernel) rfl (fun _ => rfl) (wr := [(a_3, .inr (0, [.int i_7, .int v181, .int i_9, .int i_10, .int i_11, .int i_12, .int i_13, .int i_14, .ref a_4, .ref a_5, .ref a_6, .ref a_7, .ref a_8, .ref a_9, .ref a_10, .ref a_11, .ref a_12, .ref a_13]))]) rfl (fun _ => rfl) (fun _ => rfl) ?_
        clear hP hD hS
        clear H locs
        intro u
        obtain ⟨n203, n204, n205, n206⟩ := u
        intro H locs hw (hP : va_P G vwCl [(a_1, .inr (9, [.ref a_2, .int i_0])), (a_2, .inl (cy 0, 600, .inl f_0)), (a_0, .inr (7, [.ref a_1, .ref a_3, .int n175, .int n176, .int n203, .int n204, .int n205, .int n206])), (a_3, .inr (0, [.int i_7, .int v181, .int i_9, .int i_10, .int i_11, .int i_12, .int i_13, .int i_14, .ref a_4, .ref a_5, .ref a_6, .ref a_7, .ref a_8, .ref a_9, .ref a_10, .ref a_11, .ref a_12, .ref a_13]))] H) (hD : va_D A [(a_1, .inr (9, [.ref a_2, .int i_0])), (a_2, .inl (cy 0, 600, .inl f_0)), (a_0, .inr (7, [.ref a_1, .ref a_3, .int n175, .int n176, .int n203, .int n204, .int n205, .int n206])), (a_3, .inr (0, [.int i_7, .int v181, .int i_9, .int i_10, .int i_11, .int i_12, .int i_13, .int i_14, .ref a_4, .ref a_5, .ref a_6, .ref a_7, .ref a_8, .ref a_9, .ref a_10, .ref a_11, .ref a_12, .ref a_13]))]) hS
        obtain ⟨w207, w208, w209⟩ := hw
        refine lv_aload_n hx hb dX7_takeBookLine_44 rfl (lv_at hl 0 rfl) ?_
        refine va_get (D := G) (ci := 7) (v := .ref a_3) (C := RX7) (T := TX7) (N := 8) hx hb hts (mm_i inlX7) hown hK.1 hP 2 rfl rfl 1 (by decide) (mm_h hts mm_w65) (fun _ h9 => h9) rfl dX7_takeBookLine_45 ?_
        refine lv_aload_n hx hb dX7_takeBookLine_48 rfl (lv_at hl 0 rfl) ?_
        refine lv_iconst (v := 0) hx hb dX7_takeBookLine_49 (by decide) ?_
        refine lv_bipush (v := 99) hx hb dX7_takeBookLine_50 (by decide) ?_
        refine mm_fini (va_runV (As := [.int 0, .int 99]) (rest := [.ref a_3]) ⟨hx, hb, hml, hown, hts⟩ (K272_X7_takeNumber l G cy H.size a_0 a_1 a_2 i_0 f_0 a_3 n175 n176 n203 n204 n205 n206 h0 h1 w182 w207 w208 w209) (cwV 2 hts (mm_gV mm_w315 mm_w316 mm_w317 mm_w19 mm_w318) rfl rfl rfl hd_X7_takeNumber ⟨by rw [hRf]; exact Nat.le_of_ble_eq_true rfl, by rw [hRl]; exact Nat.le_of_ble_eq_true rfl⟩) (mm_preV hK hZ hS hA hP hD [0, 1, 2] rfl rfl 2 rfl rfl rfl) rfl rfl hl.1 rfl (lv_room (Nat.le_of_ble_eq_true rfl)) dX7_takeBookLine_52 ⟨by rw [hRc]; exact Nat.le_of_ble_eq_true rfl, by rw [hRs]; exact Nat.le_of_ble_eq_true rfl⟩) hP hD hS hA (fun u : Int32 × Int32 × Int32 × Int32 × Int32 × Int32 => [(a_1, .inr (9, [.ref a_2, .int i_0])), (a_2, .inl (cy 0, 600, .inl f_0)), (a_0, .inr (7, [.ref a_1, .ref a_3, .int u.1, .int u.2.1, .int u.2.2.1, .int u.2.2.2.1, .int u.2.2.2.2.1, .int u.2.2.2.2.2])), (a_3, .inr (0, [.int i_7, .int v181, .int i_9, .int i_10, .int i_11, .int i_12, .int i_13, .int i_14, .ref a_4, .ref a_5, .ref a_6, .ref a_7, .ref a_8, .ref a_9, .ref a_10, .ref a_11, .ref a_12, .ref a_13]))]) [0, 1, 2] [3] (n := 4) (fun _ => rfl) (by decide +kernel) (by decide +kernel) rfl (fun _ => rfl) (wr := [(a_3, .inr (0, [.int i_7, .int v181, .int i_9, .int i_10, .int i_11, .int i_12, .int i_13, .int i_14, .ref a_4, .ref a_5, .ref a_6, .ref a_7, .ref a_8, .ref a_9, .ref a_10, .ref a_11, .ref a_12, .ref a_13]))]) rfl (fun _ => rfl) (fun _ => rfl) ?_
        clear hP hD hS
        clear H locs
        intro v216 u
        obtain ⟨n210, n211, n212, n213, n214, n215⟩ := u
        intro H locs hw (hP : va_P G vwCl [(a_1, .inr (9, [.ref a_2, .int i_0])), (a_2, .inl (cy 0, 600, .inl f_0)), (a_0, .inr (7, [.ref a_1, .ref a_3, .int n210, .int n211, .int n212, .int n213, .int n214, .int n215])), (a_3, .inr (0, [.int i_7, .int v181, .int i_9, .int i_10, .int i_11, .int i_12, .int i_13, .int i_14, .ref a_4, .ref a_5, .ref a_6, .ref a_7, .ref a_8, .ref a_9, .ref a_10, .ref a_11, .ref a_12, .ref a_13]))] H) (hD : va_D A [(a_1, .inr (9, [.ref a_2, .int i_0])), (a_2, .inl (cy 0, 600, .inl f_0)), (a_0, .inr (7, [.ref a_1, .ref a_3, .int n210, .int n211, .int n212, .int n213, .int n214, .int n215])), (a_3, .inr (0, [.int i_7, .int v181, .int i_9, .int i_10, .int i_11, .int i_12, .int i_13, .int i_14, .ref a_4, .ref a_5, .ref a_6, .ref a_7, .ref a_8, .ref a_9, .ref a_10, .ref a_11, .ref a_12, .ref a_13]))]) hS
        obtain ⟨w217, w218, w219, w220, hw⟩ := hw
        have w221 := hw
        refine va_put (D := G) (ci := 0) (v := .int v216) (ty := tyX0 2) (C := RX0) (T := TX0) (N := 18) hx hb hts (mm_i inlX0) tyX0 tyX0_ok nmX0 hown hK.1 hP hD hS 3 rfl rfl 2 (by decide) (mm_h hts mm_w209) (fun _ h9 => h9) rfl (tyX0_ok 2 (by decide)) rfl rfl (Nat.le_of_ble_eq_true rfl) dX7_takeBookLine_55 ?_
        clear hP hD hS
        clear H locs
        intro H locs (hP : va_P G vwCl [(a_1, .inr (9, [.ref a_2, .int i_0])), (a_2, .inl (cy 0, 600, .inl f_0)), (a_0, .inr (7, [.ref a_1, .ref a_3, .int n210, .int n211, .int n212, .int n213, .int n214, .int n215])), (a_3, .inr (0, [.int i_7, .int v181, .int v216, .int i_10, .int i_11, .int i_12, .int i_13, .int i_14, .ref a_4, .ref a_5, .ref a_6, .ref a_7, .ref a_8, .ref a_9, .ref a_10, .ref a_11, .ref a_12, .ref a_13]))] H) (hD : va_D A [(a_1, .inr (9, [.ref a_2, .int i_0])), (a_2, .inl (cy 0, 600, .inl f_0)), (a_0, .inr (7, [.ref a_1, .ref a_3, .int n210, .int n211, .int n212, .int n213, .int n214, .int n215])), (a_3, .inr (0, [.int i_7, .int v181, .int v216, .int i_10, .int i_11, .int i_12, .int i_13, .int i_14, .ref a_4, .ref a_5, .ref a_6, .ref a_7, .ref a_8, .ref a_9, .ref a_10, .ref a_11, .ref a_12, .ref a_13]))]) hS
        subst hAe
        rw [hQ]
        exact W.vret hx hb hr (fun t ht hW => ⟨⟨(n210, n211, n212, n213, n214, n215, v181, v216), rfl, ⟨w217, w218, w219, w220, w186, w221⟩, by rw [ht]; exact hP, hK.warm hW, hD⟩, hS.F ht⟩) hS.2.2 dX7_takeBookLine_58

