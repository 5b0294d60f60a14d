theorem dX5_nodeAt_0 : decode cX5_nodeAt 0 = .ok (.iload_n 1, 1) := by decide +kernel
theorem dX5_nodeAt_1 : decode cX5_nodeAt 1 = .ok (.iconst 1, 1) := by decide +kernel
theorem dX5_nodeAt_2 : decode cX5_nodeAt 2 = .ok (.if_icmp .lt 18, 3) := by decide +kernel
theorem dX5_nodeAt_5 : decode cX5_nodeAt 5 = .ok (.iload_n 1, 1) := by decide +kernel
theorem dX5_nodeAt_6 : decode cX5_nodeAt 6 = .ok (.bipush 16, 2) := by decide +kernel
theorem dX5_nodeAt_8 : decode cX5_nodeAt 8 = .ok (.if_icmp .ge 12, 3) := by decide +kernel
theorem dX5_nodeAt_11 : decode cX5_nodeAt 11 = .ok (.aload_n 0, 1) := by decide +kernel
theorem dX5_nodeAt_12 : decode cX5_nodeAt 12 = .ok (.getfield 15, 3) := by decide +kernel
theorem dX5_nodeAt_15 : decode cX5_nodeAt 15 = .ok (.iload_n 1, 1) := by decide +kernel
theorem dX5_nodeAt_16 : decode cX5_nodeAt 16 = .ok (.laload, 1) := by decide +kernel
theorem dX5_nodeAt_17 : decode cX5_nodeAt 17 = .ok (.goto 4, 3) := by decide +kernel
theorem dX5_nodeAt_20 : decode cX5_nodeAt 20 = .ok (.lconst 0, 1) := by decide +kernel
theorem dX5_nodeAt_21 : decode cX5_nodeAt 21 = .ok (.lreturn, 1) := by decide +kernel
theorem dX5_change_0 : decode cX5_change 0 = .ok (.iload_n 1, 1) := by decide +kernel
theorem dX5_change_1 : decode cX5_change 1 = .ok (.invokestatic 29, 3) := by decide +kernel
theorem dX5_change_4 : decode cX5_change 4 = .ok (.ifCond .ne 5, 3) := by decide +kernel
theorem dX5_change_7 : decode cX5_change 7 = .ok (.lconst 0, 1) := by decide +kernel
theorem dX5_change_8 : decode cX5_change 8 = .ok (.lreturn, 1) := by decide +kernel
theorem dX5_change_9 : decode cX5_change 9 = .ok (.aload_n 0, 1) := by decide +kernel
theorem dX5_change_10 : decode cX5_change 10 = .ok (.getfield 9, 3) := by decide +kernel
theorem dX5_change_13 : decode cX5_change 13 = .ok (.iload_n 1, 1) := by decide +kernel
theorem dX5_change_14 : decode cX5_change 14 = .ok (.laload, 1) := by decide +kernel
theorem dX5_change_15 : decode cX5_change 15 = .ok (.lstore 4, 2) := by decide +kernel
theorem dX5_change_17 : decode cX5_change 17 = .ok (.aload_n 0, 1) := by decide +kernel
theorem dX5_change_18 : decode cX5_change 18 = .ok (.getfield 9, 3) := by decide +kernel
theorem dX5_change_21 : decode cX5_change 21 = .ok (.iload_n 1, 1) := by decide +kernel
theorem dX5_change_22 : decode cX5_change 22 = .ok (.lload_n 2, 1) := by decide +kernel
theorem dX5_change_23 : decode cX5_change 23 = .ok (.lastore, 1) := by decide +kernel
theorem dX5_change_24 : decode cX5_change 24 = .ok (.aload_n 0, 1) := by decide +kernel
theorem dX5_change_25 : decode cX5_change 25 = .ok (.invokevirtual 18, 3) := by decide +kernel
theorem dX5_change_28 : decode cX5_change 28 = .ok (.lload 4, 2) := by decide +kernel
theorem dX5_change_30 : decode cX5_change 30 = .ok (.lreturn, 1) := by decide +kernel
theorem dX6_init_0 : decode cX6_init 0 = .ok (.aload_n 0, 1) := by decide +kernel
theorem dX6_init_1 : decode cX6_init 1 = .ok (.invokespecial 3, 3) := by decide +kernel
theorem dX6_init_4 : decode cX6_init 4 = .ok (.aload_n 0, 1) := by decide +kernel
theorem dX6_init_5 : decode cX6_init 5 = .ok (.iload_n 1, 1) := by decide +kernel
theorem dX6_init_6 : decode cX6_init 6 = .ok (.putfield 9, 3) := by decide +kernel
theorem dX6_init_9 : decode cX6_init 9 = .ok (.aload_n 0, 1) := by decide +kernel
theorem dX6_init_10 : decode cX6_init 10 = .ok (.lload_n 2, 1) := by decide +kernel
theorem dX6_init_11 : decode cX6_init 11 = .ok (.putfield 15, 3) := by decide +kernel
theorem dX6_init_14 : decode cX6_init 14 = .ok (.aload_n 0, 1) := by decide +kernel
theorem dX6_init_15 : decode cX6_init 15 = .ok (.lload 4, 2) := by decide +kernel
theorem dX6_init_17 : decode cX6_init 17 = .ok (.putfield 19, 3) := by decide +kernel
theorem dX6_init_20 : decode cX6_init 20 = .ok (.iconst 0, 1) := by decide +kernel
theorem dX6_init_21 : decode cX6_init 21 = .ok (.istore 6, 2) := by decide +kernel
theorem dX6_init_23 : decode cX6_init 23 = .ok (.iconst 0, 1) := by decide +kernel
theorem dX6_init_24 : decode cX6_init 24 = .ok (.istore 7, 2) := by decide +kernel
theorem dX6_init_26 : decode cX6_init 26 = .ok (.iload 7, 2) := by decide +kernel
theorem dX6_init_28 : decode cX6_init 28 = .ok (.iconst 5, 1) := by decide +kernel
theorem dX6_init_29 : decode cX6_init 29 = .ok (.if_icmp .ge 28, 3) := by decide +kernel
theorem dX6_init_32 : decode cX6_init 32 = .ok (.iload 6, 2) := by decide +kernel
theorem dX6_init_34 : decode cX6_init 34 = .ok (.lload_n 2, 1) := by decide +kernel
theorem dX6_init_35 : decode cX6_init 35 = .ok (.iload 7, 2) := by decide +kernel
theorem dX6_init_37 : decode cX6_init 37 = .ok (.invokestatic 22, 3) := by decide +kernel
theorem dX6_init_40 : decode cX6_init 40 = .ok (.lload 4, 2) := by decide +kernel
theorem dX6_init_42 : decode cX6_init 42 = .ok (.iload 7, 2) := by decide +kernel
theorem dX6_init_44 : decode cX6_init 44 = .ok (.invokestatic 22, 3) := by decide +kernel
theorem dX6_init_47 : decode cX6_init 47 = .ok (.iadd, 1) := by decide +kernel
theorem dX6_init_48 : decode cX6_init 48 = .ok (.iadd, 1) := by decide +kernel
theorem dX6_init_49 : decode cX6_init 49 = .ok (.istore 6, 2) := by decide +kernel
theorem dX6_init_51 : decode cX6_init 51 = .ok (.iinc 7 1, 3) := by decide +kernel
theorem dX6_init_54 : decode cX6_init 54 = .ok (.goto (-28), 3) := by decide +kernel
theorem dX6_init_57 : decode cX6_init 57 = .ok (.aload_n 0, 1) := by decide +kernel
theorem dX6_init_58 : decode cX6_init 58 = .ok (.iload 6, 2) := by decide +kernel
theorem dX6_init_60 : decode cX6_init 60 = .ok (.putfield 26, 3) := by decide +kernel
theorem dX6_init_63 : decode cX6_init 63 = .ok (.return_, 1) := by decide +kernel
theorem dX6_weightOf_0 : decode cX6_weightOf 0 = .ok (.iconst 0, 1) := by decide +kernel
theorem dX6_weightOf_1 : decode cX6_weightOf 1 = .ok (.istore_n 2, 1) := by decide +kernel
theorem dX6_weightOf_2 : decode cX6_weightOf 2 = .ok (.iconst 0, 1) := by decide +kernel
theorem dX6_weightOf_3 : decode cX6_weightOf 3 = .ok (.istore_n 3, 1) := by decide +kernel
theorem dX6_weightOf_4 : decode cX6_weightOf 4 = .ok (.iload_n 3, 1) := by decide +kernel
theorem dX6_weightOf_5 : decode cX6_weightOf 5 = .ok (.iconst 5, 1) := by decide +kernel
theorem dX6_weightOf_6 : decode cX6_weightOf 6 = .ok (.if_icmp .ge 49, 3) := by decide +kernel
theorem dX6_weightOf_9 : decode cX6_weightOf 9 = .ok (.iload_n 1, 1) := by decide +kernel
theorem dX6_weightOf_10 : decode cX6_weightOf 10 = .ok (.iconst 1, 1) := by decide +kernel
theorem dX6_weightOf_11 : decode cX6_weightOf 11 = .ok (.iload_n 3, 1) := by decide +kernel
theorem dX6_weightOf_12 : decode cX6_weightOf 12 = .ok (.ishl, 1) := by decide +kernel
theorem dX6_weightOf_13 : decode cX6_weightOf 13 = .ok (.iand, 1) := by decide +kernel
theorem dX6_weightOf_14 : decode cX6_weightOf 14 = .ok (.ifCond .eq 14, 3) := by decide +kernel
theorem dX6_weightOf_17 : decode cX6_weightOf 17 = .ok (.iload_n 2, 1) := by decide +kernel
theorem dX6_weightOf_18 : decode cX6_weightOf 18 = .ok (.aload_n 0, 1) := by decide +kernel
theorem dX6_weightOf_19 : decode cX6_weightOf 19 = .ok (.getfield 15, 3) := by decide +kernel
theorem dX6_weightOf_22 : decode cX6_weightOf 22 = .ok (.iload_n 3, 1) := by decide +kernel
theorem dX6_weightOf_23 : decode cX6_weightOf 23 = .ok (.invokestatic 22, 3) := by decide +kernel
theorem dX6_weightOf_26 : decode cX6_weightOf 26 = .ok (.iadd, 1) := by decide +kernel
theorem dX6_weightOf_27 : decode cX6_weightOf 27 = .ok (.istore_n 2, 1) := by decide +kernel
theorem dX6_weightOf_28 : decode cX6_weightOf 28 = .ok (.iload_n 1, 1) := by decide +kernel
theorem dX6_weightOf_29 : decode cX6_weightOf 29 = .ok (.iconst 1, 1) := by decide +kernel
theorem dX6_weightOf_30 : decode cX6_weightOf 30 = .ok (.iload_n 3, 1) := by decide +kernel
theorem dX6_weightOf_31 : decode cX6_weightOf 31 = .ok (.iconst 5, 1) := by decide +kernel
theorem dX6_weightOf_32 : decode cX6_weightOf 32 = .ok (.iadd, 1) := by decide +kernel
theorem dX6_weightOf_33 : decode cX6_weightOf 33 = .ok (.ishl, 1) := by decide +kernel
theorem dX6_weightOf_34 : decode cX6_weightOf 34 = .ok (.iand, 1) := by decide +kernel
theorem dX6_weightOf_35 : decode cX6_weightOf 35 = .ok (.ifCond .eq 14, 3) := by decide +kernel
theorem dX6_weightOf_38 : decode cX6_weightOf 38 = .ok (.iload_n 2, 1) := by decide +kernel
theorem dX6_weightOf_39 : decode cX6_weightOf 39 = .ok (.aload_n 0, 1) := by decide +kernel
theorem dX6_weightOf_40 : decode cX6_weightOf 40 = .ok (.getfield 19, 3) := by decide +kernel
theorem dX6_weightOf_43 : decode cX6_weightOf 43 = .ok (.iload_n 3, 1) := by decide +kernel
theorem dX6_weightOf_44 : decode cX6_weightOf 44 = .ok (.invokestatic 22, 3) := by decide +kernel
theorem dX6_weightOf_47 : decode cX6_weightOf 47 = .ok (.iadd, 1) := by decide +kernel
theorem dX6_weightOf_48 : decode cX6_weightOf 48 = .ok (.istore_n 2, 1) := by decide +kernel
theorem dX6_weightOf_49 : decode cX6_weightOf 49 = .ok (.iinc 3 1, 3) := by decide +kernel
theorem dX6_weightOf_52 : decode cX6_weightOf 52 = .ok (.goto (-48), 3) := by decide +kernel
theorem dX6_weightOf_55 : decode cX6_weightOf 55 = .ok (.iload_n 2, 1) := by decide +kernel
theorem dX6_weightOf_56 : decode cX6_weightOf 56 = .ok (.ireturn, 1) := by decide +kernel
