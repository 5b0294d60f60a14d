theorem dX7_told_0 : decode cX7_told 0 = .ok (.iload_n 1, 1) := by decide +kernel
theorem dX7_told_1 : decode cX7_told 1 = .ok (.ifCond .ne 8, 3) := by decide +kernel
theorem dX7_told_4 : decode cX7_told 4 = .ok (.aload_n 0, 1) := by decide +kernel
theorem dX7_told_5 : decode cX7_told 5 = .ok (.getfield 15, 3) := by decide +kernel
theorem dX7_told_8 : decode cX7_told 8 = .ok (.ireturn, 1) := by decide +kernel
theorem dX7_told_9 : decode cX7_told 9 = .ok (.iload_n 1, 1) := by decide +kernel
theorem dX7_told_10 : decode cX7_told 10 = .ok (.iconst 1, 1) := by decide +kernel
theorem dX7_told_11 : decode cX7_told 11 = .ok (.if_icmp .ne 11, 3) := by decide +kernel
theorem dX7_told_14 : decode cX7_told 14 = .ok (.aload_n 0, 1) := by decide +kernel
theorem dX7_told_15 : decode cX7_told 15 = .ok (.getfield 24, 3) := by decide +kernel
theorem dX7_told_18 : decode cX7_told 18 = .ok (.getfield 86, 3) := by decide +kernel
theorem dX7_told_21 : decode cX7_told 21 = .ok (.ireturn, 1) := by decide +kernel
theorem dX7_told_22 : decode cX7_told 22 = .ok (.iload_n 1, 1) := by decide +kernel
theorem dX7_told_23 : decode cX7_told 23 = .ok (.iconst 2, 1) := by decide +kernel
theorem dX7_told_24 : decode cX7_told 24 = .ok (.if_icmp .lt 20, 3) := by decide +kernel
theorem dX7_told_27 : decode cX7_told 27 = .ok (.iload_n 1, 1) := by decide +kernel
theorem dX7_told_28 : decode cX7_told 28 = .ok (.bipush 6, 2) := by decide +kernel
theorem dX7_told_30 : decode cX7_told 30 = .ok (.if_icmp .ge 14, 3) := by decide +kernel
theorem dX7_told_33 : decode cX7_told 33 = .ok (.aload_n 0, 1) := by decide +kernel
theorem dX7_told_34 : decode cX7_told 34 = .ok (.getfield 28, 3) := by decide +kernel
theorem dX7_told_37 : decode cX7_told 37 = .ok (.iload_n 1, 1) := by decide +kernel
theorem dX7_told_38 : decode cX7_told 38 = .ok (.iconst 2, 1) := by decide +kernel
theorem dX7_told_39 : decode cX7_told 39 = .ok (.isub, 1) := by decide +kernel
theorem dX7_told_40 : decode cX7_told 40 = .ok (.iaload, 1) := by decide +kernel
theorem dX7_told_41 : decode cX7_told 41 = .ok (.goto 4, 3) := by decide +kernel
theorem dX7_told_44 : decode cX7_told 44 = .ok (.iconst (-1), 1) := by decide +kernel
theorem dX7_told_45 : decode cX7_told 45 = .ok (.ireturn, 1) := by decide +kernel
theorem dX7_setAt_0 : decode cX7_setAt 0 = .ok (.iload_n 1, 1) := by decide +kernel
theorem dX7_setAt_1 : decode cX7_setAt 1 = .ok (.ifCond .lt 29, 3) := by decide +kernel
theorem dX7_setAt_4 : decode cX7_setAt 4 = .ok (.iload_n 1, 1) := by decide +kernel
theorem dX7_setAt_5 : decode cX7_setAt 5 = .ok (.aload_n 0, 1) := by decide +kernel
theorem dX7_setAt_6 : decode cX7_setAt 6 = .ok (.getfield 15, 3) := by decide +kernel
theorem dX7_setAt_9 : decode cX7_setAt 9 = .ok (.if_icmp .ge 21, 3) := by decide +kernel
theorem dX7_setAt_12 : decode cX7_setAt 12 = .ok (.iload_n 1, 1) := by decide +kernel
theorem dX7_setAt_13 : decode cX7_setAt 13 = .ok (.aload_n 0, 1) := by decide +kernel
theorem dX7_setAt_14 : decode cX7_setAt 14 = .ok (.getfield 11, 3) := by decide +kernel
theorem dX7_setAt_17 : decode cX7_setAt 17 = .ok (.arraylength, 1) := by decide +kernel
theorem dX7_setAt_18 : decode cX7_setAt 18 = .ok (.if_icmp .ge 12, 3) := by decide +kernel
theorem dX7_setAt_21 : decode cX7_setAt 21 = .ok (.aload_n 0, 1) := by decide +kernel
theorem dX7_setAt_22 : decode cX7_setAt 22 = .ok (.getfield 11, 3) := by decide +kernel
theorem dX7_setAt_25 : decode cX7_setAt 25 = .ok (.iload_n 1, 1) := by decide +kernel
theorem dX7_setAt_26 : decode cX7_setAt 26 = .ok (.aaload, 1) := by decide +kernel
theorem dX7_setAt_27 : decode cX7_setAt 27 = .ok (.goto 4, 3) := by decide +kernel
theorem dX7_setAt_30 : decode cX7_setAt 30 = .ok (.aconst_null, 1) := by decide +kernel
theorem dX7_setAt_31 : decode cX7_setAt 31 = .ok (.areturn, 1) := by decide +kernel
theorem dX7_clientAt_0 : decode cX7_clientAt 0 = .ok (.iload_n 1, 1) := by decide +kernel
theorem dX7_clientAt_1 : decode cX7_clientAt 1 = .ok (.ifCond .lt 21, 3) := by decide +kernel
theorem dX7_clientAt_4 : decode cX7_clientAt 4 = .ok (.iload_n 1, 1) := by decide +kernel
theorem dX7_clientAt_5 : decode cX7_clientAt 5 = .ok (.aload_n 0, 1) := by decide +kernel
theorem dX7_clientAt_6 : decode cX7_clientAt 6 = .ok (.getfield 34, 3) := by decide +kernel
theorem dX7_clientAt_9 : decode cX7_clientAt 9 = .ok (.arraylength, 1) := by decide +kernel
theorem dX7_clientAt_10 : decode cX7_clientAt 10 = .ok (.if_icmp .ge 12, 3) := by decide +kernel
theorem dX7_clientAt_13 : decode cX7_clientAt 13 = .ok (.aload_n 0, 1) := by decide +kernel
theorem dX7_clientAt_14 : decode cX7_clientAt 14 = .ok (.getfield 34, 3) := by decide +kernel
theorem dX7_clientAt_17 : decode cX7_clientAt 17 = .ok (.iload_n 1, 1) := by decide +kernel
theorem dX7_clientAt_18 : decode cX7_clientAt 18 = .ok (.aaload, 1) := by decide +kernel
theorem dX7_clientAt_19 : decode cX7_clientAt 19 = .ok (.goto 4, 3) := by decide +kernel
theorem dX7_clientAt_22 : decode cX7_clientAt 22 = .ok (.aconst_null, 1) := by decide +kernel
theorem dX7_clientAt_23 : decode cX7_clientAt 23 = .ok (.areturn, 1) := by decide +kernel
theorem dX7_giverAt_0 : decode cX7_giverAt 0 = .ok (.iload_n 1, 1) := by decide +kernel
theorem dX7_giverAt_1 : decode cX7_giverAt 1 = .ok (.ifCond .lt 21, 3) := by decide +kernel
theorem dX7_giverAt_4 : decode cX7_giverAt 4 = .ok (.iload_n 1, 1) := by decide +kernel
theorem dX7_giverAt_5 : decode cX7_giverAt 5 = .ok (.aload_n 0, 1) := by decide +kernel
theorem dX7_giverAt_6 : decode cX7_giverAt 6 = .ok (.getfield 40, 3) := by decide +kernel
theorem dX7_giverAt_9 : decode cX7_giverAt 9 = .ok (.arraylength, 1) := by decide +kernel
theorem dX7_giverAt_10 : decode cX7_giverAt 10 = .ok (.if_icmp .ge 12, 3) := by decide +kernel
theorem dX7_giverAt_13 : decode cX7_giverAt 13 = .ok (.aload_n 0, 1) := by decide +kernel
theorem dX7_giverAt_14 : decode cX7_giverAt 14 = .ok (.getfield 40, 3) := by decide +kernel
theorem dX7_giverAt_17 : decode cX7_giverAt 17 = .ok (.iload_n 1, 1) := by decide +kernel
theorem dX7_giverAt_18 : decode cX7_giverAt 18 = .ok (.aaload, 1) := by decide +kernel
theorem dX7_giverAt_19 : decode cX7_giverAt 19 = .ok (.goto 4, 3) := by decide +kernel
theorem dX7_giverAt_22 : decode cX7_giverAt 22 = .ok (.aconst_null, 1) := by decide +kernel
theorem dX7_giverAt_23 : decode cX7_giverAt 23 = .ok (.areturn, 1) := by decide +kernel
theorem dX7_doesOverlap_0 : decode cX7_doesOverlap 0 = .ok (.aload_n 0, 1) := by decide +kernel
theorem dX7_doesOverlap_1 : decode cX7_doesOverlap 1 = .ok (.getfield 28, 3) := by decide +kernel
theorem dX7_doesOverlap_4 : decode cX7_doesOverlap 4 = .ok (.iconst 1, 1) := by decide +kernel
theorem dX7_doesOverlap_5 : decode cX7_doesOverlap 5 = .ok (.iaload, 1) := by decide +kernel
theorem dX7_doesOverlap_6 : decode cX7_doesOverlap 6 = .ok (.aload_n 2, 1) := by decide +kernel
theorem dX7_doesOverlap_7 : decode cX7_doesOverlap 7 = .ok (.aload_n 1, 1) := by decide +kernel
theorem dX7_doesOverlap_8 : decode cX7_doesOverlap 8 = .ok (.getfield 102, 3) := by decide +kernel
theorem dX7_doesOverlap_11 : decode cX7_doesOverlap 11 = .ok (.invokevirtual 232, 3) := by decide +kernel
theorem dX7_doesOverlap_14 : decode cX7_doesOverlap 14 = .ok (.imul, 1) := by decide +kernel
theorem dX7_doesOverlap_15 : decode cX7_doesOverlap 15 = .ok (.aload_n 0, 1) := by decide +kernel
theorem dX7_doesOverlap_16 : decode cX7_doesOverlap 16 = .ok (.getfield 28, 3) := by decide +kernel
theorem dX7_doesOverlap_19 : decode cX7_doesOverlap 19 = .ok (.iconst 0, 1) := by decide +kernel
theorem dX7_doesOverlap_20 : decode cX7_doesOverlap 20 = .ok (.iaload, 1) := by decide +kernel
theorem dX7_doesOverlap_21 : decode cX7_doesOverlap 21 = .ok (.aload_n 2, 1) := by decide +kernel
theorem dX7_doesOverlap_22 : decode cX7_doesOverlap 22 = .ok (.getfield 236, 3) := by decide +kernel
theorem dX7_doesOverlap_25 : decode cX7_doesOverlap 25 = .ok (.imul, 1) := by decide +kernel
theorem dX7_doesOverlap_26 : decode cX7_doesOverlap 26 = .ok (.if_icmp .le 7, 3) := by decide +kernel
theorem dX7_doesOverlap_29 : decode cX7_doesOverlap 29 = .ok (.iconst 1, 1) := by decide +kernel
theorem dX7_doesOverlap_30 : decode cX7_doesOverlap 30 = .ok (.goto 4, 3) := by decide +kernel
theorem dX7_doesOverlap_33 : decode cX7_doesOverlap 33 = .ok (.iconst 0, 1) := by decide +kernel
theorem dX7_doesOverlap_34 : decode cX7_doesOverlap 34 = .ok (.ireturn, 1) := by decide +kernel
theorem dX7_refusal_0 : decode cX7_refusal 0 = .ok (.aload_n 2, 1) := by decide +kernel
theorem dX7_refusal_1 : decode cX7_refusal 1 = .ok (.ifnonnull 6, 3) := by decide +kernel
theorem dX7_refusal_4 : decode cX7_refusal 4 = .ok (.bipush 7, 2) := by decide +kernel
theorem dX7_refusal_6 : decode cX7_refusal 6 = .ok (.ireturn, 1) := by decide +kernel
theorem dX7_refusal_7 : decode cX7_refusal 7 = .ok (.aload_n 2, 1) := by decide +kernel
theorem dX7_refusal_8 : decode cX7_refusal 8 = .ok (.getfield 138, 3) := by decide +kernel
theorem dX7_refusal_11 : decode cX7_refusal 11 = .ok (.aload_n 1, 1) := by decide +kernel
theorem dX7_refusal_12 : decode cX7_refusal 12 = .ok (.getfield 138, 3) := by decide +kernel
theorem dX7_refusal_15 : decode cX7_refusal 15 = .ok (.isub, 1) := by decide +kernel
theorem dX7_refusal_16 : decode cX7_refusal 16 = .ok (.istore_n 3, 1) := by decide +kernel
theorem dX7_refusal_17 : decode cX7_refusal 17 = .ok (.iload_n 3, 1) := by decide +kernel
theorem dX7_refusal_18 : decode cX7_refusal 18 = .ok (.iconst 1, 1) := by decide +kernel
theorem dX7_refusal_19 : decode cX7_refusal 19 = .ok (.if_icmp .ge 5, 3) := by decide +kernel
theorem dX7_refusal_22 : decode cX7_refusal 22 = .ok (.iconst 1, 1) := by decide +kernel
theorem dX7_refusal_23 : decode cX7_refusal 23 = .ok (.ireturn, 1) := by decide +kernel
theorem dX7_refusal_24 : decode cX7_refusal 24 = .ok (.iload_n 3, 1) := by decide +kernel
theorem dX7_refusal_25 : decode cX7_refusal 25 = .ok (.iconst 1, 1) := by decide +kernel
theorem dX7_refusal_26 : decode cX7_refusal 26 = .ok (.if_icmp .ne 12, 3) := by decide +kernel
theorem dX7_refusal_29 : decode cX7_refusal 29 = .ok (.aload_n 0, 1) := by decide +kernel
theorem dX7_refusal_30 : decode cX7_refusal 30 = .ok (.aload_n 1, 1) := by decide +kernel
theorem dX7_refusal_31 : decode cX7_refusal 31 = .ok (.aload_n 2, 1) := by decide +kernel
theorem dX7_refusal_32 : decode cX7_refusal 32 = .ok (.invokevirtual 239, 3) := by decide +kernel
theorem dX7_refusal_35 : decode cX7_refusal 35 = .ok (.goto 9, 3) := by decide +kernel
theorem dX7_refusal_38 : decode cX7_refusal 38 = .ok (.aload_n 0, 1) := by decide +kernel
theorem dX7_refusal_39 : decode cX7_refusal 39 = .ok (.aload_n 1, 1) := by decide +kernel
theorem dX7_refusal_40 : decode cX7_refusal 40 = .ok (.aload_n 2, 1) := by decide +kernel
theorem dX7_refusal_41 : decode cX7_refusal 41 = .ok (.invokevirtual 242, 3) := by decide +kernel
theorem dX7_refusal_44 : decode cX7_refusal 44 = .ok (.ireturn, 1) := by decide +kernel
theorem dX7_stepRefusal_0 : decode cX7_stepRefusal 0 = .ok (.aload_n 2, 1) := by decide +kernel
theorem dX7_stepRefusal_1 : decode cX7_stepRefusal 1 = .ok (.getfield 245, 3) := by decide +kernel
theorem dX7_stepRefusal_4 : decode cX7_stepRefusal 4 = .ok (.aload_n 1, 1) := by decide +kernel
theorem dX7_stepRefusal_5 : decode cX7_stepRefusal 5 = .ok (.getfield 111, 3) := by decide +kernel
theorem dX7_stepRefusal_8 : decode cX7_stepRefusal 8 = .ok (.lcmp, 1) := by decide +kernel
theorem dX7_stepRefusal_9 : decode cX7_stepRefusal 9 = .ok (.ifCond .eq 5, 3) := by decide +kernel
theorem dX7_stepRefusal_12 : decode cX7_stepRefusal 12 = .ok (.iconst 2, 1) := by decide +kernel
theorem dX7_stepRefusal_13 : decode cX7_stepRefusal 13 = .ok (.ireturn, 1) := by decide +kernel
theorem dX7_stepRefusal_14 : decode cX7_stepRefusal 14 = .ok (.aload_n 2, 1) := by decide +kernel
theorem dX7_stepRefusal_15 : decode cX7_stepRefusal 15 = .ok (.getfield 248, 3) := by decide +kernel
theorem dX7_stepRefusal_18 : decode cX7_stepRefusal 18 = .ok (.getfield 252, 3) := by decide +kernel
theorem dX7_stepRefusal_21 : decode cX7_stepRefusal 21 = .ok (.aload_n 1, 1) := by decide +kernel
theorem dX7_stepRefusal_22 : decode cX7_stepRefusal 22 = .ok (.getfield 253, 3) := by decide +kernel
theorem dX7_stepRefusal_25 : decode cX7_stepRefusal 25 = .ok (.getfield 252, 3) := by decide +kernel
theorem dX7_stepRefusal_28 : decode cX7_stepRefusal 28 = .ok (.if_icmp .eq 5, 3) := by decide +kernel
theorem dX7_stepRefusal_31 : decode cX7_stepRefusal 31 = .ok (.iconst 3, 1) := by decide +kernel
theorem dX7_stepRefusal_32 : decode cX7_stepRefusal 32 = .ok (.ireturn, 1) := by decide +kernel
theorem dX7_stepRefusal_33 : decode cX7_stepRefusal 33 = .ok (.aload_n 2, 1) := by decide +kernel
theorem dX7_stepRefusal_34 : decode cX7_stepRefusal 34 = .ok (.invokestatic 115, 3) := by decide +kernel
theorem dX7_stepRefusal_37 : decode cX7_stepRefusal 37 = .ok (.ifCond .eq 7, 3) := by decide +kernel
theorem dX7_stepRefusal_40 : decode cX7_stepRefusal 40 = .ok (.iconst 0, 1) := by decide +kernel
theorem dX7_stepRefusal_41 : decode cX7_stepRefusal 41 = .ok (.goto 4, 3) := by decide +kernel
theorem dX7_stepRefusal_44 : decode cX7_stepRefusal 44 = .ok (.iconst 4, 1) := by decide +kernel
theorem dX7_stepRefusal_45 : decode cX7_stepRefusal 45 = .ok (.ireturn, 1) := by decide +kernel
theorem dX7_skipRefusal_0 : decode cX7_skipRefusal 0 = .ok (.aload_n 2, 1) := by decide +kernel
theorem dX7_skipRefusal_1 : decode cX7_skipRefusal 1 = .ok (.getfield 138, 3) := by decide +kernel
theorem dX7_skipRefusal_4 : decode cX7_skipRefusal 4 = .ok (.aload_n 1, 1) := by decide +kernel
theorem dX7_skipRefusal_5 : decode cX7_skipRefusal 5 = .ok (.getfield 138, 3) := by decide +kernel
theorem dX7_skipRefusal_8 : decode cX7_skipRefusal 8 = .ok (.isub, 1) := by decide +kernel
theorem dX7_skipRefusal_9 : decode cX7_skipRefusal 9 = .ok (.aload_n 0, 1) := by decide +kernel
theorem dX7_skipRefusal_10 : decode cX7_skipRefusal 10 = .ok (.getfield 28, 3) := by decide +kernel
theorem dX7_skipRefusal_13 : decode cX7_skipRefusal 13 = .ok (.iconst 2, 1) := by decide +kernel
theorem dX7_skipRefusal_14 : decode cX7_skipRefusal 14 = .ok (.iaload, 1) := by decide +kernel
theorem dX7_skipRefusal_15 : decode cX7_skipRefusal 15 = .ok (.if_icmp .le 5, 3) := by decide +kernel
theorem dX7_skipRefusal_18 : decode cX7_skipRefusal 18 = .ok (.iconst 5, 1) := by decide +kernel
theorem dX7_skipRefusal_19 : decode cX7_skipRefusal 19 = .ok (.ireturn, 1) := by decide +kernel
theorem dX7_skipRefusal_20 : decode cX7_skipRefusal 20 = .ok (.aload_n 2, 1) := by decide +kernel
theorem dX7_skipRefusal_21 : decode cX7_skipRefusal 21 = .ok (.invokestatic 115, 3) := by decide +kernel
theorem dX7_skipRefusal_24 : decode cX7_skipRefusal 24 = .ok (.ifCond .ne 5, 3) := by decide +kernel
theorem dX7_skipRefusal_27 : decode cX7_skipRefusal 27 = .ok (.iconst 4, 1) := by decide +kernel
theorem dX7_skipRefusal_28 : decode cX7_skipRefusal 28 = .ok (.ireturn, 1) := by decide +kernel
theorem dX7_skipRefusal_29 : decode cX7_skipRefusal 29 = .ok (.aload_n 0, 1) := by decide +kernel
theorem dX7_skipRefusal_30 : decode cX7_skipRefusal 30 = .ok (.aload_n 2, 1) := by decide +kernel
theorem dX7_skipRefusal_31 : decode cX7_skipRefusal 31 = .ok (.aload_n 1, 1) := by decide +kernel
theorem dX7_skipRefusal_32 : decode cX7_skipRefusal 32 = .ok (.getfield 253, 3) := by decide +kernel
theorem dX7_skipRefusal_35 : decode cX7_skipRefusal 35 = .ok (.invokevirtual 119, 3) := by decide +kernel
theorem dX7_skipRefusal_38 : decode cX7_skipRefusal 38 = .ok (.ifCond .eq 7, 3) := by decide +kernel
theorem dX7_skipRefusal_41 : decode cX7_skipRefusal 41 = .ok (.iconst 0, 1) := by decide +kernel
theorem dX7_skipRefusal_42 : decode cX7_skipRefusal 42 = .ok (.goto 5, 3) := by decide +kernel
theorem dX7_skipRefusal_45 : decode cX7_skipRefusal 45 = .ok (.bipush 6, 2) := by decide +kernel
theorem dX7_skipRefusal_47 : decode cX7_skipRefusal 47 = .ok (.ireturn, 1) := by decide +kernel
theorem dX7_climb_0 : decode cX7_climb 0 = .ok (.aload_n 0, 1) := by decide +kernel
theorem dX7_climb_1 : decode cX7_climb 1 = .ok (.getfield 44, 3) := by decide +kernel
theorem dX7_climb_4 : decode cX7_climb 4 = .ok (.iconst 0, 1) := by decide +kernel
theorem dX7_climb_5 : decode cX7_climb 5 = .ok (.iload_n 3, 1) := by decide +kernel
theorem dX7_climb_6 : decode cX7_climb 6 = .ok (.iastore, 1) := by decide +kernel
theorem dX7_climb_7 : decode cX7_climb 7 = .ok (.iconst 1, 1) := by decide +kernel
theorem dX7_climb_8 : decode cX7_climb 8 = .ok (.istore 4, 2) := by decide +kernel
theorem dX7_climb_10 : decode cX7_climb 10 = .ok (.aload_n 1, 1) := by decide +kernel
theorem dX7_climb_11 : decode cX7_climb 11 = .ok (.invokevirtual 130, 3) := by decide +kernel
theorem dX7_climb_14 : decode cX7_climb 14 = .ok (.astore 5, 2) := by decide +kernel
theorem dX7_climb_16 : decode cX7_climb 16 = .ok (.iconst 0, 1) := by decide +kernel
theorem dX7_climb_17 : decode cX7_climb 17 = .ok (.istore 6, 2) := by decide +kernel
theorem dX7_climb_19 : decode cX7_climb 19 = .ok (.aload 5, 2) := by decide +kernel
theorem dX7_climb_21 : decode cX7_climb 21 = .ok (.ifnull 139, 3) := by decide +kernel
theorem dX7_climb_24 : decode cX7_climb 24 = .ok (.iload 4, 2) := by decide +kernel
theorem dX7_climb_26 : decode cX7_climb 26 = .ok (.ifCond .le 134, 3) := by decide +kernel
theorem dX7_climb_29 : decode cX7_climb 29 = .ok (.iload 6, 2) := by decide +kernel
theorem dX7_climb_31 : decode cX7_climb 31 = .ok (.ldc 231, 2) := by decide +kernel
theorem dX7_climb_33 : decode cX7_climb 33 = .ok (.if_icmp .ge 127, 3) := by decide +kernel
theorem dX7_climb_36 : decode cX7_climb 36 = .ok (.aload_n 0, 1) := by decide +kernel
theorem dX7_climb_37 : decode cX7_climb 37 = .ok (.getfield 44, 3) := by decide +kernel
theorem dX7_climb_40 : decode cX7_climb 40 = .ok (.iload 4, 2) := by decide +kernel
theorem dX7_climb_42 : decode cX7_climb 42 = .ok (.iconst 1, 1) := by decide +kernel
theorem dX7_climb_43 : decode cX7_climb 43 = .ok (.isub, 1) := by decide +kernel
theorem dX7_climb_44 : decode cX7_climb 44 = .ok (.iaload, 1) := by decide +kernel
theorem dX7_climb_45 : decode cX7_climb 45 = .ok (.istore 7, 2) := by decide +kernel
theorem dX7_climb_47 : decode cX7_climb 47 = .ok (.aload_n 2, 1) := by decide +kernel
theorem dX7_climb_48 : decode cX7_climb 48 = .ok (.iload 7, 2) := by decide +kernel
theorem dX7_climb_50 : decode cX7_climb 50 = .ok (.invokevirtual 183, 3) := by decide +kernel
theorem dX7_climb_53 : decode cX7_climb 53 = .ok (.astore 8, 2) := by decide +kernel
theorem dX7_climb_55 : decode cX7_climb 55 = .ok (.aload_n 0, 1) := by decide +kernel
theorem dX7_climb_56 : decode cX7_climb 56 = .ok (.aload 5, 2) := by decide +kernel
theorem dX7_climb_58 : decode cX7_climb 58 = .ok (.aload 8, 2) := by decide +kernel
theorem dX7_climb_60 : decode cX7_climb 60 = .ok (.invokevirtual 134, 3) := by decide +kernel
theorem dX7_climb_63 : decode cX7_climb 63 = .ok (.istore 9, 2) := by decide +kernel
theorem dX7_climb_65 : decode cX7_climb 65 = .ok (.aload_n 1, 1) := by decide +kernel
theorem dX7_climb_66 : decode cX7_climb 66 = .ok (.dup, 1) := by decide +kernel
theorem dX7_climb_67 : decode cX7_climb 67 = .ok (.getfield 167, 3) := by decide +kernel
theorem dX7_climb_70 : decode cX7_climb 70 = .ok (.iconst 1, 1) := by decide +kernel
theorem dX7_climb_71 : decode cX7_climb 71 = .ok (.iadd, 1) := by decide +kernel
theorem dX7_climb_72 : decode cX7_climb 72 = .ok (.putfield 167, 3) := by decide +kernel
theorem dX7_climb_75 : decode cX7_climb 75 = .ok (.iload 9, 2) := by decide +kernel
theorem dX7_climb_77 : decode cX7_climb 77 = .ok (.ifCond .ne 25, 3) := by decide +kernel
theorem dX7_climb_80 : decode cX7_climb 80 = .ok (.aload_n 1, 1) := by decide +kernel
theorem dX7_climb_81 : decode cX7_climb 81 = .ok (.aload 8, 2) := by decide +kernel
theorem dX7_climb_83 : decode cX7_climb 83 = .ok (.aload_n 0, 1) := by decide +kernel
theorem dX7_climb_84 : decode cX7_climb 84 = .ok (.getfield 28, 3) := by decide +kernel
theorem dX7_climb_87 : decode cX7_climb 87 = .ok (.iconst 3, 1) := by decide +kernel
theorem dX7_climb_88 : decode cX7_climb 88 = .ok (.iaload, 1) := by decide +kernel
theorem dX7_climb_89 : decode cX7_climb 89 = .ok (.invokevirtual 145, 3) := by decide +kernel
theorem dX7_climb_92 : decode cX7_climb 92 = .ok (.aload 8, 2) := by decide +kernel
theorem dX7_climb_94 : decode cX7_climb 94 = .ok (.astore 5, 2) := by decide +kernel
theorem dX7_climb_96 : decode cX7_climb 96 = .ok (.iinc 4 (-1), 3) := by decide +kernel
theorem dX7_climb_99 : decode cX7_climb 99 = .ok (.goto 55, 3) := by decide +kernel
theorem dX7_climb_102 : decode cX7_climb 102 = .ok (.iload 9, 2) := by decide +kernel
theorem dX7_climb_104 : decode cX7_climb 104 = .ok (.iconst 5, 1) := by decide +kernel
theorem dX7_climb_105 : decode cX7_climb 105 = .ok (.if_icmp .eq 10, 3) := by decide +kernel
theorem dX7_climb_108 : decode cX7_climb 108 = .ok (.iload 9, 2) := by decide +kernel
theorem dX7_climb_110 : decode cX7_climb 110 = .ok (.bipush 6, 2) := by decide +kernel
theorem dX7_climb_112 : decode cX7_climb 112 = .ok (.if_icmp .ne 33, 3) := by decide +kernel
theorem dX7_climb_115 : decode cX7_climb 115 = .ok (.iload 4, 2) := by decide +kernel
theorem dX7_climb_117 : decode cX7_climb 117 = .ok (.bipush 32, 2) := by decide +kernel
theorem dX7_climb_119 : decode cX7_climb 119 = .ok (.if_icmp .ge 26, 3) := by decide +kernel
theorem dX7_climb_122 : decode cX7_climb 122 = .ok (.aload_n 0, 1) := by decide +kernel
theorem dX7_climb_123 : decode cX7_climb 123 = .ok (.getfield 44, 3) := by decide +kernel
theorem dX7_climb_126 : decode cX7_climb 126 = .ok (.iload 4, 2) := by decide +kernel
theorem dX7_climb_128 : decode cX7_climb 128 = .ok (.aload 5, 2) := by decide +kernel
theorem dX7_climb_130 : decode cX7_climb 130 = .ok (.getfield 138, 3) := by decide +kernel
theorem dX7_climb_133 : decode cX7_climb 133 = .ok (.iload 7, 2) := by decide +kernel
theorem dX7_climb_135 : decode cX7_climb 135 = .ok (.iadd, 1) := by decide +kernel
theorem dX7_climb_136 : decode cX7_climb 136 = .ok (.iconst 2, 1) := by decide +kernel
theorem dX7_climb_137 : decode cX7_climb 137 = .ok (.idiv, 1) := by decide +kernel
theorem dX7_climb_138 : decode cX7_climb 138 = .ok (.iastore, 1) := by decide +kernel
theorem dX7_climb_139 : decode cX7_climb 139 = .ok (.iinc 4 1, 3) := by decide +kernel
theorem dX7_climb_142 : decode cX7_climb 142 = .ok (.goto 12, 3) := by decide +kernel
theorem dX7_climb_145 : decode cX7_climb 145 = .ok (.aload_n 1, 1) := by decide +kernel
theorem dX7_climb_146 : decode cX7_climb 146 = .ok (.iload 9, 2) := by decide +kernel
theorem dX7_climb_148 : decode cX7_climb 148 = .ok (.iload 7, 2) := by decide +kernel
theorem dX7_climb_150 : decode cX7_climb 150 = .ok (.invokevirtual 141, 3) := by decide +kernel
theorem dX7_climb_153 : decode cX7_climb 153 = .ok (.ireturn, 1) := by decide +kernel
theorem dX7_climb_154 : decode cX7_climb 154 = .ok (.iinc 6 1, 3) := by decide +kernel
theorem dX7_climb_157 : decode cX7_climb 157 = .ok (.goto (-138), 3) := by decide +kernel
theorem dX7_climb_160 : decode cX7_climb 160 = .ok (.iconst 1, 1) := by decide +kernel
theorem dX7_climb_161 : decode cX7_climb 161 = .ok (.ireturn, 1) := by decide +kernel
theorem dX7_isHeight_0 : decode cX7_isHeight 0 = .ok (.iload_n 0, 1) := by decide +kernel
theorem dX7_isHeight_1 : decode cX7_isHeight 1 = .ok (.ifCond .lt 14, 3) := by decide +kernel
theorem dX7_isHeight_4 : decode cX7_isHeight 4 = .ok (.iload_n 0, 1) := by decide +kernel
theorem dX7_isHeight_5 : decode cX7_isHeight 5 = .ok (.ldc_w 256, 3) := by decide +kernel
theorem dX7_isHeight_8 : decode cX7_isHeight 8 = .ok (.if_icmp .gt 7, 3) := by decide +kernel
theorem dX7_isHeight_11 : decode cX7_isHeight 11 = .ok (.iconst 1, 1) := by decide +kernel
theorem dX7_isHeight_12 : decode cX7_isHeight 12 = .ok (.goto 4, 3) := by decide +kernel
theorem dX7_isHeight_15 : decode cX7_isHeight 15 = .ok (.iconst 0, 1) := by decide +kernel
theorem dX7_isHeight_16 : decode cX7_isHeight 16 = .ok (.ireturn, 1) := by decide +kernel
theorem dX7_isLeaf_0 : decode cX7_isLeaf 0 = .ok (.iload_n 0, 1) := by decide +kernel
theorem dX7_isLeaf_1 : decode cX7_isLeaf 1 = .ok (.ifCond .lt 13, 3) := by decide +kernel
theorem dX7_isLeaf_4 : decode cX7_isLeaf 4 = .ok (.iload_n 0, 1) := by decide +kernel
theorem dX7_isLeaf_5 : decode cX7_isLeaf 5 = .ok (.bipush 8, 2) := by decide +kernel
theorem dX7_isLeaf_7 : decode cX7_isLeaf 7 = .ok (.if_icmp .ge 7, 3) := by decide +kernel
theorem dX7_isLeaf_10 : decode cX7_isLeaf 10 = .ok (.iconst 1, 1) := by decide +kernel
theorem dX7_isLeaf_11 : decode cX7_isLeaf 11 = .ok (.goto 4, 3) := by decide +kernel
theorem dX7_isLeaf_14 : decode cX7_isLeaf 14 = .ok (.iconst 0, 1) := by decide +kernel
theorem dX7_isLeaf_15 : decode cX7_isLeaf 15 = .ok (.ireturn, 1) := by decide +kernel
theorem dX7_arePieces_0 : decode cX7_arePieces 0 = .ok (.iload_n 0, 1) := by decide +kernel
theorem dX7_arePieces_1 : decode cX7_arePieces 1 = .ok (.iconst 1, 1) := by decide +kernel
theorem dX7_arePieces_2 : decode cX7_arePieces 2 = .ok (.if_icmp .lt 22, 3) := by decide +kernel
theorem dX7_arePieces_5 : decode cX7_arePieces 5 = .ok (.iload_n 0, 1) := by decide +kernel
theorem dX7_arePieces_6 : decode cX7_arePieces 6 = .ok (.bipush 60, 2) := by decide +kernel
theorem dX7_arePieces_8 : decode cX7_arePieces 8 = .ok (.if_icmp .gt 16, 3) := by decide +kernel
theorem dX7_arePieces_11 : decode cX7_arePieces 11 = .ok (.iload_n 1, 1) := by decide +kernel
theorem dX7_arePieces_12 : decode cX7_arePieces 12 = .ok (.ifCond .lt 12, 3) := by decide +kernel
theorem dX7_arePieces_15 : decode cX7_arePieces 15 = .ok (.iload_n 1, 1) := by decide +kernel
theorem dX7_arePieces_16 : decode cX7_arePieces 16 = .ok (.iload_n 0, 1) := by decide +kernel
theorem dX7_arePieces_17 : decode cX7_arePieces 17 = .ok (.if_icmp .gt 7, 3) := by decide +kernel
theorem dX7_arePieces_20 : decode cX7_arePieces 20 = .ok (.iconst 1, 1) := by decide +kernel
theorem dX7_arePieces_21 : decode cX7_arePieces 21 = .ok (.goto 4, 3) := by decide +kernel
theorem dX7_arePieces_24 : decode cX7_arePieces 24 = .ok (.iconst 0, 1) := by decide +kernel
theorem dX7_arePieces_25 : decode cX7_arePieces 25 = .ok (.ireturn, 1) := by decide +kernel
theorem dX7_isCertified_0 : decode cX7_isCertified 0 = .ok (.iconst 3, 1) := by decide +kernel
theorem dX7_isCertified_1 : decode cX7_isCertified 1 = .ok (.aload_n 0, 1) := by decide +kernel
theorem dX7_isCertified_2 : decode cX7_isCertified 2 = .ok (.getfield 248, 3) := by decide +kernel
theorem dX7_isCertified_5 : decode cX7_isCertified 5 = .ok (.aload_n 0, 1) := by decide +kernel
theorem dX7_isCertified_6 : decode cX7_isCertified 6 = .ok (.getfield 102, 3) := by decide +kernel
theorem dX7_isCertified_9 : decode cX7_isCertified 9 = .ok (.invokevirtual 232, 3) := by decide +kernel
theorem dX7_isCertified_12 : decode cX7_isCertified 12 = .ok (.imul, 1) := by decide +kernel
theorem dX7_isCertified_13 : decode cX7_isCertified 13 = .ok (.iconst 2, 1) := by decide +kernel
theorem dX7_isCertified_14 : decode cX7_isCertified 14 = .ok (.aload_n 0, 1) := by decide +kernel
theorem dX7_isCertified_15 : decode cX7_isCertified 15 = .ok (.getfield 248, 3) := by decide +kernel
theorem dX7_isCertified_18 : decode cX7_isCertified 18 = .ok (.getfield 236, 3) := by decide +kernel
theorem dX7_isCertified_21 : decode cX7_isCertified 21 = .ok (.imul, 1) := by decide +kernel
theorem dX7_isCertified_22 : decode cX7_isCertified 22 = .ok (.if_icmp .le 7, 3) := by decide +kernel
theorem dX7_isCertified_25 : decode cX7_isCertified 25 = .ok (.iconst 1, 1) := by decide +kernel
theorem dX7_isCertified_26 : decode cX7_isCertified 26 = .ok (.goto 4, 3) := by decide +kernel
theorem dX7_isCertified_29 : decode cX7_isCertified 29 = .ok (.iconst 0, 1) := by decide +kernel
theorem dX7_isCertified_30 : decode cX7_isCertified 30 = .ok (.ireturn, 1) := by decide +kernel
theorem dX7_weightIn_0 : decode cX7_weightIn 0 = .ok (.lload_n 0, 1) := by decide +kernel
theorem dX7_weightIn_1 : decode cX7_weightIn 1 = .ok (.bipush 7, 2) := by decide +kernel
theorem dX7_weightIn_3 : decode cX7_weightIn 3 = .ok (.iload_n 2, 1) := by decide +kernel
theorem dX7_weightIn_4 : decode cX7_weightIn 4 = .ok (.imul, 1) := by decide +kernel
theorem dX7_weightIn_5 : decode cX7_weightIn 5 = .ok (.lushr, 1) := by decide +kernel
theorem dX7_weightIn_6 : decode cX7_weightIn 6 = .ok (.l2i, 1) := by decide +kernel
theorem dX7_weightIn_7 : decode cX7_weightIn 7 = .ok (.bipush 127, 2) := by decide +kernel
theorem dX7_weightIn_9 : decode cX7_weightIn 9 = .ok (.iand, 1) := by decide +kernel
theorem dX7_weightIn_10 : decode cX7_weightIn 10 = .ok (.ireturn, 1) := by decide +kernel
theorem dX7_holdsWeights_0 : decode cX7_holdsWeights 0 = .ok (.iconst 0, 1) := by decide +kernel
theorem dX7_holdsWeights_1 : decode cX7_holdsWeights 1 = .ok (.istore_n 2, 1) := by decide +kernel
theorem dX7_holdsWeights_2 : decode cX7_holdsWeights 2 = .ok (.iload_n 2, 1) := by decide +kernel
theorem dX7_holdsWeights_3 : decode cX7_holdsWeights 3 = .ok (.iconst 5, 1) := by decide +kernel
theorem dX7_holdsWeights_4 : decode cX7_holdsWeights 4 = .ok (.if_icmp .ge 21, 3) := by decide +kernel
theorem dX7_holdsWeights_7 : decode cX7_holdsWeights 7 = .ok (.lload_n 0, 1) := by decide +kernel
theorem dX7_holdsWeights_8 : decode cX7_holdsWeights 8 = .ok (.iload_n 2, 1) := by decide +kernel
theorem dX7_holdsWeights_9 : decode cX7_holdsWeights 9 = .ok (.invokestatic 257, 3) := by decide +kernel
theorem dX7_holdsWeights_12 : decode cX7_holdsWeights 12 = .ok (.bipush 100, 2) := by decide +kernel
theorem dX7_holdsWeights_14 : decode cX7_holdsWeights 14 = .ok (.if_icmp .le 5, 3) := by decide +kernel
theorem dX7_holdsWeights_17 : decode cX7_holdsWeights 17 = .ok (.iconst 0, 1) := by decide +kernel
theorem dX7_holdsWeights_18 : decode cX7_holdsWeights 18 = .ok (.ireturn, 1) := by decide +kernel
theorem dX7_holdsWeights_19 : decode cX7_holdsWeights 19 = .ok (.iinc 2 1, 3) := by decide +kernel
theorem dX7_holdsWeights_22 : decode cX7_holdsWeights 22 = .ok (.goto (-20), 3) := by decide +kernel
theorem dX7_holdsWeights_25 : decode cX7_holdsWeights 25 = .ok (.lload_n 0, 1) := by decide +kernel
theorem dX7_holdsWeights_26 : decode cX7_holdsWeights 26 = .ok (.bipush 35, 2) := by decide +kernel
theorem dX7_holdsWeights_28 : decode cX7_holdsWeights 28 = .ok (.lushr, 1) := by decide +kernel
theorem dX7_holdsWeights_29 : decode cX7_holdsWeights 29 = .ok (.lconst 0, 1) := by decide +kernel
theorem dX7_holdsWeights_30 : decode cX7_holdsWeights 30 = .ok (.lcmp, 1) := by decide +kernel
theorem dX7_holdsWeights_31 : decode cX7_holdsWeights 31 = .ok (.ifCond .ne 7, 3) := by decide +kernel
theorem dX7_holdsWeights_34 : decode cX7_holdsWeights 34 = .ok (.iconst 1, 1) := by decide +kernel
theorem dX7_holdsWeights_35 : decode cX7_holdsWeights 35 = .ok (.goto 4, 3) := by decide +kernel
theorem dX7_holdsWeights_38 : decode cX7_holdsWeights 38 = .ok (.iconst 0, 1) := by decide +kernel
theorem dX7_holdsWeights_39 : decode cX7_holdsWeights 39 = .ok (.ireturn, 1) := by decide +kernel
theorem dX7_mix_0 : decode cX7_mix 0 = .ok (.lload_n 0, 1) := by decide +kernel
theorem dX7_mix_1 : decode cX7_mix 1 = .ok (.lload_n 0, 1) := by decide +kernel
theorem dX7_mix_2 : decode cX7_mix 2 = .ok (.bipush 30, 2) := by decide +kernel
theorem dX7_mix_4 : decode cX7_mix 4 = .ok (.lushr, 1) := by decide +kernel
theorem dX7_mix_5 : decode cX7_mix 5 = .ok (.lxor, 1) := by decide +kernel
theorem dX7_mix_6 : decode cX7_mix 6 = .ok (.ldc2_w 261, 3) := by decide +kernel
theorem dX7_mix_9 : decode cX7_mix 9 = .ok (.lmul, 1) := by decide +kernel
theorem dX7_mix_10 : decode cX7_mix 10 = .ok (.lstore_n 0, 1) := by decide +kernel
theorem dX7_mix_11 : decode cX7_mix 11 = .ok (.lload_n 0, 1) := by decide +kernel
theorem dX7_mix_12 : decode cX7_mix 12 = .ok (.lload_n 0, 1) := by decide +kernel
theorem dX7_mix_13 : decode cX7_mix 13 = .ok (.bipush 27, 2) := by decide +kernel
theorem dX7_mix_15 : decode cX7_mix 15 = .ok (.lushr, 1) := by decide +kernel
theorem dX7_mix_16 : decode cX7_mix 16 = .ok (.lxor, 1) := by decide +kernel
theorem dX7_mix_17 : decode cX7_mix 17 = .ok (.ldc2_w 263, 3) := by decide +kernel
theorem dX7_mix_20 : decode cX7_mix 20 = .ok (.lmul, 1) := by decide +kernel
theorem dX7_mix_21 : decode cX7_mix 21 = .ok (.lstore_n 0, 1) := by decide +kernel
theorem dX7_mix_22 : decode cX7_mix 22 = .ok (.lload_n 0, 1) := by decide +kernel
theorem dX7_mix_23 : decode cX7_mix 23 = .ok (.lload_n 0, 1) := by decide +kernel
theorem dX7_mix_24 : decode cX7_mix 24 = .ok (.bipush 31, 2) := by decide +kernel
theorem dX7_mix_26 : decode cX7_mix 26 = .ok (.lushr, 1) := by decide +kernel
theorem dX7_mix_27 : decode cX7_mix 27 = .ok (.lxor, 1) := by decide +kernel
theorem dX7_mix_28 : decode cX7_mix 28 = .ok (.lreturn, 1) := by decide +kernel
theorem dX7_pair_0 : decode cX7_pair 0 = .ok (.lload_n 0, 1) := by decide +kernel
theorem dX7_pair_1 : decode cX7_pair 1 = .ok (.invokestatic 265, 3) := by decide +kernel
theorem dX7_pair_4 : decode cX7_pair 4 = .ok (.ldc2_w 268, 3) := by decide +kernel
theorem dX7_pair_7 : decode cX7_pair 7 = .ok (.lload_n 2, 1) := by decide +kernel
theorem dX7_pair_8 : decode cX7_pair 8 = .ok (.invokestatic 265, 3) := by decide +kernel
theorem dX7_pair_11 : decode cX7_pair 11 = .ok (.lmul, 1) := by decide +kernel
theorem dX7_pair_12 : decode cX7_pair 12 = .ok (.ladd, 1) := by decide +kernel
theorem dX7_pair_13 : decode cX7_pair 13 = .ok (.ldc2_w 270, 3) := by decide +kernel
theorem dX7_pair_16 : decode cX7_pair 16 = .ok (.ladd, 1) := by decide +kernel
theorem dX7_pair_17 : decode cX7_pair 17 = .ok (.invokestatic 265, 3) := by decide +kernel
theorem dX7_pair_20 : decode cX7_pair 20 = .ok (.lreturn, 1) := by decide +kernel
theorem dX7_choose_0 : decode cX7_choose 0 = .ok (.iload_n 1, 1) := by decide +kernel
theorem dX7_choose_1 : decode cX7_choose 1 = .ok (.iload_n 0, 1) := by decide +kernel
theorem dX7_choose_2 : decode cX7_choose 2 = .ok (.if_icmp .le 5, 3) := by decide +kernel
theorem dX7_choose_5 : decode cX7_choose 5 = .ok (.lconst 0, 1) := by decide +kernel
theorem dX7_choose_6 : decode cX7_choose 6 = .ok (.lreturn, 1) := by decide +kernel
theorem dX7_choose_7 : decode cX7_choose 7 = .ok (.lconst 1, 1) := by decide +kernel
theorem dX7_choose_8 : decode cX7_choose 8 = .ok (.lstore_n 2, 1) := by decide +kernel
theorem dX7_choose_9 : decode cX7_choose 9 = .ok (.iconst 0, 1) := by decide +kernel
theorem dX7_choose_10 : decode cX7_choose 10 = .ok (.istore 4, 2) := by decide +kernel
theorem dX7_choose_12 : decode cX7_choose 12 = .ok (.iload 4, 2) := by decide +kernel
theorem dX7_choose_14 : decode cX7_choose 14 = .ok (.iload_n 1, 1) := by decide +kernel
theorem dX7_choose_15 : decode cX7_choose 15 = .ok (.if_icmp .ge 23, 3) := by decide +kernel
theorem dX7_choose_18 : decode cX7_choose 18 = .ok (.lload_n 2, 1) := by decide +kernel
theorem dX7_choose_19 : decode cX7_choose 19 = .ok (.iload_n 0, 1) := by decide +kernel
theorem dX7_choose_20 : decode cX7_choose 20 = .ok (.iload 4, 2) := by decide +kernel
theorem dX7_choose_22 : decode cX7_choose 22 = .ok (.isub, 1) := by decide +kernel
theorem dX7_choose_23 : decode cX7_choose 23 = .ok (.i2l, 1) := by decide +kernel
theorem dX7_choose_24 : decode cX7_choose 24 = .ok (.lmul, 1) := by decide +kernel
theorem dX7_choose_25 : decode cX7_choose 25 = .ok (.iload 4, 2) := by decide +kernel
theorem dX7_choose_27 : decode cX7_choose 27 = .ok (.iconst 1, 1) := by decide +kernel
theorem dX7_choose_28 : decode cX7_choose 28 = .ok (.iadd, 1) := by decide +kernel
theorem dX7_choose_29 : decode cX7_choose 29 = .ok (.i2l, 1) := by decide +kernel
theorem dX7_choose_30 : decode cX7_choose 30 = .ok (.ldiv, 1) := by decide +kernel
theorem dX7_choose_31 : decode cX7_choose 31 = .ok (.lstore_n 2, 1) := by decide +kernel
theorem dX7_choose_32 : decode cX7_choose 32 = .ok (.iinc 4 1, 3) := by decide +kernel
theorem dX7_choose_35 : decode cX7_choose 35 = .ok (.goto (-23), 3) := by decide +kernel
theorem dX7_choose_38 : decode cX7_choose 38 = .ok (.lload_n 2, 1) := by decide +kernel
theorem dX7_choose_39 : decode cX7_choose 39 = .ok (.lreturn, 1) := by decide +kernel
theorem dX7_commonDivisor_0 : decode cX7_commonDivisor 0 = .ok (.iconst 0, 1) := by decide +kernel
theorem dX7_commonDivisor_1 : decode cX7_commonDivisor 1 = .ok (.istore 4, 2) := by decide +kernel
theorem dX7_commonDivisor_3 : decode cX7_commonDivisor 3 = .ok (.iload 4, 2) := by decide +kernel
theorem dX7_commonDivisor_5 : decode cX7_commonDivisor 5 = .ok (.sipush 200, 3) := by decide +kernel
theorem dX7_commonDivisor_8 : decode cX7_commonDivisor 8 = .ok (.if_icmp .ge 25, 3) := by decide +kernel
theorem dX7_commonDivisor_11 : decode cX7_commonDivisor 11 = .ok (.lload_n 2, 1) := by decide +kernel
theorem dX7_commonDivisor_12 : decode cX7_commonDivisor 12 = .ok (.lconst 0, 1) := by decide +kernel
theorem dX7_commonDivisor_13 : decode cX7_commonDivisor 13 = .ok (.lcmp, 1) := by decide +kernel
theorem dX7_commonDivisor_14 : decode cX7_commonDivisor 14 = .ok (.ifCond .eq 19, 3) := by decide +kernel
theorem dX7_commonDivisor_17 : decode cX7_commonDivisor 17 = .ok (.lload_n 0, 1) := by decide +kernel
theorem dX7_commonDivisor_18 : decode cX7_commonDivisor 18 = .ok (.lload_n 2, 1) := by decide +kernel
theorem dX7_commonDivisor_19 : decode cX7_commonDivisor 19 = .ok (.lrem, 1) := by decide +kernel
theorem dX7_commonDivisor_20 : decode cX7_commonDivisor 20 = .ok (.lstore 5, 2) := by decide +kernel
theorem dX7_commonDivisor_22 : decode cX7_commonDivisor 22 = .ok (.lload_n 2, 1) := by decide +kernel
theorem dX7_commonDivisor_23 : decode cX7_commonDivisor 23 = .ok (.lstore_n 0, 1) := by decide +kernel
theorem dX7_commonDivisor_24 : decode cX7_commonDivisor 24 = .ok (.lload 5, 2) := by decide +kernel
theorem dX7_commonDivisor_26 : decode cX7_commonDivisor 26 = .ok (.lstore_n 2, 1) := by decide +kernel
theorem dX7_commonDivisor_27 : decode cX7_commonDivisor 27 = .ok (.iinc 4 1, 3) := by decide +kernel
theorem dX7_commonDivisor_30 : decode cX7_commonDivisor 30 = .ok (.goto (-27), 3) := by decide +kernel
theorem dX7_commonDivisor_33 : decode cX7_commonDivisor 33 = .ok (.lconst 1, 1) := by decide +kernel
theorem dX7_commonDivisor_34 : decode cX7_commonDivisor 34 = .ok (.lload_n 0, 1) := by decide +kernel
theorem dX7_commonDivisor_35 : decode cX7_commonDivisor 35 = .ok (.invokestatic 272, 3) := by decide +kernel
theorem dX7_commonDivisor_38 : decode cX7_commonDivisor 38 = .ok (.lreturn, 1) := by decide +kernel
