theorem dX8_against_118 : decode cX8_against 118 = .ok (.goto 5, 3) := by decide +kernel
theorem dX8_against_121 : decode cX8_against 121 = .ok (.bipush 6, 2) := by decide +kernel
theorem dX8_against_123 : decode cX8_against 123 = .ok (.ireturn, 1) := by decide +kernel
theorem dX8_trustedOf_0 : decode cX8_trustedOf 0 = .ok (.aload_n 0, 1) := by decide +kernel
theorem dX8_trustedOf_1 : decode cX8_trustedOf 1 = .ok (.getfield 38, 3) := by decide +kernel
theorem dX8_trustedOf_4 : decode cX8_trustedOf 4 = .ok (.bipush 11, 2) := by decide +kernel
theorem dX8_trustedOf_6 : decode cX8_trustedOf 6 = .ok (.iload_n 1, 1) := by decide +kernel
theorem dX8_trustedOf_7 : decode cX8_trustedOf 7 = .ok (.imul, 1) := by decide +kernel
theorem dX8_trustedOf_8 : decode cX8_trustedOf 8 = .ok (.aload_n 0, 1) := by decide +kernel
theorem dX8_trustedOf_9 : decode cX8_trustedOf 9 = .ok (.getfield 35, 3) := by decide +kernel
theorem dX8_trustedOf_12 : decode cX8_trustedOf 12 = .ok (.iload_n 1, 1) := by decide +kernel
theorem dX8_trustedOf_13 : decode cX8_trustedOf 13 = .ok (.iaload, 1) := by decide +kernel
theorem dX8_trustedOf_14 : decode cX8_trustedOf 14 = .ok (.iadd, 1) := by decide +kernel
theorem dX8_trustedOf_15 : decode cX8_trustedOf 15 = .ok (.iconst 1, 1) := by decide +kernel
theorem dX8_trustedOf_16 : decode cX8_trustedOf 16 = .ok (.isub, 1) := by decide +kernel
theorem dX8_trustedOf_17 : decode cX8_trustedOf 17 = .ok (.iaload, 1) := by decide +kernel
theorem dX8_trustedOf_18 : decode cX8_trustedOf 18 = .ok (.ireturn, 1) := by decide +kernel
theorem dX8_attempt_0 : decode cX8_attempt 0 = .ok (.aload_n 0, 1) := by decide +kernel
theorem dX8_attempt_1 : decode cX8_attempt 1 = .ok (.aload_n 0, 1) := by decide +kernel
theorem dX8_attempt_2 : decode cX8_attempt 2 = .ok (.iload_n 1, 1) := by decide +kernel
theorem dX8_attempt_3 : decode cX8_attempt 3 = .ok (.invokevirtual 149, 3) := by decide +kernel
theorem dX8_attempt_6 : decode cX8_attempt 6 = .ok (.iload_n 2, 1) := by decide +kernel
theorem dX8_attempt_7 : decode cX8_attempt 7 = .ok (.invokevirtual 153, 3) := by decide +kernel
theorem dX8_attempt_10 : decode cX8_attempt 10 = .ok (.istore_n 3, 1) := by decide +kernel
theorem dX8_attempt_11 : decode cX8_attempt 11 = .ok (.iload_n 3, 1) := by decide +kernel
theorem dX8_attempt_12 : decode cX8_attempt 12 = .ok (.ifCond .ne 120, 3) := by decide +kernel
theorem dX8_attempt_15 : decode cX8_attempt 15 = .ok (.aload_n 0, 1) := by decide +kernel
theorem dX8_attempt_16 : decode cX8_attempt 16 = .ok (.getfield 38, 3) := by decide +kernel
theorem dX8_attempt_19 : decode cX8_attempt 19 = .ok (.bipush 11, 2) := by decide +kernel
theorem dX8_attempt_21 : decode cX8_attempt 21 = .ok (.iload_n 1, 1) := by decide +kernel
theorem dX8_attempt_22 : decode cX8_attempt 22 = .ok (.imul, 1) := by decide +kernel
theorem dX8_attempt_23 : decode cX8_attempt 23 = .ok (.aload_n 0, 1) := by decide +kernel
theorem dX8_attempt_24 : decode cX8_attempt 24 = .ok (.getfield 35, 3) := by decide +kernel
theorem dX8_attempt_27 : decode cX8_attempt 27 = .ok (.iload_n 1, 1) := by decide +kernel
theorem dX8_attempt_28 : decode cX8_attempt 28 = .ok (.iaload, 1) := by decide +kernel
theorem dX8_attempt_29 : decode cX8_attempt 29 = .ok (.iadd, 1) := by decide +kernel
theorem dX8_attempt_30 : decode cX8_attempt 30 = .ok (.iload_n 2, 1) := by decide +kernel
theorem dX8_attempt_31 : decode cX8_attempt 31 = .ok (.iastore, 1) := by decide +kernel
theorem dX8_attempt_32 : decode cX8_attempt 32 = .ok (.aload_n 0, 1) := by decide +kernel
theorem dX8_attempt_33 : decode cX8_attempt 33 = .ok (.getfield 35, 3) := by decide +kernel
theorem dX8_attempt_36 : decode cX8_attempt 36 = .ok (.iload_n 1, 1) := by decide +kernel
theorem dX8_attempt_37 : decode cX8_attempt 37 = .ok (.dup2, 1) := by decide +kernel
theorem dX8_attempt_38 : decode cX8_attempt 38 = .ok (.iaload, 1) := by decide +kernel
theorem dX8_attempt_39 : decode cX8_attempt 39 = .ok (.iconst 1, 1) := by decide +kernel
theorem dX8_attempt_40 : decode cX8_attempt 40 = .ok (.iadd, 1) := by decide +kernel
theorem dX8_attempt_41 : decode cX8_attempt 41 = .ok (.iastore, 1) := by decide +kernel
theorem dX8_attempt_42 : decode cX8_attempt 42 = .ok (.aload_n 0, 1) := by decide +kernel
theorem dX8_attempt_43 : decode cX8_attempt 43 = .ok (.getfield 35, 3) := by decide +kernel
theorem dX8_attempt_46 : decode cX8_attempt 46 = .ok (.iload_n 1, 1) := by decide +kernel
theorem dX8_attempt_47 : decode cX8_attempt 47 = .ok (.iaload, 1) := by decide +kernel
theorem dX8_attempt_48 : decode cX8_attempt 48 = .ok (.aload_n 0, 1) := by decide +kernel
theorem dX8_attempt_49 : decode cX8_attempt 49 = .ok (.getfield 32, 3) := by decide +kernel
theorem dX8_attempt_52 : decode cX8_attempt 52 = .ok (.iconst 3, 1) := by decide +kernel
theorem dX8_attempt_53 : decode cX8_attempt 53 = .ok (.iaload, 1) := by decide +kernel
theorem dX8_attempt_54 : decode cX8_attempt 54 = .ok (.isub, 1) := by decide +kernel
theorem dX8_attempt_55 : decode cX8_attempt 55 = .ok (.istore 4, 2) := by decide +kernel
theorem dX8_attempt_57 : decode cX8_attempt 57 = .ok (.iconst 1, 1) := by decide +kernel
theorem dX8_attempt_58 : decode cX8_attempt 58 = .ok (.istore 5, 2) := by decide +kernel
theorem dX8_attempt_60 : decode cX8_attempt 60 = .ok (.iload 4, 2) := by decide +kernel
theorem dX8_attempt_62 : decode cX8_attempt 62 = .ok (.ifCond .le 50, 3) := by decide +kernel
theorem dX8_attempt_65 : decode cX8_attempt 65 = .ok (.iload 5, 2) := by decide +kernel
theorem dX8_attempt_67 : decode cX8_attempt 67 = .ok (.iload 4, 2) := by decide +kernel
theorem dX8_attempt_69 : decode cX8_attempt 69 = .ok (.iadd, 1) := by decide +kernel
theorem dX8_attempt_70 : decode cX8_attempt 70 = .ok (.aload_n 0, 1) := by decide +kernel
theorem dX8_attempt_71 : decode cX8_attempt 71 = .ok (.getfield 35, 3) := by decide +kernel
theorem dX8_attempt_74 : decode cX8_attempt 74 = .ok (.iload_n 1, 1) := by decide +kernel
theorem dX8_attempt_75 : decode cX8_attempt 75 = .ok (.iaload, 1) := by decide +kernel
theorem dX8_attempt_76 : decode cX8_attempt 76 = .ok (.if_icmp .ge 36, 3) := by decide +kernel
theorem dX8_attempt_79 : decode cX8_attempt 79 = .ok (.aload_n 0, 1) := by decide +kernel
theorem dX8_attempt_80 : decode cX8_attempt 80 = .ok (.getfield 38, 3) := by decide +kernel
theorem dX8_attempt_83 : decode cX8_attempt 83 = .ok (.bipush 11, 2) := by decide +kernel
theorem dX8_attempt_85 : decode cX8_attempt 85 = .ok (.iload_n 1, 1) := by decide +kernel
theorem dX8_attempt_86 : decode cX8_attempt 86 = .ok (.imul, 1) := by decide +kernel
theorem dX8_attempt_87 : decode cX8_attempt 87 = .ok (.iload 5, 2) := by decide +kernel
theorem dX8_attempt_89 : decode cX8_attempt 89 = .ok (.iadd, 1) := by decide +kernel
theorem dX8_attempt_90 : decode cX8_attempt 90 = .ok (.aload_n 0, 1) := by decide +kernel
theorem dX8_attempt_91 : decode cX8_attempt 91 = .ok (.getfield 38, 3) := by decide +kernel
theorem dX8_attempt_94 : decode cX8_attempt 94 = .ok (.bipush 11, 2) := by decide +kernel
theorem dX8_attempt_96 : decode cX8_attempt 96 = .ok (.iload_n 1, 1) := by decide +kernel
theorem dX8_attempt_97 : decode cX8_attempt 97 = .ok (.imul, 1) := by decide +kernel
theorem dX8_attempt_98 : decode cX8_attempt 98 = .ok (.iload 5, 2) := by decide +kernel
theorem dX8_attempt_100 : decode cX8_attempt 100 = .ok (.iadd, 1) := by decide +kernel
theorem dX8_attempt_101 : decode cX8_attempt 101 = .ok (.iload 4, 2) := by decide +kernel
theorem dX8_attempt_103 : decode cX8_attempt 103 = .ok (.iadd, 1) := by decide +kernel
theorem dX8_attempt_104 : decode cX8_attempt 104 = .ok (.iaload, 1) := by decide +kernel
theorem dX8_attempt_105 : decode cX8_attempt 105 = .ok (.iastore, 1) := by decide +kernel
theorem dX8_attempt_106 : decode cX8_attempt 106 = .ok (.iinc 5 1, 3) := by decide +kernel
theorem dX8_attempt_109 : decode cX8_attempt 109 = .ok (.goto (-49), 3) := by decide +kernel
theorem dX8_attempt_112 : decode cX8_attempt 112 = .ok (.aload_n 0, 1) := by decide +kernel
theorem dX8_attempt_113 : decode cX8_attempt 113 = .ok (.getfield 35, 3) := by decide +kernel
theorem dX8_attempt_116 : decode cX8_attempt 116 = .ok (.iload_n 1, 1) := by decide +kernel
theorem dX8_attempt_117 : decode cX8_attempt 117 = .ok (.dup2, 1) := by decide +kernel
theorem dX8_attempt_118 : decode cX8_attempt 118 = .ok (.iaload, 1) := by decide +kernel
theorem dX8_attempt_119 : decode cX8_attempt 119 = .ok (.iload 4, 2) := by decide +kernel
theorem dX8_attempt_121 : decode cX8_attempt 121 = .ok (.ifCond .le 8, 3) := by decide +kernel
theorem dX8_attempt_124 : decode cX8_attempt 124 = .ok (.iload 4, 2) := by decide +kernel
theorem dX8_attempt_126 : decode cX8_attempt 126 = .ok (.goto 4, 3) := by decide +kernel
theorem dX8_attempt_129 : decode cX8_attempt 129 = .ok (.iconst 0, 1) := by decide +kernel
theorem dX8_attempt_130 : decode cX8_attempt 130 = .ok (.isub, 1) := by decide +kernel
theorem dX8_attempt_131 : decode cX8_attempt 131 = .ok (.iastore, 1) := by decide +kernel
theorem dX8_attempt_132 : decode cX8_attempt 132 = .ok (.iload_n 3, 1) := by decide +kernel
theorem dX8_attempt_133 : decode cX8_attempt 133 = .ok (.ireturn, 1) := by decide +kernel
theorem dX8_refuse_0 : decode cX8_refuse 0 = .ok (.aload_n 0, 1) := by decide +kernel
theorem dX8_refuse_1 : decode cX8_refuse 1 = .ok (.getfield 44, 3) := by decide +kernel
theorem dX8_refuse_4 : decode cX8_refuse 4 = .ok (.iload_n 1, 1) := by decide +kernel
theorem dX8_refuse_5 : decode cX8_refuse 5 = .ok (.iload_n 2, 1) := by decide +kernel
theorem dX8_refuse_6 : decode cX8_refuse 6 = .ok (.iastore, 1) := by decide +kernel
theorem dX8_refuse_7 : decode cX8_refuse 7 = .ok (.aload_n 0, 1) := by decide +kernel
theorem dX8_refuse_8 : decode cX8_refuse 8 = .ok (.getfield 47, 3) := by decide +kernel
theorem dX8_refuse_11 : decode cX8_refuse 11 = .ok (.iload_n 1, 1) := by decide +kernel
theorem dX8_refuse_12 : decode cX8_refuse 12 = .ok (.iload_n 3, 1) := by decide +kernel
theorem dX8_refuse_13 : decode cX8_refuse 13 = .ok (.iastore, 1) := by decide +kernel
theorem dX8_refuse_14 : decode cX8_refuse 14 = .ok (.bipush (-10), 2) := by decide +kernel
theorem dX8_refuse_16 : decode cX8_refuse 16 = .ok (.iload_n 2, 1) := by decide +kernel
theorem dX8_refuse_17 : decode cX8_refuse 17 = .ok (.isub, 1) := by decide +kernel
theorem dX8_refuse_18 : decode cX8_refuse 18 = .ok (.ireturn, 1) := by decide +kernel
theorem dX8_follow_0 : decode cX8_follow 0 = .ok (.iload_n 1, 1) := by decide +kernel
theorem dX8_follow_1 : decode cX8_follow 1 = .ok (.invokestatic 146, 3) := by decide +kernel
theorem dX8_follow_4 : decode cX8_follow 4 = .ok (.ifCond .eq 11, 3) := by decide +kernel
theorem dX8_follow_7 : decode cX8_follow 7 = .ok (.aload_n 0, 1) := by decide +kernel
theorem dX8_follow_8 : decode cX8_follow 8 = .ok (.iload_n 2, 1) := by decide +kernel
theorem dX8_follow_9 : decode cX8_follow 9 = .ok (.invokevirtual 117, 3) := by decide +kernel
theorem dX8_follow_12 : decode cX8_follow 12 = .ok (.ifCond .ne 5, 3) := by decide +kernel
theorem dX8_follow_15 : decode cX8_follow 15 = .ok (.iconst (-1), 1) := by decide +kernel
theorem dX8_follow_16 : decode cX8_follow 16 = .ok (.ireturn, 1) := by decide +kernel
theorem dX8_follow_17 : decode cX8_follow 17 = .ok (.aload_n 0, 1) := by decide +kernel
theorem dX8_follow_18 : decode cX8_follow 18 = .ok (.getfield 35, 3) := by decide +kernel
theorem dX8_follow_21 : decode cX8_follow 21 = .ok (.iload_n 1, 1) := by decide +kernel
theorem dX8_follow_22 : decode cX8_follow 22 = .ok (.iaload, 1) := by decide +kernel
theorem dX8_follow_23 : decode cX8_follow 23 = .ok (.ifCond .ne 6, 3) := by decide +kernel
theorem dX8_follow_26 : decode cX8_follow 26 = .ok (.bipush (-2), 2) := by decide +kernel
theorem dX8_follow_28 : decode cX8_follow 28 = .ok (.ireturn, 1) := by decide +kernel
theorem dX8_follow_29 : decode cX8_follow 29 = .ok (.aload_n 0, 1) := by decide +kernel
theorem dX8_follow_30 : decode cX8_follow 30 = .ok (.iload_n 1, 1) := by decide +kernel
theorem dX8_follow_31 : decode cX8_follow 31 = .ok (.iload_n 2, 1) := by decide +kernel
theorem dX8_follow_32 : decode cX8_follow 32 = .ok (.invokevirtual 156, 3) := by decide +kernel
theorem dX8_follow_35 : decode cX8_follow 35 = .ok (.istore_n 3, 1) := by decide +kernel
theorem dX8_follow_36 : decode cX8_follow 36 = .ok (.iload_n 3, 1) := by decide +kernel
theorem dX8_follow_37 : decode cX8_follow 37 = .ok (.ifCond .ne 7, 3) := by decide +kernel
theorem dX8_follow_40 : decode cX8_follow 40 = .ok (.iconst 1, 1) := by decide +kernel
theorem dX8_follow_41 : decode cX8_follow 41 = .ok (.goto 15, 3) := by decide +kernel
theorem dX8_follow_44 : decode cX8_follow 44 = .ok (.aload_n 0, 1) := by decide +kernel
theorem dX8_follow_45 : decode cX8_follow 45 = .ok (.iload_n 1, 1) := by decide +kernel
theorem dX8_follow_46 : decode cX8_follow 46 = .ok (.iload_n 3, 1) := by decide +kernel
theorem dX8_follow_47 : decode cX8_follow 47 = .ok (.aload_n 0, 1) := by decide +kernel
theorem dX8_follow_48 : decode cX8_follow 48 = .ok (.getfield 13, 3) := by decide +kernel
theorem dX8_follow_51 : decode cX8_follow 51 = .ok (.iload_n 2, 1) := by decide +kernel
theorem dX8_follow_52 : decode cX8_follow 52 = .ok (.iaload, 1) := by decide +kernel
theorem dX8_follow_53 : decode cX8_follow 53 = .ok (.invokevirtual 159, 3) := by decide +kernel
theorem dX8_follow_56 : decode cX8_follow 56 = .ok (.ireturn, 1) := by decide +kernel
theorem dX8_placeOf_0 : decode cX8_placeOf 0 = .ok (.bipush 60, 2) := by decide +kernel
theorem dX8_placeOf_2 : decode cX8_placeOf 2 = .ok (.iload_n 1, 1) := by decide +kernel
theorem dX8_placeOf_3 : decode cX8_placeOf 3 = .ok (.imul, 1) := by decide +kernel
theorem dX8_placeOf_4 : decode cX8_placeOf 4 = .ok (.istore_n 3, 1) := by decide +kernel
theorem dX8_placeOf_5 : decode cX8_placeOf 5 = .ok (.iload_n 3, 1) := by decide +kernel
theorem dX8_placeOf_6 : decode cX8_placeOf 6 = .ok (.bipush 60, 2) := by decide +kernel
theorem dX8_placeOf_8 : decode cX8_placeOf 8 = .ok (.iload_n 1, 1) := by decide +kernel
theorem dX8_placeOf_9 : decode cX8_placeOf 9 = .ok (.imul, 1) := by decide +kernel
theorem dX8_placeOf_10 : decode cX8_placeOf 10 = .ok (.aload_n 0, 1) := by decide +kernel
theorem dX8_placeOf_11 : decode cX8_placeOf 11 = .ok (.getfield 50, 3) := by decide +kernel
theorem dX8_placeOf_14 : decode cX8_placeOf 14 = .ok (.iload_n 1, 1) := by decide +kernel
theorem dX8_placeOf_15 : decode cX8_placeOf 15 = .ok (.iaload, 1) := by decide +kernel
theorem dX8_placeOf_16 : decode cX8_placeOf 16 = .ok (.iadd, 1) := by decide +kernel
theorem dX8_placeOf_17 : decode cX8_placeOf 17 = .ok (.if_icmp .ge 26, 3) := by decide +kernel
theorem dX8_placeOf_20 : decode cX8_placeOf 20 = .ok (.aload_n 0, 1) := by decide +kernel
theorem dX8_placeOf_21 : decode cX8_placeOf 21 = .ok (.getfield 13, 3) := by decide +kernel
theorem dX8_placeOf_24 : decode cX8_placeOf 24 = .ok (.aload_n 0, 1) := by decide +kernel
theorem dX8_placeOf_25 : decode cX8_placeOf 25 = .ok (.getfield 53, 3) := by decide +kernel
theorem dX8_placeOf_28 : decode cX8_placeOf 28 = .ok (.iload_n 3, 1) := by decide +kernel
theorem dX8_placeOf_29 : decode cX8_placeOf 29 = .ok (.iaload, 1) := by decide +kernel
theorem dX8_placeOf_30 : decode cX8_placeOf 30 = .ok (.iaload, 1) := by decide +kernel
theorem dX8_placeOf_31 : decode cX8_placeOf 31 = .ok (.iload_n 2, 1) := by decide +kernel
theorem dX8_placeOf_32 : decode cX8_placeOf 32 = .ok (.if_icmp .ne 5, 3) := by decide +kernel
theorem dX8_placeOf_35 : decode cX8_placeOf 35 = .ok (.iload_n 3, 1) := by decide +kernel
theorem dX8_placeOf_36 : decode cX8_placeOf 36 = .ok (.ireturn, 1) := by decide +kernel
theorem dX8_placeOf_37 : decode cX8_placeOf 37 = .ok (.iinc 3 1, 3) := by decide +kernel
theorem dX8_placeOf_40 : decode cX8_placeOf 40 = .ok (.goto (-35), 3) := by decide +kernel
theorem dX8_placeOf_43 : decode cX8_placeOf 43 = .ok (.bipush (-2), 2) := by decide +kernel
theorem dX8_placeOf_45 : decode cX8_placeOf 45 = .ok (.ireturn, 1) := by decide +kernel
theorem dX8_headAt_0 : decode cX8_headAt 0 = .ok (.aload_n 0, 1) := by decide +kernel
theorem dX8_headAt_1 : decode cX8_headAt 1 = .ok (.iload_n 1, 1) := by decide +kernel
theorem dX8_headAt_2 : decode cX8_headAt 2 = .ok (.iload_n 2, 1) := by decide +kernel
theorem dX8_headAt_3 : decode cX8_headAt 3 = .ok (.invokevirtual 163, 3) := by decide +kernel
theorem dX8_headAt_6 : decode cX8_headAt 6 = .ok (.istore_n 3, 1) := by decide +kernel
theorem dX8_headAt_7 : decode cX8_headAt 7 = .ok (.iload_n 3, 1) := by decide +kernel
theorem dX8_headAt_8 : decode cX8_headAt 8 = .ok (.ifCond .ge 8, 3) := by decide +kernel
theorem dX8_headAt_11 : decode cX8_headAt 11 = .ok (.bipush (-2), 2) := by decide +kernel
theorem dX8_headAt_13 : decode cX8_headAt 13 = .ok (.goto 9, 3) := by decide +kernel
theorem dX8_headAt_16 : decode cX8_headAt 16 = .ok (.aload_n 0, 1) := by decide +kernel
theorem dX8_headAt_17 : decode cX8_headAt 17 = .ok (.getfield 53, 3) := by decide +kernel
theorem dX8_headAt_20 : decode cX8_headAt 20 = .ok (.iload_n 3, 1) := by decide +kernel
theorem dX8_headAt_21 : decode cX8_headAt 21 = .ok (.iaload, 1) := by decide +kernel
theorem dX8_headAt_22 : decode cX8_headAt 22 = .ok (.ireturn, 1) := by decide +kernel
theorem dX8_give_0 : decode cX8_give 0 = .ok (.iload_n 1, 1) := by decide +kernel
theorem dX8_give_1 : decode cX8_give 1 = .ok (.invokestatic 146, 3) := by decide +kernel
theorem dX8_give_4 : decode cX8_give 4 = .ok (.ifCond .eq 11, 3) := by decide +kernel
theorem dX8_give_7 : decode cX8_give 7 = .ok (.aload_n 0, 1) := by decide +kernel
theorem dX8_give_8 : decode cX8_give 8 = .ok (.iload_n 2, 1) := by decide +kernel
theorem dX8_give_9 : decode cX8_give 9 = .ok (.invokevirtual 117, 3) := by decide +kernel
theorem dX8_give_12 : decode cX8_give 12 = .ok (.ifCond .ne 5, 3) := by decide +kernel
theorem dX8_give_15 : decode cX8_give 15 = .ok (.iconst (-1), 1) := by decide +kernel
theorem dX8_give_16 : decode cX8_give 16 = .ok (.ireturn, 1) := by decide +kernel
theorem dX8_give_17 : decode cX8_give 17 = .ok (.aload_n 0, 1) := by decide +kernel
theorem dX8_give_18 : decode cX8_give 18 = .ok (.iload_n 1, 1) := by decide +kernel
theorem dX8_give_19 : decode cX8_give 19 = .ok (.aload_n 0, 1) := by decide +kernel
theorem dX8_give_20 : decode cX8_give 20 = .ok (.getfield 13, 3) := by decide +kernel
theorem dX8_give_23 : decode cX8_give 23 = .ok (.iload_n 2, 1) := by decide +kernel
theorem dX8_give_24 : decode cX8_give 24 = .ok (.iaload, 1) := by decide +kernel
theorem dX8_give_25 : decode cX8_give 25 = .ok (.invokevirtual 163, 3) := by decide +kernel
theorem dX8_give_28 : decode cX8_give 28 = .ok (.istore_n 3, 1) := by decide +kernel
theorem dX8_give_29 : decode cX8_give 29 = .ok (.iload_n 3, 1) := by decide +kernel
theorem dX8_give_30 : decode cX8_give 30 = .ok (.ifCond .lt 21, 3) := by decide +kernel
theorem dX8_give_33 : decode cX8_give 33 = .ok (.aload_n 0, 1) := by decide +kernel
theorem dX8_give_34 : decode cX8_give 34 = .ok (.getfield 53, 3) := by decide +kernel
theorem dX8_give_37 : decode cX8_give 37 = .ok (.iload_n 3, 1) := by decide +kernel
theorem dX8_give_38 : decode cX8_give 38 = .ok (.iaload, 1) := by decide +kernel
theorem dX8_give_39 : decode cX8_give 39 = .ok (.istore 4, 2) := by decide +kernel
theorem dX8_give_41 : decode cX8_give 41 = .ok (.aload_n 0, 1) := by decide +kernel
theorem dX8_give_42 : decode cX8_give 42 = .ok (.getfield 53, 3) := by decide +kernel
theorem dX8_give_45 : decode cX8_give 45 = .ok (.iload_n 3, 1) := by decide +kernel
theorem dX8_give_46 : decode cX8_give 46 = .ok (.iload_n 2, 1) := by decide +kernel
theorem dX8_give_47 : decode cX8_give 47 = .ok (.iastore, 1) := by decide +kernel
theorem dX8_give_48 : decode cX8_give 48 = .ok (.iload 4, 2) := by decide +kernel
theorem dX8_give_50 : decode cX8_give 50 = .ok (.ireturn, 1) := by decide +kernel
theorem dX8_give_51 : decode cX8_give 51 = .ok (.aload_n 0, 1) := by decide +kernel
theorem dX8_give_52 : decode cX8_give 52 = .ok (.getfield 53, 3) := by decide +kernel
theorem dX8_give_55 : decode cX8_give 55 = .ok (.bipush 60, 2) := by decide +kernel
theorem dX8_give_57 : decode cX8_give 57 = .ok (.iload_n 1, 1) := by decide +kernel
theorem dX8_give_58 : decode cX8_give 58 = .ok (.imul, 1) := by decide +kernel
theorem dX8_give_59 : decode cX8_give 59 = .ok (.aload_n 0, 1) := by decide +kernel
theorem dX8_give_60 : decode cX8_give 60 = .ok (.getfield 50, 3) := by decide +kernel
theorem dX8_give_63 : decode cX8_give 63 = .ok (.iload_n 1, 1) := by decide +kernel
theorem dX8_give_64 : decode cX8_give 64 = .ok (.iaload, 1) := by decide +kernel
theorem dX8_give_65 : decode cX8_give 65 = .ok (.iadd, 1) := by decide +kernel
theorem dX8_give_66 : decode cX8_give 66 = .ok (.iload_n 2, 1) := by decide +kernel
theorem dX8_give_67 : decode cX8_give 67 = .ok (.iastore, 1) := by decide +kernel
theorem dX8_give_68 : decode cX8_give 68 = .ok (.aload_n 0, 1) := by decide +kernel
theorem dX8_give_69 : decode cX8_give 69 = .ok (.getfield 50, 3) := by decide +kernel
theorem dX8_give_72 : decode cX8_give 72 = .ok (.iload_n 1, 1) := by decide +kernel
theorem dX8_give_73 : decode cX8_give 73 = .ok (.dup2, 1) := by decide +kernel
theorem dX8_give_74 : decode cX8_give 74 = .ok (.iaload, 1) := by decide +kernel
theorem dX8_give_75 : decode cX8_give 75 = .ok (.iconst 1, 1) := by decide +kernel
theorem dX8_give_76 : decode cX8_give 76 = .ok (.iadd, 1) := by decide +kernel
theorem dX8_give_77 : decode cX8_give 77 = .ok (.iastore, 1) := by decide +kernel
theorem dX8_give_78 : decode cX8_give 78 = .ok (.bipush (-2), 2) := by decide +kernel
theorem dX8_give_80 : decode cX8_give 80 = .ok (.ireturn, 1) := by decide +kernel
theorem dX8_seek_0 : decode cX8_seek 0 = .ok (.iload_n 1, 1) := by decide +kernel
theorem dX8_seek_1 : decode cX8_seek 1 = .ok (.invokestatic 146, 3) := by decide +kernel
theorem dX8_seek_4 : decode cX8_seek 4 = .ok (.ifCond .eq 22, 3) := by decide +kernel
theorem dX8_seek_7 : decode cX8_seek 7 = .ok (.iload_n 2, 1) := by decide +kernel
theorem dX8_seek_8 : decode cX8_seek 8 = .ok (.invokestatic 146, 3) := by decide +kernel
theorem dX8_seek_11 : decode cX8_seek 11 = .ok (.ifCond .eq 15, 3) := by decide +kernel
theorem dX8_seek_14 : decode cX8_seek 14 = .ok (.iload_n 3, 1) := by decide +kernel
theorem dX8_seek_15 : decode cX8_seek 15 = .ok (.i2l, 1) := by decide +kernel
theorem dX8_seek_16 : decode cX8_seek 16 = .ok (.lconst 0, 1) := by decide +kernel
theorem dX8_seek_17 : decode cX8_seek 17 = .ok (.ldc2_w 111, 3) := by decide +kernel
theorem dX8_seek_20 : decode cX8_seek 20 = .ok (.invokestatic 96, 3) := by decide +kernel
theorem dX8_seek_23 : decode cX8_seek 23 = .ok (.ifCond .ne 5, 3) := by decide +kernel
theorem dX8_seek_26 : decode cX8_seek 26 = .ok (.iconst (-1), 1) := by decide +kernel
theorem dX8_seek_27 : decode cX8_seek 27 = .ok (.ireturn, 1) := by decide +kernel
theorem dX8_seek_28 : decode cX8_seek 28 = .ok (.aload_n 0, 1) := by decide +kernel
theorem dX8_seek_29 : decode cX8_seek 29 = .ok (.getfield 35, 3) := by decide +kernel
theorem dX8_seek_32 : decode cX8_seek 32 = .ok (.iload_n 1, 1) := by decide +kernel
theorem dX8_seek_33 : decode cX8_seek 33 = .ok (.iaload, 1) := by decide +kernel
theorem dX8_seek_34 : decode cX8_seek 34 = .ok (.ifCond .ne 6, 3) := by decide +kernel
theorem dX8_seek_37 : decode cX8_seek 37 = .ok (.bipush (-2), 2) := by decide +kernel
theorem dX8_seek_39 : decode cX8_seek 39 = .ok (.ireturn, 1) := by decide +kernel
theorem dX8_seek_40 : decode cX8_seek 40 = .ok (.iconst 1, 1) := by decide +kernel
theorem dX8_seek_41 : decode cX8_seek 41 = .ok (.istore 4, 2) := by decide +kernel
theorem dX8_seek_43 : decode cX8_seek 43 = .ok (.aload_n 0, 1) := by decide +kernel
theorem dX8_seek_44 : decode cX8_seek 44 = .ok (.getfield 68, 3) := by decide +kernel
theorem dX8_seek_47 : decode cX8_seek 47 = .ok (.iconst 0, 1) := by decide +kernel
theorem dX8_seek_48 : decode cX8_seek 48 = .ok (.iload_n 3, 1) := by decide +kernel
theorem dX8_seek_49 : decode cX8_seek 49 = .ok (.iastore, 1) := by decide +kernel
theorem dX8_seek_50 : decode cX8_seek 50 = .ok (.iload 4, 2) := by decide +kernel
theorem dX8_seek_52 : decode cX8_seek 52 = .ok (.ifCond .le 117, 3) := by decide +kernel
theorem dX8_seek_55 : decode cX8_seek 55 = .ok (.aload_n 0, 1) := by decide +kernel
theorem dX8_seek_56 : decode cX8_seek 56 = .ok (.getfield 68, 3) := by decide +kernel
theorem dX8_seek_59 : decode cX8_seek 59 = .ok (.iload 4, 2) := by decide +kernel
theorem dX8_seek_61 : decode cX8_seek 61 = .ok (.iconst 1, 1) := by decide +kernel
theorem dX8_seek_62 : decode cX8_seek 62 = .ok (.isub, 1) := by decide +kernel
theorem dX8_seek_63 : decode cX8_seek 63 = .ok (.iaload, 1) := by decide +kernel
theorem dX8_seek_64 : decode cX8_seek 64 = .ok (.istore 5, 2) := by decide +kernel
theorem dX8_seek_66 : decode cX8_seek 66 = .ok (.aload_n 0, 1) := by decide +kernel
theorem dX8_seek_67 : decode cX8_seek 67 = .ok (.getfield 41, 3) := by decide +kernel
theorem dX8_seek_70 : decode cX8_seek 70 = .ok (.iload_n 1, 1) := by decide +kernel
theorem dX8_seek_71 : decode cX8_seek 71 = .ok (.dup2, 1) := by decide +kernel
theorem dX8_seek_72 : decode cX8_seek 72 = .ok (.iaload, 1) := by decide +kernel
theorem dX8_seek_73 : decode cX8_seek 73 = .ok (.iconst 1, 1) := by decide +kernel
theorem dX8_seek_74 : decode cX8_seek 74 = .ok (.iadd, 1) := by decide +kernel
theorem dX8_seek_75 : decode cX8_seek 75 = .ok (.iastore, 1) := by decide +kernel
theorem dX8_seek_76 : decode cX8_seek 76 = .ok (.aload_n 0, 1) := by decide +kernel
theorem dX8_seek_77 : decode cX8_seek 77 = .ok (.iload_n 2, 1) := by decide +kernel
theorem dX8_seek_78 : decode cX8_seek 78 = .ok (.iload 5, 2) := by decide +kernel
theorem dX8_seek_80 : decode cX8_seek 80 = .ok (.invokevirtual 166, 3) := by decide +kernel
theorem dX8_seek_83 : decode cX8_seek 83 = .ok (.istore 6, 2) := by decide +kernel
theorem dX8_seek_85 : decode cX8_seek 85 = .ok (.iload 6, 2) := by decide +kernel
theorem dX8_seek_87 : decode cX8_seek 87 = .ok (.ifCond .ge 8, 3) := by decide +kernel
theorem dX8_seek_90 : decode cX8_seek 90 = .ok (.bipush 7, 2) := by decide +kernel
theorem dX8_seek_92 : decode cX8_seek 92 = .ok (.goto 10, 3) := by decide +kernel
theorem dX8_seek_95 : decode cX8_seek 95 = .ok (.aload_n 0, 1) := by decide +kernel
theorem dX8_seek_96 : decode cX8_seek 96 = .ok (.iload_n 1, 1) := by decide +kernel
theorem dX8_seek_97 : decode cX8_seek 97 = .ok (.iload 6, 2) := by decide +kernel
theorem dX8_seek_99 : decode cX8_seek 99 = .ok (.invokevirtual 156, 3) := by decide +kernel
theorem dX8_seek_102 : decode cX8_seek 102 = .ok (.istore 7, 2) := by decide +kernel
theorem dX8_seek_104 : decode cX8_seek 104 = .ok (.iload 7, 2) := by decide +kernel
theorem dX8_seek_106 : decode cX8_seek 106 = .ok (.ifCond .ne 9, 3) := by decide +kernel
theorem dX8_seek_109 : decode cX8_seek 109 = .ok (.iinc 4 (-1), 3) := by decide +kernel
theorem dX8_seek_112 : decode cX8_seek 112 = .ok (.goto 54, 3) := by decide +kernel
theorem dX8_seek_115 : decode cX8_seek 115 = .ok (.iload 7, 2) := by decide +kernel
theorem dX8_seek_117 : decode cX8_seek 117 = .ok (.iconst 5, 1) := by decide +kernel
theorem dX8_seek_118 : decode cX8_seek 118 = .ok (.if_icmp .eq 10, 3) := by decide +kernel
theorem dX8_seek_121 : decode cX8_seek 121 = .ok (.iload 7, 2) := by decide +kernel
theorem dX8_seek_123 : decode cX8_seek 123 = .ok (.bipush 6, 2) := by decide +kernel
theorem dX8_seek_125 : decode cX8_seek 125 = .ok (.if_icmp .ne 31, 3) := by decide +kernel
theorem dX8_seek_128 : decode cX8_seek 128 = .ok (.aload_n 0, 1) := by decide +kernel
theorem dX8_seek_129 : decode cX8_seek 129 = .ok (.getfield 68, 3) := by decide +kernel
theorem dX8_seek_132 : decode cX8_seek 132 = .ok (.iload 4, 2) := by decide +kernel
theorem dX8_seek_134 : decode cX8_seek 134 = .ok (.aload_n 0, 1) := by decide +kernel
theorem dX8_seek_135 : decode cX8_seek 135 = .ok (.getfield 13, 3) := by decide +kernel
theorem dX8_seek_138 : decode cX8_seek 138 = .ok (.aload_n 0, 1) := by decide +kernel
theorem dX8_seek_139 : decode cX8_seek 139 = .ok (.iload_n 1, 1) := by decide +kernel
theorem dX8_seek_140 : decode cX8_seek 140 = .ok (.invokevirtual 149, 3) := by decide +kernel
theorem dX8_seek_143 : decode cX8_seek 143 = .ok (.iaload, 1) := by decide +kernel
theorem dX8_seek_144 : decode cX8_seek 144 = .ok (.iload 5, 2) := by decide +kernel
theorem dX8_seek_146 : decode cX8_seek 146 = .ok (.iadd, 1) := by decide +kernel
theorem dX8_seek_147 : decode cX8_seek 147 = .ok (.iconst 2, 1) := by decide +kernel
theorem dX8_seek_148 : decode cX8_seek 148 = .ok (.idiv, 1) := by decide +kernel
theorem dX8_seek_149 : decode cX8_seek 149 = .ok (.iastore, 1) := by decide +kernel
theorem dX8_seek_150 : decode cX8_seek 150 = .ok (.iinc 4 1, 3) := by decide +kernel
theorem dX8_seek_153 : decode cX8_seek 153 = .ok (.goto 13, 3) := by decide +kernel
theorem dX8_seek_156 : decode cX8_seek 156 = .ok (.aload_n 0, 1) := by decide +kernel
theorem dX8_seek_157 : decode cX8_seek 157 = .ok (.iload_n 1, 1) := by decide +kernel
theorem dX8_seek_158 : decode cX8_seek 158 = .ok (.iload 7, 2) := by decide +kernel
theorem dX8_seek_160 : decode cX8_seek 160 = .ok (.iload 5, 2) := by decide +kernel
theorem dX8_seek_162 : decode cX8_seek 162 = .ok (.invokevirtual 159, 3) := by decide +kernel
theorem dX8_seek_165 : decode cX8_seek 165 = .ok (.ireturn, 1) := by decide +kernel
theorem dX8_seek_166 : decode cX8_seek 166 = .ok (.goto (-116), 3) := by decide +kernel
theorem dX8_seek_169 : decode cX8_seek 169 = .ok (.iconst 1, 1) := by decide +kernel
theorem dX8_seek_170 : decode cX8_seek 170 = .ok (.ireturn, 1) := by decide +kernel
theorem dX8_stored_0 : decode cX8_stored 0 = .ok (.iload_n 1, 1) := by decide +kernel
theorem dX8_stored_1 : decode cX8_stored 1 = .ok (.invokestatic 146, 3) := by decide +kernel
theorem dX8_stored_4 : decode cX8_stored 4 = .ok (.ifCond .eq 8, 3) := by decide +kernel
theorem dX8_stored_7 : decode cX8_stored 7 = .ok (.iload_n 2, 1) := by decide +kernel
theorem dX8_stored_8 : decode cX8_stored 8 = .ok (.iconst (-1), 1) := by decide +kernel
theorem dX8_stored_9 : decode cX8_stored 9 = .ok (.if_icmp .ge 5, 3) := by decide +kernel
theorem dX8_stored_12 : decode cX8_stored 12 = .ok (.iconst (-1), 1) := by decide +kernel
theorem dX8_stored_13 : decode cX8_stored 13 = .ok (.ireturn, 1) := by decide +kernel
theorem dX8_stored_14 : decode cX8_stored 14 = .ok (.iload_n 2, 1) := by decide +kernel
theorem dX8_stored_15 : decode cX8_stored 15 = .ok (.ifCond .ge 12, 3) := by decide +kernel
theorem dX8_stored_18 : decode cX8_stored 18 = .ok (.aload_n 0, 1) := by decide +kernel
theorem dX8_stored_19 : decode cX8_stored 19 = .ok (.getfield 35, 3) := by decide +kernel
theorem dX8_stored_22 : decode cX8_stored 22 = .ok (.iload_n 1, 1) := by decide +kernel
theorem dX8_stored_23 : decode cX8_stored 23 = .ok (.iaload, 1) := by decide +kernel
theorem dX8_stored_24 : decode cX8_stored 24 = .ok (.goto 29, 3) := by decide +kernel
theorem dX8_stored_27 : decode cX8_stored 27 = .ok (.iload_n 2, 1) := by decide +kernel
theorem dX8_stored_28 : decode cX8_stored 28 = .ok (.aload_n 0, 1) := by decide +kernel
theorem dX8_stored_29 : decode cX8_stored 29 = .ok (.getfield 35, 3) := by decide +kernel
theorem dX8_stored_32 : decode cX8_stored 32 = .ok (.iload_n 1, 1) := by decide +kernel
theorem dX8_stored_33 : decode cX8_stored 33 = .ok (.iaload, 1) := by decide +kernel
theorem dX8_stored_34 : decode cX8_stored 34 = .ok (.if_icmp .ge 17, 3) := by decide +kernel
theorem dX8_stored_37 : decode cX8_stored 37 = .ok (.aload_n 0, 1) := by decide +kernel
theorem dX8_stored_38 : decode cX8_stored 38 = .ok (.getfield 38, 3) := by decide +kernel
theorem dX8_stored_41 : decode cX8_stored 41 = .ok (.bipush 11, 2) := by decide +kernel
theorem dX8_stored_43 : decode cX8_stored 43 = .ok (.iload_n 1, 1) := by decide +kernel
theorem dX8_stored_44 : decode cX8_stored 44 = .ok (.imul, 1) := by decide +kernel
theorem dX8_stored_45 : decode cX8_stored 45 = .ok (.iload_n 2, 1) := by decide +kernel
theorem dX8_stored_46 : decode cX8_stored 46 = .ok (.iadd, 1) := by decide +kernel
theorem dX8_stored_47 : decode cX8_stored 47 = .ok (.iaload, 1) := by decide +kernel
theorem dX8_stored_48 : decode cX8_stored 48 = .ok (.goto 5, 3) := by decide +kernel
theorem dX8_stored_51 : decode cX8_stored 51 = .ok (.bipush (-2), 2) := by decide +kernel
theorem dX8_stored_53 : decode cX8_stored 53 = .ok (.ireturn, 1) := by decide +kernel
theorem dX8_client_0 : decode cX8_client 0 = .ok (.iload_n 1, 1) := by decide +kernel
theorem dX8_client_1 : decode cX8_client 1 = .ok (.invokestatic 146, 3) := by decide +kernel
theorem dX8_client_4 : decode cX8_client 4 = .ok (.ifCond .ne 7, 3) := by decide +kernel
theorem dX8_client_7 : decode cX8_client 7 = .ok (.iconst (-1), 1) := by decide +kernel
theorem dX8_client_8 : decode cX8_client 8 = .ok (.goto 45, 3) := by decide +kernel
theorem dX8_client_11 : decode cX8_client 11 = .ok (.iload_n 2, 1) := by decide +kernel
theorem dX8_client_12 : decode cX8_client 12 = .ok (.ifCond .ne 12, 3) := by decide +kernel
theorem dX8_client_15 : decode cX8_client 15 = .ok (.aload_n 0, 1) := by decide +kernel
theorem dX8_client_16 : decode cX8_client 16 = .ok (.getfield 41, 3) := by decide +kernel
theorem dX8_client_19 : decode cX8_client 19 = .ok (.iload_n 1, 1) := by decide +kernel
theorem dX8_client_20 : decode cX8_client 20 = .ok (.iaload, 1) := by decide +kernel
theorem dX8_client_21 : decode cX8_client 21 = .ok (.goto 32, 3) := by decide +kernel
theorem dX8_client_24 : decode cX8_client 24 = .ok (.iload_n 2, 1) := by decide +kernel
theorem dX8_client_25 : decode cX8_client 25 = .ok (.iconst 1, 1) := by decide +kernel
theorem dX8_client_26 : decode cX8_client 26 = .ok (.if_icmp .ne 12, 3) := by decide +kernel
theorem dX8_client_29 : decode cX8_client 29 = .ok (.aload_n 0, 1) := by decide +kernel
theorem dX8_client_30 : decode cX8_client 30 = .ok (.getfield 44, 3) := by decide +kernel
theorem dX8_client_33 : decode cX8_client 33 = .ok (.iload_n 1, 1) := by decide +kernel
theorem dX8_client_34 : decode cX8_client 34 = .ok (.iaload, 1) := by decide +kernel
theorem dX8_client_35 : decode cX8_client 35 = .ok (.goto 18, 3) := by decide +kernel
theorem dX8_client_38 : decode cX8_client 38 = .ok (.iload_n 2, 1) := by decide +kernel
theorem dX8_client_39 : decode cX8_client 39 = .ok (.iconst 2, 1) := by decide +kernel
theorem dX8_client_40 : decode cX8_client 40 = .ok (.if_icmp .ne 12, 3) := by decide +kernel
theorem dX8_client_43 : decode cX8_client 43 = .ok (.aload_n 0, 1) := by decide +kernel
theorem dX8_client_44 : decode cX8_client 44 = .ok (.getfield 47, 3) := by decide +kernel
theorem dX8_client_47 : decode cX8_client 47 = .ok (.iload_n 1, 1) := by decide +kernel
theorem dX8_client_48 : decode cX8_client 48 = .ok (.iaload, 1) := by decide +kernel
theorem dX8_client_49 : decode cX8_client 49 = .ok (.goto 4, 3) := by decide +kernel
theorem dX8_client_52 : decode cX8_client 52 = .ok (.iconst (-1), 1) := by decide +kernel
theorem dX8_client_53 : decode cX8_client 53 = .ok (.ireturn, 1) := by decide +kernel
theorem dX8_compare_0 : decode cX8_compare 0 = .ok (.iload_n 1, 1) := by decide +kernel
theorem dX8_compare_1 : decode cX8_compare 1 = .ok (.invokestatic 146, 3) := by decide +kernel
theorem dX8_compare_4 : decode cX8_compare 4 = .ok (.ifCond .eq 10, 3) := by decide +kernel
theorem dX8_compare_7 : decode cX8_compare 7 = .ok (.iload_n 2, 1) := by decide +kernel
theorem dX8_compare_8 : decode cX8_compare 8 = .ok (.invokestatic 146, 3) := by decide +kernel
theorem dX8_compare_11 : decode cX8_compare 11 = .ok (.ifCond .ne 5, 3) := by decide +kernel
theorem dX8_compare_14 : decode cX8_compare 14 = .ok (.iconst (-1), 1) := by decide +kernel
theorem dX8_compare_15 : decode cX8_compare 15 = .ok (.ireturn, 1) := by decide +kernel
theorem dX8_compare_16 : decode cX8_compare 16 = .ok (.bipush (-2), 2) := by decide +kernel
theorem dX8_compare_18 : decode cX8_compare 18 = .ok (.istore_n 3, 1) := by decide +kernel
theorem dX8_compare_19 : decode cX8_compare 19 = .ok (.bipush 60, 2) := by decide +kernel
theorem dX8_compare_21 : decode cX8_compare 21 = .ok (.iload_n 1, 1) := by decide +kernel
theorem dX8_compare_22 : decode cX8_compare 22 = .ok (.imul, 1) := by decide +kernel
theorem dX8_compare_23 : decode cX8_compare 23 = .ok (.istore 4, 2) := by decide +kernel
theorem dX8_compare_25 : decode cX8_compare 25 = .ok (.iload 4, 2) := by decide +kernel
theorem dX8_compare_27 : decode cX8_compare 27 = .ok (.bipush 60, 2) := by decide +kernel
theorem dX8_compare_29 : decode cX8_compare 29 = .ok (.iload_n 1, 1) := by decide +kernel
theorem dX8_compare_30 : decode cX8_compare 30 = .ok (.imul, 1) := by decide +kernel
theorem dX8_compare_31 : decode cX8_compare 31 = .ok (.aload_n 0, 1) := by decide +kernel
theorem dX8_compare_32 : decode cX8_compare 32 = .ok (.getfield 50, 3) := by decide +kernel
theorem dX8_compare_35 : decode cX8_compare 35 = .ok (.iload_n 1, 1) := by decide +kernel
theorem dX8_compare_36 : decode cX8_compare 36 = .ok (.iaload, 1) := by decide +kernel
theorem dX8_compare_37 : decode cX8_compare 37 = .ok (.iadd, 1) := by decide +kernel
theorem dX8_compare_38 : decode cX8_compare 38 = .ok (.if_icmp .ge 76, 3) := by decide +kernel
theorem dX8_compare_41 : decode cX8_compare 41 = .ok (.aload_n 0, 1) := by decide +kernel
theorem dX8_compare_42 : decode cX8_compare 42 = .ok (.getfield 53, 3) := by decide +kernel
theorem dX8_compare_45 : decode cX8_compare 45 = .ok (.iload 4, 2) := by decide +kernel
theorem dX8_compare_47 : decode cX8_compare 47 = .ok (.iaload, 1) := by decide +kernel
theorem dX8_compare_48 : decode cX8_compare 48 = .ok (.istore 5, 2) := by decide +kernel
theorem dX8_compare_50 : decode cX8_compare 50 = .ok (.aload_n 0, 1) := by decide +kernel
theorem dX8_compare_51 : decode cX8_compare 51 = .ok (.iload_n 2, 1) := by decide +kernel
theorem dX8_compare_52 : decode cX8_compare 52 = .ok (.aload_n 0, 1) := by decide +kernel
theorem dX8_compare_53 : decode cX8_compare 53 = .ok (.getfield 13, 3) := by decide +kernel
theorem dX8_compare_56 : decode cX8_compare 56 = .ok (.iload 5, 2) := by decide +kernel
theorem dX8_compare_58 : decode cX8_compare 58 = .ok (.iaload, 1) := by decide +kernel
theorem dX8_compare_59 : decode cX8_compare 59 = .ok (.invokevirtual 166, 3) := by decide +kernel
theorem dX8_compare_62 : decode cX8_compare 62 = .ok (.istore 6, 2) := by decide +kernel
theorem dX8_compare_64 : decode cX8_compare 64 = .ok (.iload 6, 2) := by decide +kernel
theorem dX8_compare_66 : decode cX8_compare 66 = .ok (.ifCond .lt 42, 3) := by decide +kernel
theorem dX8_compare_69 : decode cX8_compare 69 = .ok (.aload_n 0, 1) := by decide +kernel
theorem dX8_compare_70 : decode cX8_compare 70 = .ok (.iload 6, 2) := by decide +kernel
theorem dX8_compare_72 : decode cX8_compare 72 = .ok (.invokevirtual 132, 3) := by decide +kernel
theorem dX8_compare_75 : decode cX8_compare 75 = .ok (.aload_n 0, 1) := by decide +kernel
theorem dX8_compare_76 : decode cX8_compare 76 = .ok (.iload 5, 2) := by decide +kernel
theorem dX8_compare_78 : decode cX8_compare 78 = .ok (.invokevirtual 132, 3) := by decide +kernel
theorem dX8_compare_81 : decode cX8_compare 81 = .ok (.lcmp, 1) := by decide +kernel
theorem dX8_compare_82 : decode cX8_compare 82 = .ok (.ifCond .eq 26, 3) := by decide +kernel
theorem dX8_compare_85 : decode cX8_compare 85 = .ok (.iload_n 3, 1) := by decide +kernel
theorem dX8_compare_86 : decode cX8_compare 86 = .ok (.ifCond .lt 14, 3) := by decide +kernel
theorem dX8_compare_89 : decode cX8_compare 89 = .ok (.aload_n 0, 1) := by decide +kernel
theorem dX8_compare_90 : decode cX8_compare 90 = .ok (.getfield 13, 3) := by decide +kernel
theorem dX8_compare_93 : decode cX8_compare 93 = .ok (.iload 5, 2) := by decide +kernel
theorem dX8_compare_95 : decode cX8_compare 95 = .ok (.iaload, 1) := by decide +kernel
theorem dX8_compare_96 : decode cX8_compare 96 = .ok (.iload_n 3, 1) := by decide +kernel
theorem dX8_compare_97 : decode cX8_compare 97 = .ok (.if_icmp .ge 11, 3) := by decide +kernel
theorem dX8_compare_100 : decode cX8_compare 100 = .ok (.aload_n 0, 1) := by decide +kernel
theorem dX8_compare_101 : decode cX8_compare 101 = .ok (.getfield 13, 3) := by decide +kernel
theorem dX8_compare_104 : decode cX8_compare 104 = .ok (.iload 5, 2) := by decide +kernel
theorem dX8_compare_106 : decode cX8_compare 106 = .ok (.iaload, 1) := by decide +kernel
theorem dX8_compare_107 : decode cX8_compare 107 = .ok (.istore_n 3, 1) := by decide +kernel
theorem dX8_compare_108 : decode cX8_compare 108 = .ok (.iinc 4 1, 3) := by decide +kernel
theorem dX8_compare_111 : decode cX8_compare 111 = .ok (.goto (-86), 3) := by decide +kernel
theorem dX8_compare_114 : decode cX8_compare 114 = .ok (.iload_n 3, 1) := by decide +kernel
theorem dX8_compare_115 : decode cX8_compare 115 = .ok (.ireturn, 1) := by decide +kernel
theorem dX8_blame_0 : decode cX8_blame 0 = .ok (.iload_n 1, 1) := by decide +kernel
theorem dX8_blame_1 : decode cX8_blame 1 = .ok (.invokestatic 146, 3) := by decide +kernel
theorem dX8_blame_4 : decode cX8_blame 4 = .ok (.ifCond .eq 17, 3) := by decide +kernel
theorem dX8_blame_7 : decode cX8_blame 7 = .ok (.iload_n 2, 1) := by decide +kernel
theorem dX8_blame_8 : decode cX8_blame 8 = .ok (.invokestatic 146, 3) := by decide +kernel
theorem dX8_blame_11 : decode cX8_blame 11 = .ok (.ifCond .eq 10, 3) := by decide +kernel
theorem dX8_blame_14 : decode cX8_blame 14 = .ok (.iload_n 3, 1) := by decide +kernel
theorem dX8_blame_15 : decode cX8_blame 15 = .ok (.invokestatic 146, 3) := by decide +kernel
theorem dX8_blame_18 : decode cX8_blame 18 = .ok (.ifCond .ne 5, 3) := by decide +kernel
theorem dX8_blame_21 : decode cX8_blame 21 = .ok (.iconst (-1), 1) := by decide +kernel
theorem dX8_blame_22 : decode cX8_blame 22 = .ok (.ireturn, 1) := by decide +kernel
theorem dX8_blame_23 : decode cX8_blame 23 = .ok (.aload_n 0, 1) := by decide +kernel
theorem dX8_blame_24 : decode cX8_blame 24 = .ok (.iload_n 2, 1) := by decide +kernel
theorem dX8_blame_25 : decode cX8_blame 25 = .ok (.iload_n 3, 1) := by decide +kernel
theorem dX8_blame_26 : decode cX8_blame 26 = .ok (.invokevirtual 169, 3) := by decide +kernel
theorem dX8_blame_29 : decode cX8_blame 29 = .ok (.istore 4, 2) := by decide +kernel
theorem dX8_blame_31 : decode cX8_blame 31 = .ok (.bipush (-2), 2) := by decide +kernel
theorem dX8_blame_33 : decode cX8_blame 33 = .ok (.istore 5, 2) := by decide +kernel
theorem dX8_blame_35 : decode cX8_blame 35 = .ok (.iconst 0, 1) := by decide +kernel
theorem dX8_blame_36 : decode cX8_blame 36 = .ok (.istore 6, 2) := by decide +kernel
theorem dX8_blame_38 : decode cX8_blame 38 = .ok (.iload 6, 2) := by decide +kernel
theorem dX8_blame_40 : decode cX8_blame 40 = .ok (.aload_n 0, 1) := by decide +kernel
theorem dX8_blame_41 : decode cX8_blame 41 = .ok (.getfield 35, 3) := by decide +kernel
theorem dX8_blame_44 : decode cX8_blame 44 = .ok (.iload_n 1, 1) := by decide +kernel
theorem dX8_blame_45 : decode cX8_blame 45 = .ok (.iaload, 1) := by decide +kernel
theorem dX8_blame_46 : decode cX8_blame 46 = .ok (.if_icmp .ge 44, 3) := by decide +kernel
theorem dX8_blame_49 : decode cX8_blame 49 = .ok (.aload_n 0, 1) := by decide +kernel
theorem dX8_blame_50 : decode cX8_blame 50 = .ok (.getfield 38, 3) := by decide +kernel
theorem dX8_blame_53 : decode cX8_blame 53 = .ok (.bipush 11, 2) := by decide +kernel
theorem dX8_blame_55 : decode cX8_blame 55 = .ok (.iload_n 1, 1) := by decide +kernel
theorem dX8_blame_56 : decode cX8_blame 56 = .ok (.imul, 1) := by decide +kernel
theorem dX8_blame_57 : decode cX8_blame 57 = .ok (.iload 6, 2) := by decide +kernel
theorem dX8_blame_59 : decode cX8_blame 59 = .ok (.iadd, 1) := by decide +kernel
theorem dX8_blame_60 : decode cX8_blame 60 = .ok (.iaload, 1) := by decide +kernel
theorem dX8_blame_61 : decode cX8_blame 61 = .ok (.istore 7, 2) := by decide +kernel
theorem dX8_blame_63 : decode cX8_blame 63 = .ok (.aload_n 0, 1) := by decide +kernel
theorem dX8_blame_64 : decode cX8_blame 64 = .ok (.getfield 13, 3) := by decide +kernel
theorem dX8_blame_67 : decode cX8_blame 67 = .ok (.iload 7, 2) := by decide +kernel
theorem dX8_blame_69 : decode cX8_blame 69 = .ok (.iaload, 1) := by decide +kernel
theorem dX8_blame_70 : decode cX8_blame 70 = .ok (.iload 4, 2) := by decide +kernel
theorem dX8_blame_72 : decode cX8_blame 72 = .ok (.if_icmp .ge 8, 3) := by decide +kernel
theorem dX8_blame_75 : decode cX8_blame 75 = .ok (.iload 7, 2) := by decide +kernel
theorem dX8_blame_77 : decode cX8_blame 77 = .ok (.goto 5, 3) := by decide +kernel
theorem dX8_blame_80 : decode cX8_blame 80 = .ok (.iload 5, 2) := by decide +kernel
theorem dX8_blame_82 : decode cX8_blame 82 = .ok (.istore 5, 2) := by decide +kernel
theorem dX8_blame_84 : decode cX8_blame 84 = .ok (.iinc 6 1, 3) := by decide +kernel
theorem dX8_blame_87 : decode cX8_blame 87 = .ok (.goto (-49), 3) := by decide +kernel
theorem dX8_blame_90 : decode cX8_blame 90 = .ok (.iload 4, 2) := by decide +kernel
theorem dX8_blame_92 : decode cX8_blame 92 = .ok (.ifCond .lt 8, 3) := by decide +kernel
theorem dX8_blame_95 : decode cX8_blame 95 = .ok (.iload 5, 2) := by decide +kernel
theorem dX8_blame_97 : decode cX8_blame 97 = .ok (.ifCond .ge 6, 3) := by decide +kernel
theorem dX8_blame_100 : decode cX8_blame 100 = .ok (.bipush (-2), 2) := by decide +kernel
theorem dX8_blame_102 : decode cX8_blame 102 = .ok (.ireturn, 1) := by decide +kernel
theorem dX8_blame_103 : decode cX8_blame 103 = .ok (.aload_n 0, 1) := by decide +kernel
theorem dX8_blame_104 : decode cX8_blame 104 = .ok (.iload 5, 2) := by decide +kernel
theorem dX8_blame_106 : decode cX8_blame 106 = .ok (.aload_n 0, 1) := by decide +kernel
theorem dX8_blame_107 : decode cX8_blame 107 = .ok (.iload_n 2, 1) := by decide +kernel
theorem dX8_blame_108 : decode cX8_blame 108 = .ok (.iload 4, 2) := by decide +kernel
theorem dX8_blame_110 : decode cX8_blame 110 = .ok (.invokevirtual 166, 3) := by decide +kernel
theorem dX8_blame_113 : decode cX8_blame 113 = .ok (.invokevirtual 153, 3) := by decide +kernel
theorem dX8_blame_116 : decode cX8_blame 116 = .ok (.ifCond .ne 7, 3) := by decide +kernel
theorem dX8_blame_119 : decode cX8_blame 119 = .ok (.iconst 1, 1) := by decide +kernel
theorem dX8_blame_120 : decode cX8_blame 120 = .ok (.goto 4, 3) := by decide +kernel
theorem dX8_blame_123 : decode cX8_blame 123 = .ok (.iconst 0, 1) := by decide +kernel
theorem dX8_blame_124 : decode cX8_blame 124 = .ok (.aload_n 0, 1) := by decide +kernel
theorem dX8_blame_125 : decode cX8_blame 125 = .ok (.iload 5, 2) := by decide +kernel
theorem dX8_blame_127 : decode cX8_blame 127 = .ok (.aload_n 0, 1) := by decide +kernel
theorem dX8_blame_128 : decode cX8_blame 128 = .ok (.iload_n 3, 1) := by decide +kernel
theorem dX8_blame_129 : decode cX8_blame 129 = .ok (.iload 4, 2) := by decide +kernel
theorem dX8_blame_131 : decode cX8_blame 131 = .ok (.invokevirtual 166, 3) := by decide +kernel
theorem dX8_blame_134 : decode cX8_blame 134 = .ok (.invokevirtual 153, 3) := by decide +kernel
theorem dX8_blame_137 : decode cX8_blame 137 = .ok (.ifCond .ne 7, 3) := by decide +kernel
theorem dX8_blame_140 : decode cX8_blame 140 = .ok (.iconst 2, 1) := by decide +kernel
theorem dX8_blame_141 : decode cX8_blame 141 = .ok (.goto 4, 3) := by decide +kernel
theorem dX8_blame_144 : decode cX8_blame 144 = .ok (.iconst 0, 1) := by decide +kernel
theorem dX8_blame_145 : decode cX8_blame 145 = .ok (.iadd, 1) := by decide +kernel
theorem dX8_blame_146 : decode cX8_blame 146 = .ok (.ireturn, 1) := by decide +kernel
theorem dX8_leaf_0 : decode cX8_leaf 0 = .ok (.iload_n 1, 1) := by decide +kernel
theorem dX8_leaf_1 : decode cX8_leaf 1 = .ok (.i2l, 1) := by decide +kernel
theorem dX8_leaf_2 : decode cX8_leaf 2 = .ok (.lconst 0, 1) := by decide +kernel
theorem dX8_leaf_3 : decode cX8_leaf 3 = .ok (.ldc2_w 172, 3) := by decide +kernel
theorem dX8_leaf_6 : decode cX8_leaf 6 = .ok (.invokestatic 96, 3) := by decide +kernel
theorem dX8_leaf_9 : decode cX8_leaf 9 = .ok (.ifCond .ne 5, 3) := by decide +kernel
theorem dX8_leaf_12 : decode cX8_leaf 12 = .ok (.lconst 0, 1) := by decide +kernel
theorem dX8_leaf_13 : decode cX8_leaf 13 = .ok (.lreturn, 1) := by decide +kernel
theorem dX8_leaf_14 : decode cX8_leaf 14 = .ok (.aload_n 0, 1) := by decide +kernel
theorem dX8_leaf_15 : decode cX8_leaf 15 = .ok (.getfield 56, 3) := by decide +kernel
theorem dX8_leaf_18 : decode cX8_leaf 18 = .ok (.iload_n 1, 1) := by decide +kernel
theorem dX8_leaf_19 : decode cX8_leaf 19 = .ok (.laload, 1) := by decide +kernel
theorem dX8_leaf_20 : decode cX8_leaf 20 = .ok (.lstore 4, 2) := by decide +kernel
theorem dX8_leaf_22 : decode cX8_leaf 22 = .ok (.aload_n 0, 1) := by decide +kernel
theorem dX8_leaf_23 : decode cX8_leaf 23 = .ok (.getfield 56, 3) := by decide +kernel
theorem dX8_leaf_26 : decode cX8_leaf 26 = .ok (.iload_n 1, 1) := by decide +kernel
theorem dX8_leaf_27 : decode cX8_leaf 27 = .ok (.lload_n 2, 1) := by decide +kernel
theorem dX8_leaf_28 : decode cX8_leaf 28 = .ok (.lastore, 1) := by decide +kernel
theorem dX8_leaf_29 : decode cX8_leaf 29 = .ok (.lload 4, 2) := by decide +kernel
theorem dX8_leaf_31 : decode cX8_leaf 31 = .ok (.lreturn, 1) := by decide +kernel
theorem dX8_grow_0 : decode cX8_grow 0 = .ok (.bipush 15, 2) := by decide +kernel
theorem dX8_grow_2 : decode cX8_grow 2 = .ok (.istore_n 1, 1) := by decide +kernel
theorem dX8_grow_3 : decode cX8_grow 3 = .ok (.iload_n 1, 1) := by decide +kernel
theorem dX8_grow_4 : decode cX8_grow 4 = .ok (.ifCond .le 57, 3) := by decide +kernel
theorem dX8_grow_7 : decode cX8_grow 7 = .ok (.aload_n 0, 1) := by decide +kernel
theorem dX8_grow_8 : decode cX8_grow 8 = .ok (.getfield 59, 3) := by decide +kernel
theorem dX8_grow_11 : decode cX8_grow 11 = .ok (.iload_n 1, 1) := by decide +kernel
theorem dX8_grow_12 : decode cX8_grow 12 = .ok (.iload_n 1, 1) := by decide +kernel
theorem dX8_grow_13 : decode cX8_grow 13 = .ok (.bipush 7, 2) := by decide +kernel
theorem dX8_grow_15 : decode cX8_grow 15 = .ok (.if_icmp .le 18, 3) := by decide +kernel
theorem dX8_grow_18 : decode cX8_grow 18 = .ok (.aload_n 0, 1) := by decide +kernel
theorem dX8_grow_19 : decode cX8_grow 19 = .ok (.getfield 56, 3) := by decide +kernel
theorem dX8_grow_22 : decode cX8_grow 22 = .ok (.iload_n 1, 1) := by decide +kernel
theorem dX8_grow_23 : decode cX8_grow 23 = .ok (.bipush 8, 2) := by decide +kernel
theorem dX8_grow_25 : decode cX8_grow 25 = .ok (.isub, 1) := by decide +kernel
theorem dX8_grow_26 : decode cX8_grow 26 = .ok (.laload, 1) := by decide +kernel
theorem dX8_grow_27 : decode cX8_grow 27 = .ok (.invokestatic 86, 3) := by decide +kernel
theorem dX8_grow_30 : decode cX8_grow 30 = .ok (.goto 24, 3) := by decide +kernel
theorem dX8_grow_33 : decode cX8_grow 33 = .ok (.aload_n 0, 1) := by decide +kernel
theorem dX8_grow_34 : decode cX8_grow 34 = .ok (.getfield 59, 3) := by decide +kernel
theorem dX8_grow_37 : decode cX8_grow 37 = .ok (.iconst 2, 1) := by decide +kernel
theorem dX8_grow_38 : decode cX8_grow 38 = .ok (.iload_n 1, 1) := by decide +kernel
theorem dX8_grow_39 : decode cX8_grow 39 = .ok (.imul, 1) := by decide +kernel
theorem dX8_grow_40 : decode cX8_grow 40 = .ok (.laload, 1) := by decide +kernel
theorem dX8_grow_41 : decode cX8_grow 41 = .ok (.aload_n 0, 1) := by decide +kernel
theorem dX8_grow_42 : decode cX8_grow 42 = .ok (.getfield 59, 3) := by decide +kernel
theorem dX8_grow_45 : decode cX8_grow 45 = .ok (.iconst 2, 1) := by decide +kernel
theorem dX8_grow_46 : decode cX8_grow 46 = .ok (.iload_n 1, 1) := by decide +kernel
theorem dX8_grow_47 : decode cX8_grow 47 = .ok (.imul, 1) := by decide +kernel
theorem dX8_grow_48 : decode cX8_grow 48 = .ok (.iconst 1, 1) := by decide +kernel
theorem dX8_grow_49 : decode cX8_grow 49 = .ok (.iadd, 1) := by decide +kernel
theorem dX8_grow_50 : decode cX8_grow 50 = .ok (.laload, 1) := by decide +kernel
theorem dX8_grow_51 : decode cX8_grow 51 = .ok (.invokestatic 128, 3) := by decide +kernel
theorem dX8_grow_54 : decode cX8_grow 54 = .ok (.lastore, 1) := by decide +kernel
theorem dX8_grow_55 : decode cX8_grow 55 = .ok (.iinc 1 (-1), 3) := by decide +kernel
theorem dX8_grow_58 : decode cX8_grow 58 = .ok (.goto (-55), 3) := by decide +kernel
theorem dX8_grow_61 : decode cX8_grow 61 = .ok (.return_, 1) := by decide +kernel
theorem dX8_tree_0 : decode cX8_tree 0 = .ok (.aload_n 0, 1) := by decide +kernel
theorem dX8_tree_1 : decode cX8_tree 1 = .ok (.invokevirtual 174, 3) := by decide +kernel
theorem dX8_tree_4 : decode cX8_tree 4 = .ok (.iload_n 1, 1) := by decide +kernel
theorem dX8_tree_5 : decode cX8_tree 5 = .ok (.i2l, 1) := by decide +kernel
theorem dX8_tree_6 : decode cX8_tree 6 = .ok (.lconst 1, 1) := by decide +kernel
theorem dX8_tree_7 : decode cX8_tree 7 = .ok (.ldc2_w 177, 3) := by decide +kernel
theorem dX8_tree_10 : decode cX8_tree 10 = .ok (.invokestatic 96, 3) := by decide +kernel
theorem dX8_tree_13 : decode cX8_tree 13 = .ok (.ifCond .eq 12, 3) := by decide +kernel
theorem dX8_tree_16 : decode cX8_tree 16 = .ok (.aload_n 0, 1) := by decide +kernel
theorem dX8_tree_17 : decode cX8_tree 17 = .ok (.getfield 59, 3) := by decide +kernel
theorem dX8_tree_20 : decode cX8_tree 20 = .ok (.iload_n 1, 1) := by decide +kernel
theorem dX8_tree_21 : decode cX8_tree 21 = .ok (.laload, 1) := by decide +kernel
theorem dX8_tree_22 : decode cX8_tree 22 = .ok (.goto 4, 3) := by decide +kernel
theorem dX8_tree_25 : decode cX8_tree 25 = .ok (.lconst 0, 1) := by decide +kernel
theorem dX8_tree_26 : decode cX8_tree 26 = .ok (.lreturn, 1) := by decide +kernel
theorem dX8_prove_0 : decode cX8_prove 0 = .ok (.iload_n 1, 1) := by decide +kernel
theorem dX8_prove_1 : decode cX8_prove 1 = .ok (.i2l, 1) := by decide +kernel
theorem dX8_prove_2 : decode cX8_prove 2 = .ok (.lconst 0, 1) := by decide +kernel
theorem dX8_prove_3 : decode cX8_prove 3 = .ok (.ldc2_w 172, 3) := by decide +kernel
theorem dX8_prove_6 : decode cX8_prove 6 = .ok (.invokestatic 96, 3) := by decide +kernel
theorem dX8_prove_9 : decode cX8_prove 9 = .ok (.ifCond .eq 20, 3) := by decide +kernel
theorem dX8_prove_12 : decode cX8_prove 12 = .ok (.iload_n 2, 1) := by decide +kernel
theorem dX8_prove_13 : decode cX8_prove 13 = .ok (.i2l, 1) := by decide +kernel
theorem dX8_prove_14 : decode cX8_prove 14 = .ok (.lconst 0, 1) := by decide +kernel
theorem dX8_prove_15 : decode cX8_prove 15 = .ok (.ldc2_w 172, 3) := by decide +kernel
theorem dX8_prove_18 : decode cX8_prove 18 = .ok (.invokestatic 96, 3) := by decide +kernel
theorem dX8_prove_21 : decode cX8_prove 21 = .ok (.ifCond .eq 8, 3) := by decide +kernel
theorem dX8_prove_24 : decode cX8_prove 24 = .ok (.iload_n 1, 1) := by decide +kernel
theorem dX8_prove_25 : decode cX8_prove 25 = .ok (.iload_n 2, 1) := by decide +kernel
theorem dX8_prove_26 : decode cX8_prove 26 = .ok (.if_icmp .ne 5, 3) := by decide +kernel
theorem dX8_prove_29 : decode cX8_prove 29 = .ok (.iconst (-1), 1) := by decide +kernel
theorem dX8_prove_30 : decode cX8_prove 30 = .ok (.ireturn, 1) := by decide +kernel
theorem dX8_prove_31 : decode cX8_prove 31 = .ok (.aload_n 0, 1) := by decide +kernel
theorem dX8_prove_32 : decode cX8_prove 32 = .ok (.invokevirtual 174, 3) := by decide +kernel
theorem dX8_prove_35 : decode cX8_prove 35 = .ok (.iconst 0, 1) := by decide +kernel
theorem dX8_prove_36 : decode cX8_prove 36 = .ok (.istore_n 3, 1) := by decide +kernel
theorem dX8_prove_37 : decode cX8_prove 37 = .ok (.iload_n 3, 1) := by decide +kernel
theorem dX8_prove_38 : decode cX8_prove 38 = .ok (.bipush 16, 2) := by decide +kernel
theorem dX8_prove_40 : decode cX8_prove 40 = .ok (.if_icmp .ge 36, 3) := by decide +kernel
theorem dX8_prove_43 : decode cX8_prove 43 = .ok (.aload_n 0, 1) := by decide +kernel
theorem dX8_prove_44 : decode cX8_prove 44 = .ok (.getfield 71, 3) := by decide +kernel
theorem dX8_prove_47 : decode cX8_prove 47 = .ok (.iload_n 3, 1) := by decide +kernel
theorem dX8_prove_48 : decode cX8_prove 48 = .ok (.iload_n 3, 1) := by decide +kernel
theorem dX8_prove_49 : decode cX8_prove 49 = .ok (.bipush 8, 2) := by decide +kernel
theorem dX8_prove_51 : decode cX8_prove 51 = .ok (.iload_n 1, 1) := by decide +kernel
theorem dX8_prove_52 : decode cX8_prove 52 = .ok (.iadd, 1) := by decide +kernel
theorem dX8_prove_53 : decode cX8_prove 53 = .ok (.if_icmp .eq 11, 3) := by decide +kernel
theorem dX8_prove_56 : decode cX8_prove 56 = .ok (.iload_n 3, 1) := by decide +kernel
theorem dX8_prove_57 : decode cX8_prove 57 = .ok (.bipush 8, 2) := by decide +kernel
theorem dX8_prove_59 : decode cX8_prove 59 = .ok (.iload_n 2, 1) := by decide +kernel
theorem dX8_prove_60 : decode cX8_prove 60 = .ok (.iadd, 1) := by decide +kernel
theorem dX8_prove_61 : decode cX8_prove 61 = .ok (.if_icmp .ne 7, 3) := by decide +kernel
theorem dX8_prove_64 : decode cX8_prove 64 = .ok (.iconst 1, 1) := by decide +kernel
theorem dX8_prove_65 : decode cX8_prove 65 = .ok (.goto 4, 3) := by decide +kernel
theorem dX8_prove_68 : decode cX8_prove 68 = .ok (.iconst 0, 1) := by decide +kernel
theorem dX8_prove_69 : decode cX8_prove 69 = .ok (.bastore, 1) := by decide +kernel
theorem dX8_prove_70 : decode cX8_prove 70 = .ok (.iinc 3 1, 3) := by decide +kernel
theorem dX8_prove_73 : decode cX8_prove 73 = .ok (.goto (-36), 3) := by decide +kernel
theorem dX8_prove_76 : decode cX8_prove 76 = .ok (.aload_n 0, 1) := by decide +kernel
theorem dX8_prove_77 : decode cX8_prove 77 = .ok (.iload_n 1, 1) := by decide +kernel
theorem dX8_prove_78 : decode cX8_prove 78 = .ok (.putfield 179, 3) := by decide +kernel
theorem dX8_prove_81 : decode cX8_prove 81 = .ok (.aload_n 0, 1) := by decide +kernel
theorem dX8_prove_82 : decode cX8_prove 82 = .ok (.iload_n 2, 1) := by decide +kernel
theorem dX8_prove_83 : decode cX8_prove 83 = .ok (.putfield 182, 3) := by decide +kernel
theorem dX8_prove_86 : decode cX8_prove 86 = .ok (.aload_n 0, 1) := by decide +kernel
theorem dX8_prove_87 : decode cX8_prove 87 = .ok (.aload_n 0, 1) := by decide +kernel
theorem dX8_prove_88 : decode cX8_prove 88 = .ok (.getfield 56, 3) := by decide +kernel
theorem dX8_prove_91 : decode cX8_prove 91 = .ok (.iload_n 1, 1) := by decide +kernel
theorem dX8_prove_92 : decode cX8_prove 92 = .ok (.laload, 1) := by decide +kernel
theorem dX8_prove_93 : decode cX8_prove 93 = .ok (.putfield 185, 3) := by decide +kernel
theorem dX8_prove_96 : decode cX8_prove 96 = .ok (.aload_n 0, 1) := by decide +kernel
theorem dX8_prove_97 : decode cX8_prove 97 = .ok (.aload_n 0, 1) := by decide +kernel
theorem dX8_prove_98 : decode cX8_prove 98 = .ok (.getfield 56, 3) := by decide +kernel
theorem dX8_prove_101 : decode cX8_prove 101 = .ok (.iload_n 2, 1) := by decide +kernel
theorem dX8_prove_102 : decode cX8_prove 102 = .ok (.laload, 1) := by decide +kernel
theorem dX8_prove_103 : decode cX8_prove 103 = .ok (.putfield 189, 3) := by decide +kernel
theorem dX8_prove_106 : decode cX8_prove 106 = .ok (.aload_n 0, 1) := by decide +kernel
theorem dX8_prove_107 : decode cX8_prove 107 = .ok (.iconst 0, 1) := by decide +kernel
theorem dX8_prove_108 : decode cX8_prove 108 = .ok (.putfield 192, 3) := by decide +kernel
theorem dX8_prove_111 : decode cX8_prove 111 = .ok (.bipush 15, 2) := by decide +kernel
theorem dX8_prove_113 : decode cX8_prove 113 = .ok (.istore_n 3, 1) := by decide +kernel
theorem dX8_prove_114 : decode cX8_prove 114 = .ok (.iload_n 3, 1) := by decide +kernel
theorem dX8_prove_115 : decode cX8_prove 115 = .ok (.iconst 1, 1) := by decide +kernel
theorem dX8_prove_116 : decode cX8_prove 116 = .ok (.if_icmp .le 125, 3) := by decide +kernel
theorem dX8_prove_119 : decode cX8_prove 119 = .ok (.aload_n 0, 1) := by decide +kernel
theorem dX8_prove_120 : decode cX8_prove 120 = .ok (.getfield 71, 3) := by decide +kernel
theorem dX8_prove_123 : decode cX8_prove 123 = .ok (.iload_n 3, 1) := by decide +kernel
theorem dX8_prove_124 : decode cX8_prove 124 = .ok (.baload, 1) := by decide +kernel
theorem dX8_prove_125 : decode cX8_prove 125 = .ok (.aload_n 0, 1) := by decide +kernel
theorem dX8_prove_126 : decode cX8_prove 126 = .ok (.getfield 71, 3) := by decide +kernel
theorem dX8_prove_129 : decode cX8_prove 129 = .ok (.iload_n 3, 1) := by decide +kernel
theorem dX8_prove_130 : decode cX8_prove 130 = .ok (.iconst 1, 1) := by decide +kernel
theorem dX8_prove_131 : decode cX8_prove 131 = .ok (.isub, 1) := by decide +kernel
theorem dX8_prove_132 : decode cX8_prove 132 = .ok (.baload, 1) := by decide +kernel
theorem dX8_prove_133 : decode cX8_prove 133 = .ok (.if_icmp .eq 58, 3) := by decide +kernel
theorem dX8_prove_136 : decode cX8_prove 136 = .ok (.aload_n 0, 1) := by decide +kernel
theorem dX8_prove_137 : decode cX8_prove 137 = .ok (.getfield 71, 3) := by decide +kernel
theorem dX8_prove_140 : decode cX8_prove 140 = .ok (.iload_n 3, 1) := by decide +kernel
theorem dX8_prove_141 : decode cX8_prove 141 = .ok (.baload, 1) := by decide +kernel
theorem dX8_prove_142 : decode cX8_prove 142 = .ok (.ifCond .eq 9, 3) := by decide +kernel
