theorem dX7_init_0 : decode cX7_init 0 = .ok (.aload_n 0, 1) := by decide +kernel
theorem dX7_init_1 : decode cX7_init 1 = .ok (.invokespecial 3, 3) := by decide +kernel
theorem dX7_init_4 : decode cX7_init 4 = .ok (.aload_n 0, 1) := by decide +kernel
theorem dX7_init_5 : decode cX7_init 5 = .ok (.bipush 16, 2) := by decide +kernel
theorem dX7_init_7 : decode cX7_init 7 = .ok (.anewarray 9, 3) := by decide +kernel
theorem dX7_init_10 : decode cX7_init 10 = .ok (.putfield 11, 3) := by decide +kernel
theorem dX7_init_13 : decode cX7_init 13 = .ok (.aload_n 0, 1) := by decide +kernel
theorem dX7_init_14 : decode cX7_init 14 = .ok (.iconst 0, 1) := by decide +kernel
theorem dX7_init_15 : decode cX7_init 15 = .ok (.putfield 15, 3) := by decide +kernel
theorem dX7_init_18 : decode cX7_init 18 = .ok (.aload_n 0, 1) := by decide +kernel
theorem dX7_init_19 : decode cX7_init 19 = .ok (.new 19, 3) := by decide +kernel
theorem dX7_init_22 : decode cX7_init 22 = .ok (.dup, 1) := by decide +kernel
theorem dX7_init_23 : decode cX7_init 23 = .ok (.bipush 60, 2) := by decide +kernel
theorem dX7_init_25 : decode cX7_init 25 = .ok (.invokespecial 21, 3) := by decide +kernel
theorem dX7_init_28 : decode cX7_init 28 = .ok (.putfield 24, 3) := by decide +kernel
theorem dX7_init_31 : decode cX7_init 31 = .ok (.aload_n 0, 1) := by decide +kernel
theorem dX7_init_32 : decode cX7_init 32 = .ok (.iconst 4, 1) := by decide +kernel
theorem dX7_init_33 : decode cX7_init 33 = .ok (.newarray .int, 2) := by decide +kernel
theorem dX7_init_35 : decode cX7_init 35 = .ok (.dup, 1) := by decide +kernel
theorem dX7_init_36 : decode cX7_init 36 = .ok (.iconst 0, 1) := by decide +kernel
theorem dX7_init_37 : decode cX7_init 37 = .ok (.iconst 1, 1) := by decide +kernel
theorem dX7_init_38 : decode cX7_init 38 = .ok (.iastore, 1) := by decide +kernel
theorem dX7_init_39 : decode cX7_init 39 = .ok (.dup, 1) := by decide +kernel
theorem dX7_init_40 : decode cX7_init 40 = .ok (.iconst 1, 1) := by decide +kernel
theorem dX7_init_41 : decode cX7_init 41 = .ok (.iconst 3, 1) := by decide +kernel
theorem dX7_init_42 : decode cX7_init 42 = .ok (.iastore, 1) := by decide +kernel
theorem dX7_init_43 : decode cX7_init 43 = .ok (.dup, 1) := by decide +kernel
theorem dX7_init_44 : decode cX7_init 44 = .ok (.iconst 2, 1) := by decide +kernel
theorem dX7_init_45 : decode cX7_init 45 = .ok (.bipush 50, 2) := by decide +kernel
theorem dX7_init_47 : decode cX7_init 47 = .ok (.iastore, 1) := by decide +kernel
theorem dX7_init_48 : decode cX7_init 48 = .ok (.dup, 1) := by decide +kernel
theorem dX7_init_49 : decode cX7_init 49 = .ok (.iconst 3, 1) := by decide +kernel
theorem dX7_init_50 : decode cX7_init 50 = .ok (.iconst 4, 1) := by decide +kernel
theorem dX7_init_51 : decode cX7_init 51 = .ok (.iastore, 1) := by decide +kernel
theorem dX7_init_52 : decode cX7_init 52 = .ok (.putfield 28, 3) := by decide +kernel
theorem dX7_init_55 : decode cX7_init 55 = .ok (.aload_n 0, 1) := by decide +kernel
theorem dX7_init_56 : decode cX7_init 56 = .ok (.iconst 4, 1) := by decide +kernel
theorem dX7_init_57 : decode cX7_init 57 = .ok (.anewarray 32, 3) := by decide +kernel
theorem dX7_init_60 : decode cX7_init 60 = .ok (.putfield 34, 3) := by decide +kernel
theorem dX7_init_63 : decode cX7_init 63 = .ok (.aload_n 0, 1) := by decide +kernel
theorem dX7_init_64 : decode cX7_init 64 = .ok (.iconst 4, 1) := by decide +kernel
theorem dX7_init_65 : decode cX7_init 65 = .ok (.anewarray 38, 3) := by decide +kernel
theorem dX7_init_68 : decode cX7_init 68 = .ok (.putfield 40, 3) := by decide +kernel
theorem dX7_init_71 : decode cX7_init 71 = .ok (.aload_n 0, 1) := by decide +kernel
theorem dX7_init_72 : decode cX7_init 72 = .ok (.bipush 32, 2) := by decide +kernel
theorem dX7_init_74 : decode cX7_init 74 = .ok (.newarray .int, 2) := by decide +kernel
theorem dX7_init_76 : decode cX7_init 76 = .ok (.putfield 44, 3) := by decide +kernel
theorem dX7_init_79 : decode cX7_init 79 = .ok (.aload_n 0, 1) := by decide +kernel
theorem dX7_init_80 : decode cX7_init 80 = .ok (.new 47, 3) := by decide +kernel
theorem dX7_init_83 : decode cX7_init 83 = .ok (.dup, 1) := by decide +kernel
theorem dX7_init_84 : decode cX7_init 84 = .ok (.invokespecial 49, 3) := by decide +kernel
theorem dX7_init_87 : decode cX7_init 87 = .ok (.putfield 50, 3) := by decide +kernel
theorem dX7_init_90 : decode cX7_init 90 = .ok (.aload_n 0, 1) := by decide +kernel
theorem dX7_init_91 : decode cX7_init 91 = .ok (.new 54, 3) := by decide +kernel
theorem dX7_init_94 : decode cX7_init 94 = .ok (.dup, 1) := by decide +kernel
theorem dX7_init_95 : decode cX7_init 95 = .ok (.invokespecial 56, 3) := by decide +kernel
theorem dX7_init_98 : decode cX7_init 98 = .ok (.putfield 57, 3) := by decide +kernel
theorem dX7_init_101 : decode cX7_init 101 = .ok (.iconst 0, 1) := by decide +kernel
theorem dX7_init_102 : decode cX7_init 102 = .ok (.istore_n 1, 1) := by decide +kernel
theorem dX7_init_103 : decode cX7_init 103 = .ok (.iload_n 1, 1) := by decide +kernel
theorem dX7_init_104 : decode cX7_init 104 = .ok (.iconst 4, 1) := by decide +kernel
theorem dX7_init_105 : decode cX7_init 105 = .ok (.if_icmp .ge 22, 3) := by decide +kernel
theorem dX7_init_108 : decode cX7_init 108 = .ok (.aload_n 0, 1) := by decide +kernel
theorem dX7_init_109 : decode cX7_init 109 = .ok (.getfield 34, 3) := by decide +kernel
theorem dX7_init_112 : decode cX7_init 112 = .ok (.iload_n 1, 1) := by decide +kernel
theorem dX7_init_113 : decode cX7_init 113 = .ok (.new 32, 3) := by decide +kernel
theorem dX7_init_116 : decode cX7_init 116 = .ok (.dup, 1) := by decide +kernel
theorem dX7_init_117 : decode cX7_init 117 = .ok (.invokespecial 61, 3) := by decide +kernel
theorem dX7_init_120 : decode cX7_init 120 = .ok (.aastore, 1) := by decide +kernel
theorem dX7_init_121 : decode cX7_init 121 = .ok (.iinc 1 1, 3) := by decide +kernel
theorem dX7_init_124 : decode cX7_init 124 = .ok (.goto (-21), 3) := by decide +kernel
theorem dX7_init_127 : decode cX7_init 127 = .ok (.iconst 0, 1) := by decide +kernel
theorem dX7_init_128 : decode cX7_init 128 = .ok (.istore_n 1, 1) := by decide +kernel
theorem dX7_init_129 : decode cX7_init 129 = .ok (.iload_n 1, 1) := by decide +kernel
theorem dX7_init_130 : decode cX7_init 130 = .ok (.iconst 4, 1) := by decide +kernel
theorem dX7_init_131 : decode cX7_init 131 = .ok (.if_icmp .ge 22, 3) := by decide +kernel
theorem dX7_init_134 : decode cX7_init 134 = .ok (.aload_n 0, 1) := by decide +kernel
theorem dX7_init_135 : decode cX7_init 135 = .ok (.getfield 40, 3) := by decide +kernel
theorem dX7_init_138 : decode cX7_init 138 = .ok (.iload_n 1, 1) := by decide +kernel
theorem dX7_init_139 : decode cX7_init 139 = .ok (.new 38, 3) := by decide +kernel
theorem dX7_init_142 : decode cX7_init 142 = .ok (.dup, 1) := by decide +kernel
theorem dX7_init_143 : decode cX7_init 143 = .ok (.invokespecial 62, 3) := by decide +kernel
theorem dX7_init_146 : decode cX7_init 146 = .ok (.aastore, 1) := by decide +kernel
theorem dX7_init_147 : decode cX7_init 147 = .ok (.iinc 1 1, 3) := by decide +kernel
theorem dX7_init_150 : decode cX7_init 150 = .ok (.goto (-21), 3) := by decide +kernel
theorem dX7_init_153 : decode cX7_init 153 = .ok (.aload_n 0, 1) := by decide +kernel
theorem dX7_init_154 : decode cX7_init 154 = .ok (.getfield 57, 3) := by decide +kernel
theorem dX7_init_157 : decode cX7_init 157 = .ok (.aload_n 0, 1) := by decide +kernel
theorem dX7_init_158 : decode cX7_init 158 = .ok (.getfield 50, 3) := by decide +kernel
theorem dX7_init_161 : decode cX7_init 161 = .ok (.iconst 0, 1) := by decide +kernel
theorem dX7_init_162 : decode cX7_init 162 = .ok (.iconst 1, 1) := by decide +kernel
theorem dX7_init_163 : decode cX7_init 163 = .ok (.invokevirtual 63, 3) := by decide +kernel
theorem dX7_init_166 : decode cX7_init 166 = .ok (.return_, 1) := by decide +kernel
theorem dX7_set_0 : decode cX7_set 0 = .ok (.lload_n 1, 1) := by decide +kernel
theorem dX7_set_1 : decode cX7_set 1 = .ok (.invokestatic 67, 3) := by decide +kernel
theorem dX7_set_4 : decode cX7_set 4 = .ok (.ifCond .eq 10, 3) := by decide +kernel
theorem dX7_set_7 : decode cX7_set 7 = .ok (.lload_n 3, 1) := by decide +kernel
theorem dX7_set_8 : decode cX7_set 8 = .ok (.invokestatic 67, 3) := by decide +kernel
theorem dX7_set_11 : decode cX7_set 11 = .ok (.ifCond .ne 5, 3) := by decide +kernel
theorem dX7_set_14 : decode cX7_set 14 = .ok (.iconst (-1), 1) := by decide +kernel
theorem dX7_set_15 : decode cX7_set 15 = .ok (.ireturn, 1) := by decide +kernel
theorem dX7_set_16 : decode cX7_set 16 = .ok (.aload_n 0, 1) := by decide +kernel
theorem dX7_set_17 : decode cX7_set 17 = .ok (.getfield 15, 3) := by decide +kernel
theorem dX7_set_20 : decode cX7_set 20 = .ok (.bipush 16, 2) := by decide +kernel
theorem dX7_set_22 : decode cX7_set 22 = .ok (.if_icmp .lt 6, 3) := by decide +kernel
theorem dX7_set_25 : decode cX7_set 25 = .ok (.bipush (-3), 2) := by decide +kernel
theorem dX7_set_27 : decode cX7_set 27 = .ok (.ireturn, 1) := by decide +kernel
theorem dX7_set_28 : decode cX7_set 28 = .ok (.aload_n 0, 1) := by decide +kernel
theorem dX7_set_29 : decode cX7_set 29 = .ok (.getfield 11, 3) := by decide +kernel
theorem dX7_set_32 : decode cX7_set 32 = .ok (.aload_n 0, 1) := by decide +kernel
theorem dX7_set_33 : decode cX7_set 33 = .ok (.getfield 15, 3) := by decide +kernel
theorem dX7_set_36 : decode cX7_set 36 = .ok (.new 9, 3) := by decide +kernel
theorem dX7_set_39 : decode cX7_set 39 = .ok (.dup, 1) := by decide +kernel
theorem dX7_set_40 : decode cX7_set 40 = .ok (.aload_n 0, 1) := by decide +kernel
theorem dX7_set_41 : decode cX7_set 41 = .ok (.getfield 15, 3) := by decide +kernel
theorem dX7_set_44 : decode cX7_set 44 = .ok (.lload_n 1, 1) := by decide +kernel
theorem dX7_set_45 : decode cX7_set 45 = .ok (.lload_n 3, 1) := by decide +kernel
theorem dX7_set_46 : decode cX7_set 46 = .ok (.invokespecial 71, 3) := by decide +kernel
theorem dX7_set_49 : decode cX7_set 49 = .ok (.aastore, 1) := by decide +kernel
theorem dX7_set_50 : decode cX7_set 50 = .ok (.aload_n 0, 1) := by decide +kernel
theorem dX7_set_51 : decode cX7_set 51 = .ok (.dup, 1) := by decide +kernel
theorem dX7_set_52 : decode cX7_set 52 = .ok (.getfield 15, 3) := by decide +kernel
theorem dX7_set_55 : decode cX7_set 55 = .ok (.iconst 1, 1) := by decide +kernel
theorem dX7_set_56 : decode cX7_set 56 = .ok (.iadd, 1) := by decide +kernel
theorem dX7_set_57 : decode cX7_set 57 = .ok (.putfield 15, 3) := by decide +kernel
theorem dX7_set_60 : decode cX7_set 60 = .ok (.aload_n 0, 1) := by decide +kernel
theorem dX7_set_61 : decode cX7_set 61 = .ok (.getfield 15, 3) := by decide +kernel
theorem dX7_set_64 : decode cX7_set 64 = .ok (.iconst 1, 1) := by decide +kernel
theorem dX7_set_65 : decode cX7_set 65 = .ok (.isub, 1) := by decide +kernel
theorem dX7_set_66 : decode cX7_set 66 = .ok (.ireturn, 1) := by decide +kernel
theorem dX7_head_0 : decode cX7_head 0 = .ok (.aload_n 0, 1) := by decide +kernel
theorem dX7_head_1 : decode cX7_head 1 = .ok (.iload 4, 2) := by decide +kernel
theorem dX7_head_3 : decode cX7_head 3 = .ok (.invokevirtual 74, 3) := by decide +kernel
theorem dX7_head_6 : decode cX7_head 6 = .ok (.astore 8, 2) := by decide +kernel
theorem dX7_head_8 : decode cX7_head 8 = .ok (.aload_n 0, 1) := by decide +kernel
theorem dX7_head_9 : decode cX7_head 9 = .ok (.iload 5, 2) := by decide +kernel
theorem dX7_head_11 : decode cX7_head 11 = .ok (.invokevirtual 74, 3) := by decide +kernel
theorem dX7_head_14 : decode cX7_head 14 = .ok (.astore 9, 2) := by decide +kernel
theorem dX7_head_16 : decode cX7_head 16 = .ok (.iload_n 1, 1) := by decide +kernel
theorem dX7_head_17 : decode cX7_head 17 = .ok (.invokestatic 78, 3) := by decide +kernel
theorem dX7_head_20 : decode cX7_head 20 = .ok (.ifCond .eq 13, 3) := by decide +kernel
theorem dX7_head_23 : decode cX7_head 23 = .ok (.aload 8, 2) := by decide +kernel
theorem dX7_head_25 : decode cX7_head 25 = .ok (.ifnull 8, 3) := by decide +kernel
theorem dX7_head_28 : decode cX7_head 28 = .ok (.aload 9, 2) := by decide +kernel
theorem dX7_head_30 : decode cX7_head 30 = .ok (.ifnonnull 5, 3) := by decide +kernel
theorem dX7_head_33 : decode cX7_head 33 = .ok (.iconst (-1), 1) := by decide +kernel
theorem dX7_head_34 : decode cX7_head 34 = .ok (.ireturn, 1) := by decide +kernel
theorem dX7_head_35 : decode cX7_head 35 = .ok (.aload_n 0, 1) := by decide +kernel
theorem dX7_head_36 : decode cX7_head 36 = .ok (.getfield 24, 3) := by decide +kernel
theorem dX7_head_39 : decode cX7_head 39 = .ok (.invokevirtual 82, 3) := by decide +kernel
theorem dX7_head_42 : decode cX7_head 42 = .ok (.ifCond .eq 6, 3) := by decide +kernel
theorem dX7_head_45 : decode cX7_head 45 = .ok (.bipush (-3), 2) := by decide +kernel
theorem dX7_head_47 : decode cX7_head 47 = .ok (.ireturn, 1) := by decide +kernel
theorem dX7_head_48 : decode cX7_head 48 = .ok (.aload_n 0, 1) := by decide +kernel
theorem dX7_head_49 : decode cX7_head 49 = .ok (.getfield 24, 3) := by decide +kernel
theorem dX7_head_52 : decode cX7_head 52 = .ok (.getfield 86, 3) := by decide +kernel
theorem dX7_head_55 : decode cX7_head 55 = .ok (.istore 10, 2) := by decide +kernel
theorem dX7_head_57 : decode cX7_head 57 = .ok (.aload_n 0, 1) := by decide +kernel
theorem dX7_head_58 : decode cX7_head 58 = .ok (.getfield 24, 3) := by decide +kernel
theorem dX7_head_61 : decode cX7_head 61 = .ok (.new 89, 3) := by decide +kernel
theorem dX7_head_64 : decode cX7_head 64 = .ok (.dup, 1) := by decide +kernel
theorem dX7_head_65 : decode cX7_head 65 = .ok (.iload 10, 2) := by decide +kernel
theorem dX7_head_67 : decode cX7_head 67 = .ok (.iload_n 1, 1) := by decide +kernel
theorem dX7_head_68 : decode cX7_head 68 = .ok (.lload_n 2, 1) := by decide +kernel
theorem dX7_head_69 : decode cX7_head 69 = .ok (.aload 8, 2) := by decide +kernel
theorem dX7_head_71 : decode cX7_head 71 = .ok (.aload 9, 2) := by decide +kernel
theorem dX7_head_73 : decode cX7_head 73 = .ok (.lload 6, 2) := by decide +kernel
theorem dX7_head_75 : decode cX7_head 75 = .ok (.invokespecial 91, 3) := by decide +kernel
theorem dX7_head_78 : decode cX7_head 78 = .ok (.invokevirtual 94, 3) := by decide +kernel
theorem dX7_head_81 : decode cX7_head 81 = .ok (.iload 10, 2) := by decide +kernel
theorem dX7_head_83 : decode cX7_head 83 = .ok (.ireturn, 1) := by decide +kernel
theorem dX7_sign_0 : decode cX7_sign 0 = .ok (.aload_n 0, 1) := by decide +kernel
theorem dX7_sign_1 : decode cX7_sign 1 = .ok (.getfield 24, 3) := by decide +kernel
theorem dX7_sign_4 : decode cX7_sign 4 = .ok (.iload_n 1, 1) := by decide +kernel
theorem dX7_sign_5 : decode cX7_sign 5 = .ok (.invokevirtual 98, 3) := by decide +kernel
theorem dX7_sign_8 : decode cX7_sign 8 = .ok (.astore_n 3, 1) := by decide +kernel
theorem dX7_sign_9 : decode cX7_sign 9 = .ok (.aload_n 3, 1) := by decide +kernel
theorem dX7_sign_10 : decode cX7_sign 10 = .ok (.ifnull 13, 3) := by decide +kernel
theorem dX7_sign_13 : decode cX7_sign 13 = .ok (.iload_n 2, 1) := by decide +kernel
theorem dX7_sign_14 : decode cX7_sign 14 = .ok (.ifCond .lt 9, 3) := by decide +kernel
theorem dX7_sign_17 : decode cX7_sign 17 = .ok (.iload_n 2, 1) := by decide +kernel
theorem dX7_sign_18 : decode cX7_sign 18 = .ok (.bipush 10, 2) := by decide +kernel
theorem dX7_sign_20 : decode cX7_sign 20 = .ok (.if_icmp .lt 5, 3) := by decide +kernel
theorem dX7_sign_23 : decode cX7_sign 23 = .ok (.iconst (-1), 1) := by decide +kernel
theorem dX7_sign_24 : decode cX7_sign 24 = .ok (.ireturn, 1) := by decide +kernel
theorem dX7_sign_25 : decode cX7_sign 25 = .ok (.iconst 1, 1) := by decide +kernel
theorem dX7_sign_26 : decode cX7_sign 26 = .ok (.iload_n 2, 1) := by decide +kernel
theorem dX7_sign_27 : decode cX7_sign 27 = .ok (.ishl, 1) := by decide +kernel
theorem dX7_sign_28 : decode cX7_sign 28 = .ok (.istore 4, 2) := by decide +kernel
theorem dX7_sign_30 : decode cX7_sign 30 = .ok (.aload_n 3, 1) := by decide +kernel
theorem dX7_sign_31 : decode cX7_sign 31 = .ok (.getfield 102, 3) := by decide +kernel
theorem dX7_sign_34 : decode cX7_sign 34 = .ok (.iload 4, 2) := by decide +kernel
theorem dX7_sign_36 : decode cX7_sign 36 = .ok (.iand, 1) := by decide +kernel
theorem dX7_sign_37 : decode cX7_sign 37 = .ok (.ifCond .eq 5, 3) := by decide +kernel
theorem dX7_sign_40 : decode cX7_sign 40 = .ok (.iconst 0, 1) := by decide +kernel
theorem dX7_sign_41 : decode cX7_sign 41 = .ok (.ireturn, 1) := by decide +kernel
theorem dX7_sign_42 : decode cX7_sign 42 = .ok (.aload_n 3, 1) := by decide +kernel
theorem dX7_sign_43 : decode cX7_sign 43 = .ok (.dup, 1) := by decide +kernel
theorem dX7_sign_44 : decode cX7_sign 44 = .ok (.getfield 102, 3) := by decide +kernel
theorem dX7_sign_47 : decode cX7_sign 47 = .ok (.iload 4, 2) := by decide +kernel
theorem dX7_sign_49 : decode cX7_sign 49 = .ok (.ior, 1) := by decide +kernel
theorem dX7_sign_50 : decode cX7_sign 50 = .ok (.putfield 102, 3) := by decide +kernel
theorem dX7_sign_53 : decode cX7_sign 53 = .ok (.iconst 1, 1) := by decide +kernel
theorem dX7_sign_54 : decode cX7_sign 54 = .ok (.ireturn, 1) := by decide +kernel
theorem dX7_term_0 : decode cX7_term 0 = .ok (.iload_n 1, 1) := by decide +kernel
theorem dX7_term_1 : decode cX7_term 1 = .ok (.ifCond .lt 26, 3) := by decide +kernel
theorem dX7_term_4 : decode cX7_term 4 = .ok (.iload_n 1, 1) := by decide +kernel
theorem dX7_term_5 : decode cX7_term 5 = .ok (.iconst 4, 1) := by decide +kernel
theorem dX7_term_6 : decode cX7_term 6 = .ok (.if_icmp .ge 21, 3) := by decide +kernel
theorem dX7_term_9 : decode cX7_term 9 = .ok (.iload_n 2, 1) := by decide +kernel
theorem dX7_term_10 : decode cX7_term 10 = .ok (.getstatic 105, 3) := by decide +kernel
theorem dX7_term_13 : decode cX7_term 13 = .ok (.iload_n 1, 1) := by decide +kernel
theorem dX7_term_14 : decode cX7_term 14 = .ok (.iaload, 1) := by decide +kernel
theorem dX7_term_15 : decode cX7_term 15 = .ok (.if_icmp .lt 12, 3) := by decide +kernel
theorem dX7_term_18 : decode cX7_term 18 = .ok (.iload_n 2, 1) := by decide +kernel
theorem dX7_term_19 : decode cX7_term 19 = .ok (.getstatic 108, 3) := by decide +kernel
theorem dX7_term_22 : decode cX7_term 22 = .ok (.iload_n 1, 1) := by decide +kernel
theorem dX7_term_23 : decode cX7_term 23 = .ok (.iaload, 1) := by decide +kernel
theorem dX7_term_24 : decode cX7_term 24 = .ok (.if_icmp .le 5, 3) := by decide +kernel
theorem dX7_term_27 : decode cX7_term 27 = .ok (.iconst (-1), 1) := by decide +kernel
theorem dX7_term_28 : decode cX7_term 28 = .ok (.ireturn, 1) := by decide +kernel
theorem dX7_term_29 : decode cX7_term 29 = .ok (.aload_n 0, 1) := by decide +kernel
theorem dX7_term_30 : decode cX7_term 30 = .ok (.getfield 28, 3) := by decide +kernel
theorem dX7_term_33 : decode cX7_term 33 = .ok (.iload_n 1, 1) := by decide +kernel
theorem dX7_term_34 : decode cX7_term 34 = .ok (.iaload, 1) := by decide +kernel
theorem dX7_term_35 : decode cX7_term 35 = .ok (.istore_n 3, 1) := by decide +kernel
theorem dX7_term_36 : decode cX7_term 36 = .ok (.aload_n 0, 1) := by decide +kernel
theorem dX7_term_37 : decode cX7_term 37 = .ok (.getfield 28, 3) := by decide +kernel
theorem dX7_term_40 : decode cX7_term 40 = .ok (.iload_n 1, 1) := by decide +kernel
theorem dX7_term_41 : decode cX7_term 41 = .ok (.iload_n 2, 1) := by decide +kernel
theorem dX7_term_42 : decode cX7_term 42 = .ok (.iastore, 1) := by decide +kernel
theorem dX7_term_43 : decode cX7_term 43 = .ok (.iload_n 3, 1) := by decide +kernel
theorem dX7_term_44 : decode cX7_term 44 = .ok (.ireturn, 1) := by decide +kernel
theorem dX7_digest_0 : decode cX7_digest 0 = .ok (.aload_n 0, 1) := by decide +kernel
theorem dX7_digest_1 : decode cX7_digest 1 = .ok (.getfield 24, 3) := by decide +kernel
theorem dX7_digest_4 : decode cX7_digest 4 = .ok (.iload_n 1, 1) := by decide +kernel
theorem dX7_digest_5 : decode cX7_digest 5 = .ok (.invokevirtual 98, 3) := by decide +kernel
theorem dX7_digest_8 : decode cX7_digest 8 = .ok (.astore_n 2, 1) := by decide +kernel
theorem dX7_digest_9 : decode cX7_digest 9 = .ok (.aload_n 2, 1) := by decide +kernel
theorem dX7_digest_10 : decode cX7_digest 10 = .ok (.ifnonnull 7, 3) := by decide +kernel
theorem dX7_digest_13 : decode cX7_digest 13 = .ok (.lconst 0, 1) := by decide +kernel
theorem dX7_digest_14 : decode cX7_digest 14 = .ok (.goto 7, 3) := by decide +kernel
theorem dX7_digest_17 : decode cX7_digest 17 = .ok (.aload_n 2, 1) := by decide +kernel
theorem dX7_digest_18 : decode cX7_digest 18 = .ok (.getfield 111, 3) := by decide +kernel
theorem dX7_digest_21 : decode cX7_digest 21 = .ok (.lreturn, 1) := by decide +kernel
theorem dX7_certified_0 : decode cX7_certified 0 = .ok (.aload_n 0, 1) := by decide +kernel
theorem dX7_certified_1 : decode cX7_certified 1 = .ok (.getfield 24, 3) := by decide +kernel
theorem dX7_certified_4 : decode cX7_certified 4 = .ok (.iload_n 1, 1) := by decide +kernel
theorem dX7_certified_5 : decode cX7_certified 5 = .ok (.invokevirtual 98, 3) := by decide +kernel
theorem dX7_certified_8 : decode cX7_certified 8 = .ok (.astore_n 2, 1) := by decide +kernel
theorem dX7_certified_9 : decode cX7_certified 9 = .ok (.aload_n 2, 1) := by decide +kernel
theorem dX7_certified_10 : decode cX7_certified 10 = .ok (.ifnonnull 5, 3) := by decide +kernel
theorem dX7_certified_13 : decode cX7_certified 13 = .ok (.iconst (-1), 1) := by decide +kernel
theorem dX7_certified_14 : decode cX7_certified 14 = .ok (.ireturn, 1) := by decide +kernel
theorem dX7_certified_15 : decode cX7_certified 15 = .ok (.aload_n 2, 1) := by decide +kernel
theorem dX7_certified_16 : decode cX7_certified 16 = .ok (.invokestatic 115, 3) := by decide +kernel
theorem dX7_certified_19 : decode cX7_certified 19 = .ok (.ifCond .eq 7, 3) := by decide +kernel
theorem dX7_certified_22 : decode cX7_certified 22 = .ok (.iconst 1, 1) := by decide +kernel
theorem dX7_certified_23 : decode cX7_certified 23 = .ok (.goto 4, 3) := by decide +kernel
theorem dX7_certified_26 : decode cX7_certified 26 = .ok (.iconst 0, 1) := by decide +kernel
theorem dX7_certified_27 : decode cX7_certified 27 = .ok (.ireturn, 1) := by decide +kernel
theorem dX7_overlaps_0 : decode cX7_overlaps 0 = .ok (.aload_n 0, 1) := by decide +kernel
theorem dX7_overlaps_1 : decode cX7_overlaps 1 = .ok (.getfield 24, 3) := by decide +kernel
theorem dX7_overlaps_4 : decode cX7_overlaps 4 = .ok (.iload_n 1, 1) := by decide +kernel
theorem dX7_overlaps_5 : decode cX7_overlaps 5 = .ok (.invokevirtual 98, 3) := by decide +kernel
theorem dX7_overlaps_8 : decode cX7_overlaps 8 = .ok (.astore_n 3, 1) := by decide +kernel
theorem dX7_overlaps_9 : decode cX7_overlaps 9 = .ok (.aload_n 0, 1) := by decide +kernel
theorem dX7_overlaps_10 : decode cX7_overlaps 10 = .ok (.iload_n 2, 1) := by decide +kernel
theorem dX7_overlaps_11 : decode cX7_overlaps 11 = .ok (.invokevirtual 74, 3) := by decide +kernel
theorem dX7_overlaps_14 : decode cX7_overlaps 14 = .ok (.astore 4, 2) := by decide +kernel
theorem dX7_overlaps_16 : decode cX7_overlaps 16 = .ok (.aload_n 3, 1) := by decide +kernel
theorem dX7_overlaps_17 : decode cX7_overlaps 17 = .ok (.ifnull 8, 3) := by decide +kernel
theorem dX7_overlaps_20 : decode cX7_overlaps 20 = .ok (.aload 4, 2) := by decide +kernel
theorem dX7_overlaps_22 : decode cX7_overlaps 22 = .ok (.ifnonnull 5, 3) := by decide +kernel
theorem dX7_overlaps_25 : decode cX7_overlaps 25 = .ok (.iconst (-1), 1) := by decide +kernel
theorem dX7_overlaps_26 : decode cX7_overlaps 26 = .ok (.ireturn, 1) := by decide +kernel
theorem dX7_overlaps_27 : decode cX7_overlaps 27 = .ok (.aload_n 0, 1) := by decide +kernel
theorem dX7_overlaps_28 : decode cX7_overlaps 28 = .ok (.aload_n 3, 1) := by decide +kernel
theorem dX7_overlaps_29 : decode cX7_overlaps 29 = .ok (.aload 4, 2) := by decide +kernel
theorem dX7_overlaps_31 : decode cX7_overlaps 31 = .ok (.invokevirtual 119, 3) := by decide +kernel
theorem dX7_overlaps_34 : decode cX7_overlaps 34 = .ok (.ifCond .eq 7, 3) := by decide +kernel
theorem dX7_overlaps_37 : decode cX7_overlaps 37 = .ok (.iconst 1, 1) := by decide +kernel
theorem dX7_overlaps_38 : decode cX7_overlaps 38 = .ok (.goto 4, 3) := by decide +kernel
theorem dX7_overlaps_41 : decode cX7_overlaps 41 = .ok (.iconst 0, 1) := by decide +kernel
theorem dX7_overlaps_42 : decode cX7_overlaps 42 = .ok (.ireturn, 1) := by decide +kernel
theorem dX7_start_0 : decode cX7_start 0 = .ok (.aload_n 0, 1) := by decide +kernel
theorem dX7_start_1 : decode cX7_start 1 = .ok (.iload_n 1, 1) := by decide +kernel
theorem dX7_start_2 : decode cX7_start 2 = .ok (.invokevirtual 123, 3) := by decide +kernel
theorem dX7_start_5 : decode cX7_start 5 = .ok (.astore_n 3, 1) := by decide +kernel
theorem dX7_start_6 : decode cX7_start 6 = .ok (.aload_n 0, 1) := by decide +kernel
theorem dX7_start_7 : decode cX7_start 7 = .ok (.getfield 24, 3) := by decide +kernel
theorem dX7_start_10 : decode cX7_start 10 = .ok (.iload_n 2, 1) := by decide +kernel
theorem dX7_start_11 : decode cX7_start 11 = .ok (.invokevirtual 98, 3) := by decide +kernel
theorem dX7_start_14 : decode cX7_start 14 = .ok (.astore 4, 2) := by decide +kernel
theorem dX7_start_16 : decode cX7_start 16 = .ok (.aload_n 3, 1) := by decide +kernel
theorem dX7_start_17 : decode cX7_start 17 = .ok (.ifnull 8, 3) := by decide +kernel
theorem dX7_start_20 : decode cX7_start 20 = .ok (.aload 4, 2) := by decide +kernel
theorem dX7_start_22 : decode cX7_start 22 = .ok (.ifnonnull 5, 3) := by decide +kernel
theorem dX7_start_25 : decode cX7_start 25 = .ok (.iconst (-1), 1) := by decide +kernel
theorem dX7_start_26 : decode cX7_start 26 = .ok (.ireturn, 1) := by decide +kernel
theorem dX7_start_27 : decode cX7_start 27 = .ok (.aload_n 3, 1) := by decide +kernel
theorem dX7_start_28 : decode cX7_start 28 = .ok (.aload 4, 2) := by decide +kernel
theorem dX7_start_30 : decode cX7_start 30 = .ok (.invokevirtual 127, 3) := by decide +kernel
theorem dX7_start_33 : decode cX7_start 33 = .ok (.iconst 1, 1) := by decide +kernel
theorem dX7_start_34 : decode cX7_start 34 = .ok (.ireturn, 1) := by decide +kernel
theorem dX7_follow_0 : decode cX7_follow 0 = .ok (.aload_n 0, 1) := by decide +kernel
theorem dX7_follow_1 : decode cX7_follow 1 = .ok (.iload_n 1, 1) := by decide +kernel
theorem dX7_follow_2 : decode cX7_follow 2 = .ok (.invokevirtual 123, 3) := by decide +kernel
theorem dX7_follow_5 : decode cX7_follow 5 = .ok (.astore_n 3, 1) := by decide +kernel
theorem dX7_follow_6 : decode cX7_follow 6 = .ok (.aload_n 0, 1) := by decide +kernel
theorem dX7_follow_7 : decode cX7_follow 7 = .ok (.getfield 24, 3) := by decide +kernel
theorem dX7_follow_10 : decode cX7_follow 10 = .ok (.iload_n 2, 1) := by decide +kernel
theorem dX7_follow_11 : decode cX7_follow 11 = .ok (.invokevirtual 98, 3) := by decide +kernel
theorem dX7_follow_14 : decode cX7_follow 14 = .ok (.astore 4, 2) := by decide +kernel
theorem dX7_follow_16 : decode cX7_follow 16 = .ok (.aload_n 3, 1) := by decide +kernel
theorem dX7_follow_17 : decode cX7_follow 17 = .ok (.ifnull 8, 3) := by decide +kernel
theorem dX7_follow_20 : decode cX7_follow 20 = .ok (.aload 4, 2) := by decide +kernel
theorem dX7_follow_22 : decode cX7_follow 22 = .ok (.ifnonnull 5, 3) := by decide +kernel
theorem dX7_follow_25 : decode cX7_follow 25 = .ok (.iconst (-1), 1) := by decide +kernel
theorem dX7_follow_26 : decode cX7_follow 26 = .ok (.ireturn, 1) := by decide +kernel
theorem dX7_follow_27 : decode cX7_follow 27 = .ok (.aload_n 3, 1) := by decide +kernel
theorem dX7_follow_28 : decode cX7_follow 28 = .ok (.invokevirtual 130, 3) := by decide +kernel
theorem dX7_follow_31 : decode cX7_follow 31 = .ok (.astore 5, 2) := by decide +kernel
theorem dX7_follow_33 : decode cX7_follow 33 = .ok (.aload 5, 2) := by decide +kernel
theorem dX7_follow_35 : decode cX7_follow 35 = .ok (.ifnonnull 6, 3) := by decide +kernel
theorem dX7_follow_38 : decode cX7_follow 38 = .ok (.bipush (-2), 2) := by decide +kernel
theorem dX7_follow_40 : decode cX7_follow 40 = .ok (.ireturn, 1) := by decide +kernel
theorem dX7_follow_41 : decode cX7_follow 41 = .ok (.aload_n 0, 1) := by decide +kernel
theorem dX7_follow_42 : decode cX7_follow 42 = .ok (.aload 5, 2) := by decide +kernel
theorem dX7_follow_44 : decode cX7_follow 44 = .ok (.aload 4, 2) := by decide +kernel
theorem dX7_follow_46 : decode cX7_follow 46 = .ok (.invokevirtual 134, 3) := by decide +kernel
theorem dX7_follow_49 : decode cX7_follow 49 = .ok (.istore 6, 2) := by decide +kernel
theorem dX7_follow_51 : decode cX7_follow 51 = .ok (.iload 6, 2) := by decide +kernel
theorem dX7_follow_53 : decode cX7_follow 53 = .ok (.ifCond .eq 15, 3) := by decide +kernel
theorem dX7_follow_56 : decode cX7_follow 56 = .ok (.aload_n 3, 1) := by decide +kernel
theorem dX7_follow_57 : decode cX7_follow 57 = .ok (.iload 6, 2) := by decide +kernel
theorem dX7_follow_59 : decode cX7_follow 59 = .ok (.aload 4, 2) := by decide +kernel
theorem dX7_follow_61 : decode cX7_follow 61 = .ok (.getfield 138, 3) := by decide +kernel
theorem dX7_follow_64 : decode cX7_follow 64 = .ok (.invokevirtual 141, 3) := by decide +kernel
theorem dX7_follow_67 : decode cX7_follow 67 = .ok (.ireturn, 1) := by decide +kernel
theorem dX7_follow_68 : decode cX7_follow 68 = .ok (.aload_n 3, 1) := by decide +kernel
theorem dX7_follow_69 : decode cX7_follow 69 = .ok (.aload 4, 2) := by decide +kernel
theorem dX7_follow_71 : decode cX7_follow 71 = .ok (.aload_n 0, 1) := by decide +kernel
theorem dX7_follow_72 : decode cX7_follow 72 = .ok (.getfield 28, 3) := by decide +kernel
theorem dX7_follow_75 : decode cX7_follow 75 = .ok (.iconst 3, 1) := by decide +kernel
theorem dX7_follow_76 : decode cX7_follow 76 = .ok (.iaload, 1) := by decide +kernel
theorem dX7_follow_77 : decode cX7_follow 77 = .ok (.invokevirtual 145, 3) := by decide +kernel
theorem dX7_follow_80 : decode cX7_follow 80 = .ok (.iconst 1, 1) := by decide +kernel
theorem dX7_follow_81 : decode cX7_follow 81 = .ok (.ireturn, 1) := by decide +kernel
theorem dX7_give_0 : decode cX7_give 0 = .ok (.aload_n 0, 1) := by decide +kernel
theorem dX7_give_1 : decode cX7_give 1 = .ok (.iload_n 1, 1) := by decide +kernel
theorem dX7_give_2 : decode cX7_give 2 = .ok (.invokevirtual 149, 3) := by decide +kernel
theorem dX7_give_5 : decode cX7_give 5 = .ok (.astore_n 3, 1) := by decide +kernel
theorem dX7_give_6 : decode cX7_give 6 = .ok (.aload_n 0, 1) := by decide +kernel
theorem dX7_give_7 : decode cX7_give 7 = .ok (.getfield 24, 3) := by decide +kernel
theorem dX7_give_10 : decode cX7_give 10 = .ok (.iload_n 2, 1) := by decide +kernel
theorem dX7_give_11 : decode cX7_give 11 = .ok (.invokevirtual 98, 3) := by decide +kernel
theorem dX7_give_14 : decode cX7_give 14 = .ok (.astore 4, 2) := by decide +kernel
theorem dX7_give_16 : decode cX7_give 16 = .ok (.aload_n 3, 1) := by decide +kernel
theorem dX7_give_17 : decode cX7_give 17 = .ok (.ifnull 8, 3) := by decide +kernel
theorem dX7_give_20 : decode cX7_give 20 = .ok (.aload 4, 2) := by decide +kernel
theorem dX7_give_22 : decode cX7_give 22 = .ok (.ifnonnull 5, 3) := by decide +kernel
theorem dX7_give_25 : decode cX7_give 25 = .ok (.iconst (-1), 1) := by decide +kernel
theorem dX7_give_26 : decode cX7_give 26 = .ok (.ireturn, 1) := by decide +kernel
theorem dX7_give_27 : decode cX7_give 27 = .ok (.aload_n 3, 1) := by decide +kernel
theorem dX7_give_28 : decode cX7_give 28 = .ok (.aload 4, 2) := by decide +kernel
theorem dX7_give_30 : decode cX7_give 30 = .ok (.invokevirtual 153, 3) := by decide +kernel
theorem dX7_give_33 : decode cX7_give 33 = .ok (.astore 5, 2) := by decide +kernel
theorem dX7_give_35 : decode cX7_give 35 = .ok (.aload 5, 2) := by decide +kernel
theorem dX7_give_37 : decode cX7_give 37 = .ok (.ifnonnull 8, 3) := by decide +kernel
theorem dX7_give_40 : decode cX7_give 40 = .ok (.bipush (-2), 2) := by decide +kernel
theorem dX7_give_42 : decode cX7_give 42 = .ok (.goto 8, 3) := by decide +kernel
theorem dX7_give_45 : decode cX7_give 45 = .ok (.aload 5, 2) := by decide +kernel
theorem dX7_give_47 : decode cX7_give 47 = .ok (.getfield 157, 3) := by decide +kernel
theorem dX7_give_50 : decode cX7_give 50 = .ok (.ireturn, 1) := by decide +kernel
theorem dX7_seek_0 : decode cX7_seek 0 = .ok (.aload_n 0, 1) := by decide +kernel
theorem dX7_seek_1 : decode cX7_seek 1 = .ok (.iload_n 1, 1) := by decide +kernel
theorem dX7_seek_2 : decode cX7_seek 2 = .ok (.invokevirtual 123, 3) := by decide +kernel
theorem dX7_seek_5 : decode cX7_seek 5 = .ok (.astore 4, 2) := by decide +kernel
theorem dX7_seek_7 : decode cX7_seek 7 = .ok (.aload_n 0, 1) := by decide +kernel
theorem dX7_seek_8 : decode cX7_seek 8 = .ok (.iload_n 2, 1) := by decide +kernel
theorem dX7_seek_9 : decode cX7_seek 9 = .ok (.invokevirtual 149, 3) := by decide +kernel
theorem dX7_seek_12 : decode cX7_seek 12 = .ok (.astore 5, 2) := by decide +kernel
theorem dX7_seek_14 : decode cX7_seek 14 = .ok (.aload 4, 2) := by decide +kernel
theorem dX7_seek_16 : decode cX7_seek 16 = .ok (.ifnull 15, 3) := by decide +kernel
theorem dX7_seek_19 : decode cX7_seek 19 = .ok (.aload 5, 2) := by decide +kernel
theorem dX7_seek_21 : decode cX7_seek 21 = .ok (.ifnull 10, 3) := by decide +kernel
theorem dX7_seek_24 : decode cX7_seek 24 = .ok (.iload_n 3, 1) := by decide +kernel
theorem dX7_seek_25 : decode cX7_seek 25 = .ok (.invokestatic 78, 3) := by decide +kernel
theorem dX7_seek_28 : decode cX7_seek 28 = .ok (.ifCond .ne 5, 3) := by decide +kernel
theorem dX7_seek_31 : decode cX7_seek 31 = .ok (.iconst (-1), 1) := by decide +kernel
theorem dX7_seek_32 : decode cX7_seek 32 = .ok (.ireturn, 1) := by decide +kernel
theorem dX7_seek_33 : decode cX7_seek 33 = .ok (.aload 4, 2) := by decide +kernel
theorem dX7_seek_35 : decode cX7_seek 35 = .ok (.invokevirtual 130, 3) := by decide +kernel
theorem dX7_seek_38 : decode cX7_seek 38 = .ok (.ifnonnull 6, 3) := by decide +kernel
theorem dX7_seek_41 : decode cX7_seek 41 = .ok (.bipush (-2), 2) := by decide +kernel
theorem dX7_seek_43 : decode cX7_seek 43 = .ok (.ireturn, 1) := by decide +kernel
theorem dX7_seek_44 : decode cX7_seek 44 = .ok (.aload_n 0, 1) := by decide +kernel
theorem dX7_seek_45 : decode cX7_seek 45 = .ok (.aload 4, 2) := by decide +kernel
theorem dX7_seek_47 : decode cX7_seek 47 = .ok (.aload 5, 2) := by decide +kernel
theorem dX7_seek_49 : decode cX7_seek 49 = .ok (.iload_n 3, 1) := by decide +kernel
theorem dX7_seek_50 : decode cX7_seek 50 = .ok (.invokevirtual 160, 3) := by decide +kernel
theorem dX7_seek_53 : decode cX7_seek 53 = .ok (.ireturn, 1) := by decide +kernel
theorem dX7_stored_0 : decode cX7_stored 0 = .ok (.aload_n 0, 1) := by decide +kernel
theorem dX7_stored_1 : decode cX7_stored 1 = .ok (.iload_n 1, 1) := by decide +kernel
theorem dX7_stored_2 : decode cX7_stored 2 = .ok (.invokevirtual 123, 3) := by decide +kernel
theorem dX7_stored_5 : decode cX7_stored 5 = .ok (.astore_n 3, 1) := by decide +kernel
theorem dX7_stored_6 : decode cX7_stored 6 = .ok (.aload_n 3, 1) := by decide +kernel
theorem dX7_stored_7 : decode cX7_stored 7 = .ok (.ifnull 8, 3) := by decide +kernel
theorem dX7_stored_10 : decode cX7_stored 10 = .ok (.iload_n 2, 1) := by decide +kernel
theorem dX7_stored_11 : decode cX7_stored 11 = .ok (.iconst (-1), 1) := by decide +kernel
theorem dX7_stored_12 : decode cX7_stored 12 = .ok (.if_icmp .ge 5, 3) := by decide +kernel
theorem dX7_stored_15 : decode cX7_stored 15 = .ok (.iconst (-1), 1) := by decide +kernel
theorem dX7_stored_16 : decode cX7_stored 16 = .ok (.ireturn, 1) := by decide +kernel
theorem dX7_stored_17 : decode cX7_stored 17 = .ok (.iload_n 2, 1) := by decide +kernel
theorem dX7_stored_18 : decode cX7_stored 18 = .ok (.iconst (-1), 1) := by decide +kernel
theorem dX7_stored_19 : decode cX7_stored 19 = .ok (.if_icmp .ne 11, 3) := by decide +kernel
theorem dX7_stored_22 : decode cX7_stored 22 = .ok (.aload_n 3, 1) := by decide +kernel
theorem dX7_stored_23 : decode cX7_stored 23 = .ok (.getfield 164, 3) := by decide +kernel
theorem dX7_stored_26 : decode cX7_stored 26 = .ok (.getfield 86, 3) := by decide +kernel
theorem dX7_stored_29 : decode cX7_stored 29 = .ok (.ireturn, 1) := by decide +kernel
theorem dX7_stored_30 : decode cX7_stored 30 = .ok (.aload_n 3, 1) := by decide +kernel
theorem dX7_stored_31 : decode cX7_stored 31 = .ok (.getfield 164, 3) := by decide +kernel
theorem dX7_stored_34 : decode cX7_stored 34 = .ok (.iload_n 2, 1) := by decide +kernel
theorem dX7_stored_35 : decode cX7_stored 35 = .ok (.invokevirtual 98, 3) := by decide +kernel
theorem dX7_stored_38 : decode cX7_stored 38 = .ok (.astore 4, 2) := by decide +kernel
theorem dX7_stored_40 : decode cX7_stored 40 = .ok (.aload 4, 2) := by decide +kernel
theorem dX7_stored_42 : decode cX7_stored 42 = .ok (.ifnonnull 8, 3) := by decide +kernel
theorem dX7_stored_45 : decode cX7_stored 45 = .ok (.bipush (-2), 2) := by decide +kernel
theorem dX7_stored_47 : decode cX7_stored 47 = .ok (.goto 8, 3) := by decide +kernel
theorem dX7_stored_50 : decode cX7_stored 50 = .ok (.aload 4, 2) := by decide +kernel
theorem dX7_stored_52 : decode cX7_stored 52 = .ok (.getfield 157, 3) := by decide +kernel
theorem dX7_stored_55 : decode cX7_stored 55 = .ok (.ireturn, 1) := by decide +kernel
theorem dX7_client_0 : decode cX7_client 0 = .ok (.aload_n 0, 1) := by decide +kernel
theorem dX7_client_1 : decode cX7_client 1 = .ok (.iload_n 1, 1) := by decide +kernel
theorem dX7_client_2 : decode cX7_client 2 = .ok (.invokevirtual 123, 3) := by decide +kernel
theorem dX7_client_5 : decode cX7_client 5 = .ok (.astore_n 3, 1) := by decide +kernel
theorem dX7_client_6 : decode cX7_client 6 = .ok (.aload_n 3, 1) := by decide +kernel
theorem dX7_client_7 : decode cX7_client 7 = .ok (.ifnull 12, 3) := by decide +kernel
theorem dX7_client_10 : decode cX7_client 10 = .ok (.iload_n 2, 1) := by decide +kernel
theorem dX7_client_11 : decode cX7_client 11 = .ok (.ifCond .lt 8, 3) := by decide +kernel
theorem dX7_client_14 : decode cX7_client 14 = .ok (.iload_n 2, 1) := by decide +kernel
theorem dX7_client_15 : decode cX7_client 15 = .ok (.iconst 2, 1) := by decide +kernel
theorem dX7_client_16 : decode cX7_client 16 = .ok (.if_icmp .le 5, 3) := by decide +kernel
theorem dX7_client_19 : decode cX7_client 19 = .ok (.iconst (-1), 1) := by decide +kernel
theorem dX7_client_20 : decode cX7_client 20 = .ok (.ireturn, 1) := by decide +kernel
theorem dX7_client_21 : decode cX7_client 21 = .ok (.iload_n 2, 1) := by decide +kernel
theorem dX7_client_22 : decode cX7_client 22 = .ok (.ifCond .ne 8, 3) := by decide +kernel
theorem dX7_client_25 : decode cX7_client 25 = .ok (.aload_n 3, 1) := by decide +kernel
theorem dX7_client_26 : decode cX7_client 26 = .ok (.getfield 167, 3) := by decide +kernel
theorem dX7_client_29 : decode cX7_client 29 = .ok (.ireturn, 1) := by decide +kernel
theorem dX7_client_30 : decode cX7_client 30 = .ok (.iload_n 2, 1) := by decide +kernel
theorem dX7_client_31 : decode cX7_client 31 = .ok (.iconst 1, 1) := by decide +kernel
theorem dX7_client_32 : decode cX7_client 32 = .ok (.if_icmp .ne 10, 3) := by decide +kernel
theorem dX7_client_35 : decode cX7_client 35 = .ok (.aload_n 3, 1) := by decide +kernel
theorem dX7_client_36 : decode cX7_client 36 = .ok (.getfield 170, 3) := by decide +kernel
theorem dX7_client_39 : decode cX7_client 39 = .ok (.goto 7, 3) := by decide +kernel
theorem dX7_client_42 : decode cX7_client 42 = .ok (.aload_n 3, 1) := by decide +kernel
theorem dX7_client_43 : decode cX7_client 43 = .ok (.getfield 173, 3) := by decide +kernel
theorem dX7_client_46 : decode cX7_client 46 = .ok (.ireturn, 1) := by decide +kernel
theorem dX7_compare_0 : decode cX7_compare 0 = .ok (.aload_n 0, 1) := by decide +kernel
theorem dX7_compare_1 : decode cX7_compare 1 = .ok (.iload_n 1, 1) := by decide +kernel
theorem dX7_compare_2 : decode cX7_compare 2 = .ok (.invokevirtual 149, 3) := by decide +kernel
theorem dX7_compare_5 : decode cX7_compare 5 = .ok (.astore_n 3, 1) := by decide +kernel
theorem dX7_compare_6 : decode cX7_compare 6 = .ok (.aload_n 0, 1) := by decide +kernel
theorem dX7_compare_7 : decode cX7_compare 7 = .ok (.iload_n 2, 1) := by decide +kernel
theorem dX7_compare_8 : decode cX7_compare 8 = .ok (.invokevirtual 149, 3) := by decide +kernel
theorem dX7_compare_11 : decode cX7_compare 11 = .ok (.astore 4, 2) := by decide +kernel
theorem dX7_compare_13 : decode cX7_compare 13 = .ok (.aload_n 3, 1) := by decide +kernel
theorem dX7_compare_14 : decode cX7_compare 14 = .ok (.ifnull 8, 3) := by decide +kernel
theorem dX7_compare_17 : decode cX7_compare 17 = .ok (.aload 4, 2) := by decide +kernel
theorem dX7_compare_19 : decode cX7_compare 19 = .ok (.ifnonnull 5, 3) := by decide +kernel
theorem dX7_compare_22 : decode cX7_compare 22 = .ok (.iconst (-1), 1) := by decide +kernel
theorem dX7_compare_23 : decode cX7_compare 23 = .ok (.ireturn, 1) := by decide +kernel
theorem dX7_compare_24 : decode cX7_compare 24 = .ok (.aload_n 3, 1) := by decide +kernel
theorem dX7_compare_25 : decode cX7_compare 25 = .ok (.aload 4, 2) := by decide +kernel
theorem dX7_compare_27 : decode cX7_compare 27 = .ok (.invokevirtual 176, 3) := by decide +kernel
theorem dX7_compare_30 : decode cX7_compare 30 = .ok (.ireturn, 1) := by decide +kernel
theorem dX7_blame_0 : decode cX7_blame 0 = .ok (.aload_n 0, 1) := by decide +kernel
theorem dX7_blame_1 : decode cX7_blame 1 = .ok (.iload_n 1, 1) := by decide +kernel
theorem dX7_blame_2 : decode cX7_blame 2 = .ok (.invokevirtual 123, 3) := by decide +kernel
theorem dX7_blame_5 : decode cX7_blame 5 = .ok (.astore 4, 2) := by decide +kernel
theorem dX7_blame_7 : decode cX7_blame 7 = .ok (.aload_n 0, 1) := by decide +kernel
theorem dX7_blame_8 : decode cX7_blame 8 = .ok (.iload_n 2, 1) := by decide +kernel
theorem dX7_blame_9 : decode cX7_blame 9 = .ok (.invokevirtual 149, 3) := by decide +kernel
theorem dX7_blame_12 : decode cX7_blame 12 = .ok (.astore 5, 2) := by decide +kernel
theorem dX7_blame_14 : decode cX7_blame 14 = .ok (.aload_n 0, 1) := by decide +kernel
theorem dX7_blame_15 : decode cX7_blame 15 = .ok (.iload_n 3, 1) := by decide +kernel
theorem dX7_blame_16 : decode cX7_blame 16 = .ok (.invokevirtual 149, 3) := by decide +kernel
theorem dX7_blame_19 : decode cX7_blame 19 = .ok (.astore 6, 2) := by decide +kernel
theorem dX7_blame_21 : decode cX7_blame 21 = .ok (.aload 4, 2) := by decide +kernel
theorem dX7_blame_23 : decode cX7_blame 23 = .ok (.ifnull 13, 3) := by decide +kernel
theorem dX7_blame_26 : decode cX7_blame 26 = .ok (.aload 5, 2) := by decide +kernel
theorem dX7_blame_28 : decode cX7_blame 28 = .ok (.ifnull 8, 3) := by decide +kernel
theorem dX7_blame_31 : decode cX7_blame 31 = .ok (.aload 6, 2) := by decide +kernel
theorem dX7_blame_33 : decode cX7_blame 33 = .ok (.ifnonnull 5, 3) := by decide +kernel
theorem dX7_blame_36 : decode cX7_blame 36 = .ok (.iconst (-1), 1) := by decide +kernel
theorem dX7_blame_37 : decode cX7_blame 37 = .ok (.ireturn, 1) := by decide +kernel
theorem dX7_blame_38 : decode cX7_blame 38 = .ok (.aload 5, 2) := by decide +kernel
theorem dX7_blame_40 : decode cX7_blame 40 = .ok (.aload 6, 2) := by decide +kernel
theorem dX7_blame_42 : decode cX7_blame 42 = .ok (.invokevirtual 176, 3) := by decide +kernel
theorem dX7_blame_45 : decode cX7_blame 45 = .ok (.istore 7, 2) := by decide +kernel
theorem dX7_blame_47 : decode cX7_blame 47 = .ok (.iload 7, 2) := by decide +kernel
theorem dX7_blame_49 : decode cX7_blame 49 = .ok (.bipush (-2), 2) := by decide +kernel
theorem dX7_blame_51 : decode cX7_blame 51 = .ok (.if_icmp .ne 6, 3) := by decide +kernel
theorem dX7_blame_54 : decode cX7_blame 54 = .ok (.bipush (-2), 2) := by decide +kernel
theorem dX7_blame_56 : decode cX7_blame 56 = .ok (.ireturn, 1) := by decide +kernel
theorem dX7_blame_57 : decode cX7_blame 57 = .ok (.aload 4, 2) := by decide +kernel
theorem dX7_blame_59 : decode cX7_blame 59 = .ok (.iload 7, 2) := by decide +kernel
theorem dX7_blame_61 : decode cX7_blame 61 = .ok (.invokevirtual 180, 3) := by decide +kernel
theorem dX7_blame_64 : decode cX7_blame 64 = .ok (.astore 8, 2) := by decide +kernel
theorem dX7_blame_66 : decode cX7_blame 66 = .ok (.aload 8, 2) := by decide +kernel
theorem dX7_blame_68 : decode cX7_blame 68 = .ok (.ifnonnull 6, 3) := by decide +kernel
theorem dX7_blame_71 : decode cX7_blame 71 = .ok (.bipush (-2), 2) := by decide +kernel
theorem dX7_blame_73 : decode cX7_blame 73 = .ok (.ireturn, 1) := by decide +kernel
theorem dX7_blame_74 : decode cX7_blame 74 = .ok (.aload_n 0, 1) := by decide +kernel
theorem dX7_blame_75 : decode cX7_blame 75 = .ok (.aload 8, 2) := by decide +kernel
theorem dX7_blame_77 : decode cX7_blame 77 = .ok (.aload 5, 2) := by decide +kernel
theorem dX7_blame_79 : decode cX7_blame 79 = .ok (.iload 7, 2) := by decide +kernel
theorem dX7_blame_81 : decode cX7_blame 81 = .ok (.invokevirtual 183, 3) := by decide +kernel
theorem dX7_blame_84 : decode cX7_blame 84 = .ok (.invokevirtual 134, 3) := by decide +kernel
theorem dX7_blame_87 : decode cX7_blame 87 = .ok (.ifCond .ne 7, 3) := by decide +kernel
theorem dX7_blame_90 : decode cX7_blame 90 = .ok (.iconst 1, 1) := by decide +kernel
theorem dX7_blame_91 : decode cX7_blame 91 = .ok (.goto 4, 3) := by decide +kernel
theorem dX7_blame_94 : decode cX7_blame 94 = .ok (.iconst 0, 1) := by decide +kernel
theorem dX7_blame_95 : decode cX7_blame 95 = .ok (.istore 9, 2) := by decide +kernel
theorem dX7_blame_97 : decode cX7_blame 97 = .ok (.aload_n 0, 1) := by decide +kernel
theorem dX7_blame_98 : decode cX7_blame 98 = .ok (.aload 8, 2) := by decide +kernel
theorem dX7_blame_100 : decode cX7_blame 100 = .ok (.aload 6, 2) := by decide +kernel
theorem dX7_blame_102 : decode cX7_blame 102 = .ok (.iload 7, 2) := by decide +kernel
theorem dX7_blame_104 : decode cX7_blame 104 = .ok (.invokevirtual 183, 3) := by decide +kernel
theorem dX7_blame_107 : decode cX7_blame 107 = .ok (.invokevirtual 134, 3) := by decide +kernel
theorem dX7_blame_110 : decode cX7_blame 110 = .ok (.ifCond .ne 10, 3) := by decide +kernel
theorem dX7_blame_113 : decode cX7_blame 113 = .ok (.iload 9, 2) := by decide +kernel
theorem dX7_blame_115 : decode cX7_blame 115 = .ok (.iconst 2, 1) := by decide +kernel
theorem dX7_blame_116 : decode cX7_blame 116 = .ok (.iadd, 1) := by decide +kernel
theorem dX7_blame_117 : decode cX7_blame 117 = .ok (.goto 5, 3) := by decide +kernel
theorem dX7_blame_120 : decode cX7_blame 120 = .ok (.iload 9, 2) := by decide +kernel
theorem dX7_blame_122 : decode cX7_blame 122 = .ok (.ireturn, 1) := by decide +kernel
theorem dX7_leaf_0 : decode cX7_leaf 0 = .ok (.aload_n 0, 1) := by decide +kernel
theorem dX7_leaf_1 : decode cX7_leaf 1 = .ok (.getfield 50, 3) := by decide +kernel
theorem dX7_leaf_4 : decode cX7_leaf 4 = .ok (.iload_n 1, 1) := by decide +kernel
theorem dX7_leaf_5 : decode cX7_leaf 5 = .ok (.lload_n 2, 1) := by decide +kernel
theorem dX7_leaf_6 : decode cX7_leaf 6 = .ok (.invokevirtual 186, 3) := by decide +kernel
theorem dX7_leaf_9 : decode cX7_leaf 9 = .ok (.lreturn, 1) := by decide +kernel
theorem dX7_tree_0 : decode cX7_tree 0 = .ok (.aload_n 0, 1) := by decide +kernel
theorem dX7_tree_1 : decode cX7_tree 1 = .ok (.getfield 50, 3) := by decide +kernel
theorem dX7_tree_4 : decode cX7_tree 4 = .ok (.iload_n 1, 1) := by decide +kernel
theorem dX7_tree_5 : decode cX7_tree 5 = .ok (.invokevirtual 190, 3) := by decide +kernel
theorem dX7_tree_8 : decode cX7_tree 8 = .ok (.lreturn, 1) := by decide +kernel
theorem dX7_prove_0 : decode cX7_prove 0 = .ok (.iload_n 1, 1) := by decide +kernel
theorem dX7_prove_1 : decode cX7_prove 1 = .ok (.invokestatic 194, 3) := by decide +kernel
theorem dX7_prove_4 : decode cX7_prove 4 = .ok (.ifCond .eq 15, 3) := by decide +kernel
theorem dX7_prove_7 : decode cX7_prove 7 = .ok (.iload_n 2, 1) := by decide +kernel
theorem dX7_prove_8 : decode cX7_prove 8 = .ok (.invokestatic 194, 3) := by decide +kernel
theorem dX7_prove_11 : decode cX7_prove 11 = .ok (.ifCond .eq 8, 3) := by decide +kernel
theorem dX7_prove_14 : decode cX7_prove 14 = .ok (.iload_n 1, 1) := by decide +kernel
theorem dX7_prove_15 : decode cX7_prove 15 = .ok (.iload_n 2, 1) := by decide +kernel
theorem dX7_prove_16 : decode cX7_prove 16 = .ok (.if_icmp .ne 5, 3) := by decide +kernel
theorem dX7_prove_19 : decode cX7_prove 19 = .ok (.iconst (-1), 1) := by decide +kernel
theorem dX7_prove_20 : decode cX7_prove 20 = .ok (.ireturn, 1) := by decide +kernel
theorem dX7_prove_21 : decode cX7_prove 21 = .ok (.aload_n 0, 1) := by decide +kernel
theorem dX7_prove_22 : decode cX7_prove 22 = .ok (.getfield 57, 3) := by decide +kernel
theorem dX7_prove_25 : decode cX7_prove 25 = .ok (.aload_n 0, 1) := by decide +kernel
theorem dX7_prove_26 : decode cX7_prove 26 = .ok (.getfield 50, 3) := by decide +kernel
theorem dX7_prove_29 : decode cX7_prove 29 = .ok (.iload_n 1, 1) := by decide +kernel
theorem dX7_prove_30 : decode cX7_prove 30 = .ok (.iload_n 2, 1) := by decide +kernel
theorem dX7_prove_31 : decode cX7_prove 31 = .ok (.invokevirtual 63, 3) := by decide +kernel
theorem dX7_prove_34 : decode cX7_prove 34 = .ok (.aload_n 0, 1) := by decide +kernel
theorem dX7_prove_35 : decode cX7_prove 35 = .ok (.getfield 57, 3) := by decide +kernel
theorem dX7_prove_38 : decode cX7_prove 38 = .ok (.getfield 197, 3) := by decide +kernel
theorem dX7_prove_41 : decode cX7_prove 41 = .ok (.ireturn, 1) := by decide +kernel
theorem dX7_proof_0 : decode cX7_proof 0 = .ok (.aload_n 0, 1) := by decide +kernel
theorem dX7_proof_1 : decode cX7_proof 1 = .ok (.getfield 57, 3) := by decide +kernel
theorem dX7_proof_4 : decode cX7_proof 4 = .ok (.iload_n 1, 1) := by decide +kernel
theorem dX7_proof_5 : decode cX7_proof 5 = .ok (.invokevirtual 200, 3) := by decide +kernel
theorem dX7_proof_8 : decode cX7_proof 8 = .ok (.lreturn, 1) := by decide +kernel
theorem dX7_alter_0 : decode cX7_alter 0 = .ok (.aload_n 0, 1) := by decide +kernel
theorem dX7_alter_1 : decode cX7_alter 1 = .ok (.getfield 57, 3) := by decide +kernel
theorem dX7_alter_4 : decode cX7_alter 4 = .ok (.iload_n 1, 1) := by decide +kernel
theorem dX7_alter_5 : decode cX7_alter 5 = .ok (.lload_n 2, 1) := by decide +kernel
theorem dX7_alter_6 : decode cX7_alter 6 = .ok (.invokevirtual 203, 3) := by decide +kernel
theorem dX7_alter_9 : decode cX7_alter 9 = .ok (.ifCond .eq 7, 3) := by decide +kernel
theorem dX7_alter_12 : decode cX7_alter 12 = .ok (.iconst 1, 1) := by decide +kernel
theorem dX7_alter_13 : decode cX7_alter 13 = .ok (.goto 4, 3) := by decide +kernel
theorem dX7_alter_16 : decode cX7_alter 16 = .ok (.iconst (-1), 1) := by decide +kernel
theorem dX7_alter_17 : decode cX7_alter 17 = .ok (.ireturn, 1) := by decide +kernel
theorem dX7_fraud_0 : decode cX7_fraud 0 = .ok (.aload_n 0, 1) := by decide +kernel
theorem dX7_fraud_1 : decode cX7_fraud 1 = .ok (.getfield 24, 3) := by decide +kernel
theorem dX7_fraud_4 : decode cX7_fraud 4 = .ok (.iload_n 1, 1) := by decide +kernel
theorem dX7_fraud_5 : decode cX7_fraud 5 = .ok (.invokevirtual 98, 3) := by decide +kernel
theorem dX7_fraud_8 : decode cX7_fraud 8 = .ok (.astore 5, 2) := by decide +kernel
theorem dX7_fraud_10 : decode cX7_fraud 10 = .ok (.aload_n 0, 1) := by decide +kernel
theorem dX7_fraud_11 : decode cX7_fraud 11 = .ok (.getfield 24, 3) := by decide +kernel
theorem dX7_fraud_14 : decode cX7_fraud 14 = .ok (.iload_n 2, 1) := by decide +kernel
theorem dX7_fraud_15 : decode cX7_fraud 15 = .ok (.invokevirtual 98, 3) := by decide +kernel
theorem dX7_fraud_18 : decode cX7_fraud 18 = .ok (.astore 6, 2) := by decide +kernel
theorem dX7_fraud_20 : decode cX7_fraud 20 = .ok (.aload 5, 2) := by decide +kernel
theorem dX7_fraud_22 : decode cX7_fraud 22 = .ok (.ifnull 14, 3) := by decide +kernel
theorem dX7_fraud_25 : decode cX7_fraud 25 = .ok (.aload 6, 2) := by decide +kernel
theorem dX7_fraud_27 : decode cX7_fraud 27 = .ok (.ifnull 9, 3) := by decide +kernel
theorem dX7_fraud_30 : decode cX7_fraud 30 = .ok (.lload_n 3, 1) := by decide +kernel
theorem dX7_fraud_31 : decode cX7_fraud 31 = .ok (.lconst 0, 1) := by decide +kernel
theorem dX7_fraud_32 : decode cX7_fraud 32 = .ok (.lcmp, 1) := by decide +kernel
theorem dX7_fraud_33 : decode cX7_fraud 33 = .ok (.ifCond .gt 5, 3) := by decide +kernel
theorem dX7_fraud_36 : decode cX7_fraud 36 = .ok (.iconst (-1), 1) := by decide +kernel
theorem dX7_fraud_37 : decode cX7_fraud 37 = .ok (.ireturn, 1) := by decide +kernel
theorem dX7_fraud_38 : decode cX7_fraud 38 = .ok (.aload_n 0, 1) := by decide +kernel
theorem dX7_fraud_39 : decode cX7_fraud 39 = .ok (.getfield 57, 3) := by decide +kernel
theorem dX7_fraud_42 : decode cX7_fraud 42 = .ok (.invokevirtual 206, 3) := by decide +kernel
theorem dX7_fraud_45 : decode cX7_fraud 45 = .ok (.aload 5, 2) := by decide +kernel
theorem dX7_fraud_47 : decode cX7_fraud 47 = .ok (.getfield 210, 3) := by decide +kernel
theorem dX7_fraud_50 : decode cX7_fraud 50 = .ok (.lcmp, 1) := by decide +kernel
theorem dX7_fraud_51 : decode cX7_fraud 51 = .ok (.ifCond .eq 6, 3) := by decide +kernel
theorem dX7_fraud_54 : decode cX7_fraud 54 = .ok (.bipush (-2), 2) := by decide +kernel
theorem dX7_fraud_56 : decode cX7_fraud 56 = .ok (.ireturn, 1) := by decide +kernel
theorem dX7_fraud_57 : decode cX7_fraud 57 = .ok (.aload_n 0, 1) := by decide +kernel
theorem dX7_fraud_58 : decode cX7_fraud 58 = .ok (.getfield 57, 3) := by decide +kernel
theorem dX7_fraud_61 : decode cX7_fraud 61 = .ok (.lload_n 3, 1) := by decide +kernel
theorem dX7_fraud_62 : decode cX7_fraud 62 = .ok (.invokevirtual 213, 3) := by decide +kernel
theorem dX7_fraud_65 : decode cX7_fraud 65 = .ok (.aload 6, 2) := by decide +kernel
theorem dX7_fraud_67 : decode cX7_fraud 67 = .ok (.getfield 210, 3) := by decide +kernel
theorem dX7_fraud_70 : decode cX7_fraud 70 = .ok (.lcmp, 1) := by decide +kernel
theorem dX7_fraud_71 : decode cX7_fraud 71 = .ok (.ifCond .eq 7, 3) := by decide +kernel
theorem dX7_fraud_74 : decode cX7_fraud 74 = .ok (.iconst 1, 1) := by decide +kernel
theorem dX7_fraud_75 : decode cX7_fraud 75 = .ok (.goto 4, 3) := by decide +kernel
theorem dX7_fraud_78 : decode cX7_fraud 78 = .ok (.iconst 0, 1) := by decide +kernel
theorem dX7_fraud_79 : decode cX7_fraud 79 = .ok (.ireturn, 1) := by decide +kernel
theorem dX7_chance_0 : decode cX7_chance 0 = .ok (.iload_n 1, 1) := by decide +kernel
theorem dX7_chance_1 : decode cX7_chance 1 = .ok (.iload_n 2, 1) := by decide +kernel
theorem dX7_chance_2 : decode cX7_chance 2 = .ok (.invokestatic 217, 3) := by decide +kernel
theorem dX7_chance_5 : decode cX7_chance 5 = .ok (.ifCond .eq 23, 3) := by decide +kernel
theorem dX7_chance_8 : decode cX7_chance 8 = .ok (.iload_n 3, 1) := by decide +kernel
theorem dX7_chance_9 : decode cX7_chance 9 = .ok (.ifCond .lt 19, 3) := by decide +kernel
theorem dX7_chance_12 : decode cX7_chance 12 = .ok (.iload_n 3, 1) := by decide +kernel
theorem dX7_chance_13 : decode cX7_chance 13 = .ok (.iload_n 1, 1) := by decide +kernel
theorem dX7_chance_14 : decode cX7_chance 14 = .ok (.if_icmp .gt 14, 3) := by decide +kernel
theorem dX7_chance_17 : decode cX7_chance 17 = .ok (.iload 4, 2) := by decide +kernel
theorem dX7_chance_19 : decode cX7_chance 19 = .ok (.ifCond .lt 9, 3) := by decide +kernel
theorem dX7_chance_22 : decode cX7_chance 22 = .ok (.iload 4, 2) := by decide +kernel
theorem dX7_chance_24 : decode cX7_chance 24 = .ok (.iconst 1, 1) := by decide +kernel
theorem dX7_chance_25 : decode cX7_chance 25 = .ok (.if_icmp .le 7, 3) := by decide +kernel
theorem dX7_chance_28 : decode cX7_chance 28 = .ok (.ldc2_w 221, 3) := by decide +kernel
theorem dX7_chance_31 : decode cX7_chance 31 = .ok (.lreturn, 1) := by decide +kernel
theorem dX7_chance_32 : decode cX7_chance 32 = .ok (.iload_n 1, 1) := by decide +kernel
theorem dX7_chance_33 : decode cX7_chance 33 = .ok (.iload_n 2, 1) := by decide +kernel
theorem dX7_chance_34 : decode cX7_chance 34 = .ok (.isub, 1) := by decide +kernel
theorem dX7_chance_35 : decode cX7_chance 35 = .ok (.iload_n 3, 1) := by decide +kernel
theorem dX7_chance_36 : decode cX7_chance 36 = .ok (.invokestatic 223, 3) := by decide +kernel
theorem dX7_chance_39 : decode cX7_chance 39 = .ok (.lstore 5, 2) := by decide +kernel
theorem dX7_chance_41 : decode cX7_chance 41 = .ok (.iload_n 1, 1) := by decide +kernel
theorem dX7_chance_42 : decode cX7_chance 42 = .ok (.iload_n 3, 1) := by decide +kernel
theorem dX7_chance_43 : decode cX7_chance 43 = .ok (.invokestatic 223, 3) := by decide +kernel
theorem dX7_chance_46 : decode cX7_chance 46 = .ok (.lstore 7, 2) := by decide +kernel
theorem dX7_chance_48 : decode cX7_chance 48 = .ok (.iload 4, 2) := by decide +kernel
theorem dX7_chance_50 : decode cX7_chance 50 = .ok (.ifCond .ne 8, 3) := by decide +kernel
theorem dX7_chance_53 : decode cX7_chance 53 = .ok (.lload 5, 2) := by decide +kernel
theorem dX7_chance_55 : decode cX7_chance 55 = .ok (.goto 5, 3) := by decide +kernel
theorem dX7_chance_58 : decode cX7_chance 58 = .ok (.lload 7, 2) := by decide +kernel
theorem dX7_chance_60 : decode cX7_chance 60 = .ok (.lload 5, 2) := by decide +kernel
theorem dX7_chance_62 : decode cX7_chance 62 = .ok (.lload 7, 2) := by decide +kernel
theorem dX7_chance_64 : decode cX7_chance 64 = .ok (.invokestatic 227, 3) := by decide +kernel
theorem dX7_chance_67 : decode cX7_chance 67 = .ok (.ldiv, 1) := by decide +kernel
theorem dX7_chance_68 : decode cX7_chance 68 = .ok (.lreturn, 1) := by decide +kernel
theorem dX7_samples_0 : decode cX7_samples 0 = .ok (.iload_n 1, 1) := by decide +kernel
theorem dX7_samples_1 : decode cX7_samples 1 = .ok (.iload_n 2, 1) := by decide +kernel
theorem dX7_samples_2 : decode cX7_samples 2 = .ok (.invokestatic 217, 3) := by decide +kernel
theorem dX7_samples_5 : decode cX7_samples 5 = .ok (.ifCond .eq 14, 3) := by decide +kernel
theorem dX7_samples_8 : decode cX7_samples 8 = .ok (.iload_n 3, 1) := by decide +kernel
theorem dX7_samples_9 : decode cX7_samples 9 = .ok (.iconst 1, 1) := by decide +kernel
theorem dX7_samples_10 : decode cX7_samples 10 = .ok (.if_icmp .lt 9, 3) := by decide +kernel
theorem dX7_samples_13 : decode cX7_samples 13 = .ok (.iload_n 3, 1) := by decide +kernel
theorem dX7_samples_14 : decode cX7_samples 14 = .ok (.ldc 231, 2) := by decide +kernel
theorem dX7_samples_16 : decode cX7_samples 16 = .ok (.if_icmp .le 5, 3) := by decide +kernel
theorem dX7_samples_19 : decode cX7_samples 19 = .ok (.iconst (-1), 1) := by decide +kernel
theorem dX7_samples_20 : decode cX7_samples 20 = .ok (.ireturn, 1) := by decide +kernel
theorem dX7_samples_21 : decode cX7_samples 21 = .ok (.iconst 0, 1) := by decide +kernel
theorem dX7_samples_22 : decode cX7_samples 22 = .ok (.istore 4, 2) := by decide +kernel
theorem dX7_samples_24 : decode cX7_samples 24 = .ok (.iload 4, 2) := by decide +kernel
theorem dX7_samples_26 : decode cX7_samples 26 = .ok (.iload_n 1, 1) := by decide +kernel
theorem dX7_samples_27 : decode cX7_samples 27 = .ok (.if_icmp .gt 33, 3) := by decide +kernel
theorem dX7_samples_30 : decode cX7_samples 30 = .ok (.iload_n 1, 1) := by decide +kernel
theorem dX7_samples_31 : decode cX7_samples 31 = .ok (.iload_n 2, 1) := by decide +kernel
theorem dX7_samples_32 : decode cX7_samples 32 = .ok (.isub, 1) := by decide +kernel
theorem dX7_samples_33 : decode cX7_samples 33 = .ok (.iload 4, 2) := by decide +kernel
theorem dX7_samples_35 : decode cX7_samples 35 = .ok (.invokestatic 223, 3) := by decide +kernel
theorem dX7_samples_38 : decode cX7_samples 38 = .ok (.iload_n 1, 1) := by decide +kernel
theorem dX7_samples_39 : decode cX7_samples 39 = .ok (.iload 4, 2) := by decide +kernel
theorem dX7_samples_41 : decode cX7_samples 41 = .ok (.invokestatic 223, 3) := by decide +kernel
theorem dX7_samples_44 : decode cX7_samples 44 = .ok (.iload_n 3, 1) := by decide +kernel
theorem dX7_samples_45 : decode cX7_samples 45 = .ok (.i2l, 1) := by decide +kernel
theorem dX7_samples_46 : decode cX7_samples 46 = .ok (.ldiv, 1) := by decide +kernel
theorem dX7_samples_47 : decode cX7_samples 47 = .ok (.lcmp, 1) := by decide +kernel
theorem dX7_samples_48 : decode cX7_samples 48 = .ok (.ifCond .gt 6, 3) := by decide +kernel
theorem dX7_samples_51 : decode cX7_samples 51 = .ok (.iload 4, 2) := by decide +kernel
theorem dX7_samples_53 : decode cX7_samples 53 = .ok (.ireturn, 1) := by decide +kernel
theorem dX7_samples_54 : decode cX7_samples 54 = .ok (.iinc 4 1, 3) := by decide +kernel
theorem dX7_samples_57 : decode cX7_samples 57 = .ok (.goto (-33), 3) := by decide +kernel
theorem dX7_samples_60 : decode cX7_samples 60 = .ok (.bipush (-2), 2) := by decide +kernel
theorem dX7_samples_62 : decode cX7_samples 62 = .ok (.ireturn, 1) := by decide +kernel
