theorem dX8_prove_145 : decode cX8_prove 145 = .ok (.iload_n 3, 1) := by decide +kernel
theorem dX8_prove_146 : decode cX8_prove 146 = .ok (.iconst 1, 1) := by decide +kernel
theorem dX8_prove_147 : decode cX8_prove 147 = .ok (.isub, 1) := by decide +kernel
theorem dX8_prove_148 : decode cX8_prove 148 = .ok (.goto 4, 3) := by decide +kernel
theorem dX8_prove_151 : decode cX8_prove 151 = .ok (.iload_n 3, 1) := by decide +kernel
theorem dX8_prove_152 : decode cX8_prove 152 = .ok (.istore 4, 2) := by decide +kernel
theorem dX8_prove_154 : decode cX8_prove 154 = .ok (.aload_n 0, 1) := by decide +kernel
theorem dX8_prove_155 : decode cX8_prove 155 = .ok (.getfield 62, 3) := by decide +kernel
theorem dX8_prove_158 : decode cX8_prove 158 = .ok (.aload_n 0, 1) := by decide +kernel
theorem dX8_prove_159 : decode cX8_prove 159 = .ok (.getfield 192, 3) := by decide +kernel
theorem dX8_prove_162 : decode cX8_prove 162 = .ok (.iload 4, 2) := by decide +kernel
theorem dX8_prove_164 : decode cX8_prove 164 = .ok (.iastore, 1) := by decide +kernel
theorem dX8_prove_165 : decode cX8_prove 165 = .ok (.aload_n 0, 1) := by decide +kernel
theorem dX8_prove_166 : decode cX8_prove 166 = .ok (.getfield 65, 3) := by decide +kernel
theorem dX8_prove_169 : decode cX8_prove 169 = .ok (.aload_n 0, 1) := by decide +kernel
theorem dX8_prove_170 : decode cX8_prove 170 = .ok (.getfield 192, 3) := by decide +kernel
theorem dX8_prove_173 : decode cX8_prove 173 = .ok (.aload_n 0, 1) := by decide +kernel
theorem dX8_prove_174 : decode cX8_prove 174 = .ok (.getfield 59, 3) := by decide +kernel
theorem dX8_prove_177 : decode cX8_prove 177 = .ok (.iload 4, 2) := by decide +kernel
theorem dX8_prove_179 : decode cX8_prove 179 = .ok (.laload, 1) := by decide +kernel
theorem dX8_prove_180 : decode cX8_prove 180 = .ok (.lastore, 1) := by decide +kernel
theorem dX8_prove_181 : decode cX8_prove 181 = .ok (.aload_n 0, 1) := by decide +kernel
theorem dX8_prove_182 : decode cX8_prove 182 = .ok (.dup, 1) := by decide +kernel
theorem dX8_prove_183 : decode cX8_prove 183 = .ok (.getfield 192, 3) := by decide +kernel
theorem dX8_prove_186 : decode cX8_prove 186 = .ok (.iconst 1, 1) := by decide +kernel
theorem dX8_prove_187 : decode cX8_prove 187 = .ok (.iadd, 1) := by decide +kernel
theorem dX8_prove_188 : decode cX8_prove 188 = .ok (.putfield 192, 3) := by decide +kernel
theorem dX8_prove_191 : decode cX8_prove 191 = .ok (.aload_n 0, 1) := by decide +kernel
theorem dX8_prove_192 : decode cX8_prove 192 = .ok (.getfield 71, 3) := by decide +kernel
theorem dX8_prove_195 : decode cX8_prove 195 = .ok (.iload_n 3, 1) := by decide +kernel
theorem dX8_prove_196 : decode cX8_prove 196 = .ok (.iconst 2, 1) := by decide +kernel
theorem dX8_prove_197 : decode cX8_prove 197 = .ok (.idiv, 1) := by decide +kernel
theorem dX8_prove_198 : decode cX8_prove 198 = .ok (.aload_n 0, 1) := by decide +kernel
theorem dX8_prove_199 : decode cX8_prove 199 = .ok (.getfield 71, 3) := by decide +kernel
theorem dX8_prove_202 : decode cX8_prove 202 = .ok (.iload_n 3, 1) := by decide +kernel
theorem dX8_prove_203 : decode cX8_prove 203 = .ok (.iconst 2, 1) := by decide +kernel
theorem dX8_prove_204 : decode cX8_prove 204 = .ok (.idiv, 1) := by decide +kernel
theorem dX8_prove_205 : decode cX8_prove 205 = .ok (.baload, 1) := by decide +kernel
theorem dX8_prove_206 : decode cX8_prove 206 = .ok (.ifCond .ne 23, 3) := by decide +kernel
theorem dX8_prove_209 : decode cX8_prove 209 = .ok (.aload_n 0, 1) := by decide +kernel
theorem dX8_prove_210 : decode cX8_prove 210 = .ok (.getfield 71, 3) := by decide +kernel
theorem dX8_prove_213 : decode cX8_prove 213 = .ok (.iload_n 3, 1) := by decide +kernel
theorem dX8_prove_214 : decode cX8_prove 214 = .ok (.baload, 1) := by decide +kernel
theorem dX8_prove_215 : decode cX8_prove 215 = .ok (.ifCond .ne 14, 3) := by decide +kernel
theorem dX8_prove_218 : decode cX8_prove 218 = .ok (.aload_n 0, 1) := by decide +kernel
theorem dX8_prove_219 : decode cX8_prove 219 = .ok (.getfield 71, 3) := by decide +kernel
theorem dX8_prove_222 : decode cX8_prove 222 = .ok (.iload_n 3, 1) := by decide +kernel
theorem dX8_prove_223 : decode cX8_prove 223 = .ok (.iconst 1, 1) := by decide +kernel
theorem dX8_prove_224 : decode cX8_prove 224 = .ok (.isub, 1) := by decide +kernel
theorem dX8_prove_225 : decode cX8_prove 225 = .ok (.baload, 1) := by decide +kernel
theorem dX8_prove_226 : decode cX8_prove 226 = .ok (.ifCond .eq 7, 3) := by decide +kernel
theorem dX8_prove_229 : decode cX8_prove 229 = .ok (.iconst 1, 1) := by decide +kernel
theorem dX8_prove_230 : decode cX8_prove 230 = .ok (.goto 4, 3) := by decide +kernel
theorem dX8_prove_233 : decode cX8_prove 233 = .ok (.iconst 0, 1) := by decide +kernel
theorem dX8_prove_234 : decode cX8_prove 234 = .ok (.bastore, 1) := by decide +kernel
theorem dX8_prove_235 : decode cX8_prove 235 = .ok (.iinc 3 (-2), 3) := by decide +kernel
theorem dX8_prove_238 : decode cX8_prove 238 = .ok (.goto (-124), 3) := by decide +kernel
theorem dX8_prove_241 : decode cX8_prove 241 = .ok (.aload_n 0, 1) := by decide +kernel
theorem dX8_prove_242 : decode cX8_prove 242 = .ok (.getfield 192, 3) := by decide +kernel
theorem dX8_prove_245 : decode cX8_prove 245 = .ok (.ireturn, 1) := by decide +kernel
theorem dX8_proof_0 : decode cX8_proof 0 = .ok (.iload_n 1, 1) := by decide +kernel
theorem dX8_proof_1 : decode cX8_proof 1 = .ok (.ifCond .ne 11, 3) := by decide +kernel
theorem dX8_proof_4 : decode cX8_proof 4 = .ok (.aload_n 0, 1) := by decide +kernel
theorem dX8_proof_5 : decode cX8_proof 5 = .ok (.getfield 179, 3) := by decide +kernel
theorem dX8_proof_8 : decode cX8_proof 8 = .ok (.i2l, 1) := by decide +kernel
theorem dX8_proof_9 : decode cX8_proof 9 = .ok (.goto 70, 3) := by decide +kernel
theorem dX8_proof_12 : decode cX8_proof 12 = .ok (.iload_n 1, 1) := by decide +kernel
theorem dX8_proof_13 : decode cX8_proof 13 = .ok (.iconst 1, 1) := by decide +kernel
theorem dX8_proof_14 : decode cX8_proof 14 = .ok (.if_icmp .ne 11, 3) := by decide +kernel
theorem dX8_proof_17 : decode cX8_proof 17 = .ok (.aload_n 0, 1) := by decide +kernel
theorem dX8_proof_18 : decode cX8_proof 18 = .ok (.getfield 182, 3) := by decide +kernel
theorem dX8_proof_21 : decode cX8_proof 21 = .ok (.i2l, 1) := by decide +kernel
theorem dX8_proof_22 : decode cX8_proof 22 = .ok (.goto 57, 3) := by decide +kernel
theorem dX8_proof_25 : decode cX8_proof 25 = .ok (.iload_n 1, 1) := by decide +kernel
theorem dX8_proof_26 : decode cX8_proof 26 = .ok (.iconst 2, 1) := by decide +kernel
theorem dX8_proof_27 : decode cX8_proof 27 = .ok (.if_icmp .ne 10, 3) := by decide +kernel
theorem dX8_proof_30 : decode cX8_proof 30 = .ok (.aload_n 0, 1) := by decide +kernel
theorem dX8_proof_31 : decode cX8_proof 31 = .ok (.getfield 185, 3) := by decide +kernel
theorem dX8_proof_34 : decode cX8_proof 34 = .ok (.goto 45, 3) := by decide +kernel
theorem dX8_proof_37 : decode cX8_proof 37 = .ok (.iload_n 1, 1) := by decide +kernel
theorem dX8_proof_38 : decode cX8_proof 38 = .ok (.iconst 3, 1) := by decide +kernel
theorem dX8_proof_39 : decode cX8_proof 39 = .ok (.if_icmp .ne 10, 3) := by decide +kernel
theorem dX8_proof_42 : decode cX8_proof 42 = .ok (.aload_n 0, 1) := by decide +kernel
theorem dX8_proof_43 : decode cX8_proof 43 = .ok (.getfield 189, 3) := by decide +kernel
theorem dX8_proof_46 : decode cX8_proof 46 = .ok (.goto 33, 3) := by decide +kernel
theorem dX8_proof_49 : decode cX8_proof 49 = .ok (.iload_n 1, 1) := by decide +kernel
theorem dX8_proof_50 : decode cX8_proof 50 = .ok (.i2l, 1) := by decide +kernel
theorem dX8_proof_51 : decode cX8_proof 51 = .ok (.ldc2_w 195, 3) := by decide +kernel
theorem dX8_proof_54 : decode cX8_proof 54 = .ok (.iconst 3, 1) := by decide +kernel
theorem dX8_proof_55 : decode cX8_proof 55 = .ok (.aload_n 0, 1) := by decide +kernel
theorem dX8_proof_56 : decode cX8_proof 56 = .ok (.getfield 192, 3) := by decide +kernel
theorem dX8_proof_59 : decode cX8_proof 59 = .ok (.iadd, 1) := by decide +kernel
theorem dX8_proof_60 : decode cX8_proof 60 = .ok (.i2l, 1) := by decide +kernel
theorem dX8_proof_61 : decode cX8_proof 61 = .ok (.invokestatic 96, 3) := by decide +kernel
theorem dX8_proof_64 : decode cX8_proof 64 = .ok (.ifCond .eq 14, 3) := by decide +kernel
theorem dX8_proof_67 : decode cX8_proof 67 = .ok (.aload_n 0, 1) := by decide +kernel
theorem dX8_proof_68 : decode cX8_proof 68 = .ok (.getfield 65, 3) := by decide +kernel
theorem dX8_proof_71 : decode cX8_proof 71 = .ok (.iload_n 1, 1) := by decide +kernel
theorem dX8_proof_72 : decode cX8_proof 72 = .ok (.iconst 4, 1) := by decide +kernel
theorem dX8_proof_73 : decode cX8_proof 73 = .ok (.isub, 1) := by decide +kernel
theorem dX8_proof_74 : decode cX8_proof 74 = .ok (.laload, 1) := by decide +kernel
theorem dX8_proof_75 : decode cX8_proof 75 = .ok (.goto 4, 3) := by decide +kernel
theorem dX8_proof_78 : decode cX8_proof 78 = .ok (.lconst 0, 1) := by decide +kernel
theorem dX8_proof_79 : decode cX8_proof 79 = .ok (.lreturn, 1) := by decide +kernel
theorem dX8_alter_0 : decode cX8_alter 0 = .ok (.iload_n 1, 1) := by decide +kernel
theorem dX8_alter_1 : decode cX8_alter 1 = .ok (.i2l, 1) := by decide +kernel
theorem dX8_alter_2 : decode cX8_alter 2 = .ok (.ldc2_w 122, 3) := by decide +kernel
theorem dX8_alter_5 : decode cX8_alter 5 = .ok (.iconst 3, 1) := by decide +kernel
theorem dX8_alter_6 : decode cX8_alter 6 = .ok (.aload_n 0, 1) := by decide +kernel
theorem dX8_alter_7 : decode cX8_alter 7 = .ok (.getfield 192, 3) := by decide +kernel
theorem dX8_alter_10 : decode cX8_alter 10 = .ok (.iadd, 1) := by decide +kernel
theorem dX8_alter_11 : decode cX8_alter 11 = .ok (.i2l, 1) := by decide +kernel
theorem dX8_alter_12 : decode cX8_alter 12 = .ok (.invokestatic 96, 3) := by decide +kernel
theorem dX8_alter_15 : decode cX8_alter 15 = .ok (.ifCond .ne 5, 3) := by decide +kernel
theorem dX8_alter_18 : decode cX8_alter 18 = .ok (.iconst (-1), 1) := by decide +kernel
theorem dX8_alter_19 : decode cX8_alter 19 = .ok (.ireturn, 1) := by decide +kernel
theorem dX8_alter_20 : decode cX8_alter 20 = .ok (.iload_n 1, 1) := by decide +kernel
theorem dX8_alter_21 : decode cX8_alter 21 = .ok (.iconst 2, 1) := by decide +kernel
theorem dX8_alter_22 : decode cX8_alter 22 = .ok (.if_icmp .ne 11, 3) := by decide +kernel
theorem dX8_alter_25 : decode cX8_alter 25 = .ok (.aload_n 0, 1) := by decide +kernel
theorem dX8_alter_26 : decode cX8_alter 26 = .ok (.lload_n 2, 1) := by decide +kernel
theorem dX8_alter_27 : decode cX8_alter 27 = .ok (.putfield 185, 3) := by decide +kernel
theorem dX8_alter_30 : decode cX8_alter 30 = .ok (.goto 25, 3) := by decide +kernel
theorem dX8_alter_33 : decode cX8_alter 33 = .ok (.iload_n 1, 1) := by decide +kernel
theorem dX8_alter_34 : decode cX8_alter 34 = .ok (.iconst 3, 1) := by decide +kernel
theorem dX8_alter_35 : decode cX8_alter 35 = .ok (.if_icmp .ne 11, 3) := by decide +kernel
theorem dX8_alter_38 : decode cX8_alter 38 = .ok (.aload_n 0, 1) := by decide +kernel
theorem dX8_alter_39 : decode cX8_alter 39 = .ok (.lload_n 2, 1) := by decide +kernel
theorem dX8_alter_40 : decode cX8_alter 40 = .ok (.putfield 189, 3) := by decide +kernel
theorem dX8_alter_43 : decode cX8_alter 43 = .ok (.goto 12, 3) := by decide +kernel
theorem dX8_alter_46 : decode cX8_alter 46 = .ok (.aload_n 0, 1) := by decide +kernel
theorem dX8_alter_47 : decode cX8_alter 47 = .ok (.getfield 65, 3) := by decide +kernel
theorem dX8_alter_50 : decode cX8_alter 50 = .ok (.iload_n 1, 1) := by decide +kernel
theorem dX8_alter_51 : decode cX8_alter 51 = .ok (.iconst 4, 1) := by decide +kernel
theorem dX8_alter_52 : decode cX8_alter 52 = .ok (.isub, 1) := by decide +kernel
theorem dX8_alter_53 : decode cX8_alter 53 = .ok (.lload_n 2, 1) := by decide +kernel
theorem dX8_alter_54 : decode cX8_alter 54 = .ok (.lastore, 1) := by decide +kernel
theorem dX8_alter_55 : decode cX8_alter 55 = .ok (.iconst 1, 1) := by decide +kernel
theorem dX8_alter_56 : decode cX8_alter 56 = .ok (.ireturn, 1) := by decide +kernel
theorem dX8_top_0 : decode cX8_top 0 = .ok (.iconst 0, 1) := by decide +kernel
theorem dX8_top_1 : decode cX8_top 1 = .ok (.istore 5, 2) := by decide +kernel
theorem dX8_top_3 : decode cX8_top 3 = .ok (.iload 5, 2) := by decide +kernel
theorem dX8_top_5 : decode cX8_top 5 = .ok (.bipush 16, 2) := by decide +kernel
theorem dX8_top_7 : decode cX8_top 7 = .ok (.if_icmp .ge 25, 3) := by decide +kernel
theorem dX8_top_10 : decode cX8_top 10 = .ok (.aload_n 0, 1) := by decide +kernel
theorem dX8_top_11 : decode cX8_top 11 = .ok (.getfield 75, 3) := by decide +kernel
theorem dX8_top_14 : decode cX8_top 14 = .ok (.iload 5, 2) := by decide +kernel
theorem dX8_top_16 : decode cX8_top 16 = .ok (.lconst 0, 1) := by decide +kernel
theorem dX8_top_17 : decode cX8_top 17 = .ok (.lastore, 1) := by decide +kernel
theorem dX8_top_18 : decode cX8_top 18 = .ok (.aload_n 0, 1) := by decide +kernel
theorem dX8_top_19 : decode cX8_top 19 = .ok (.getfield 71, 3) := by decide +kernel
theorem dX8_top_22 : decode cX8_top 22 = .ok (.iload 5, 2) := by decide +kernel
theorem dX8_top_24 : decode cX8_top 24 = .ok (.iconst 0, 1) := by decide +kernel
theorem dX8_top_25 : decode cX8_top 25 = .ok (.bastore, 1) := by decide +kernel
theorem dX8_top_26 : decode cX8_top 26 = .ok (.iinc 5 1, 3) := by decide +kernel
theorem dX8_top_29 : decode cX8_top 29 = .ok (.goto (-26), 3) := by decide +kernel
theorem dX8_top_32 : decode cX8_top 32 = .ok (.aload_n 0, 1) := by decide +kernel
theorem dX8_top_33 : decode cX8_top 33 = .ok (.getfield 75, 3) := by decide +kernel
theorem dX8_top_36 : decode cX8_top 36 = .ok (.bipush 8, 2) := by decide +kernel
theorem dX8_top_38 : decode cX8_top 38 = .ok (.aload_n 0, 1) := by decide +kernel
theorem dX8_top_39 : decode cX8_top 39 = .ok (.getfield 179, 3) := by decide +kernel
theorem dX8_top_42 : decode cX8_top 42 = .ok (.iadd, 1) := by decide +kernel
theorem dX8_top_43 : decode cX8_top 43 = .ok (.lload_n 1, 1) := by decide +kernel
theorem dX8_top_44 : decode cX8_top 44 = .ok (.invokestatic 86, 3) := by decide +kernel
theorem dX8_top_47 : decode cX8_top 47 = .ok (.lastore, 1) := by decide +kernel
theorem dX8_top_48 : decode cX8_top 48 = .ok (.aload_n 0, 1) := by decide +kernel
theorem dX8_top_49 : decode cX8_top 49 = .ok (.getfield 75, 3) := by decide +kernel
theorem dX8_top_52 : decode cX8_top 52 = .ok (.bipush 8, 2) := by decide +kernel
theorem dX8_top_54 : decode cX8_top 54 = .ok (.aload_n 0, 1) := by decide +kernel
theorem dX8_top_55 : decode cX8_top 55 = .ok (.getfield 182, 3) := by decide +kernel
theorem dX8_top_58 : decode cX8_top 58 = .ok (.iadd, 1) := by decide +kernel
theorem dX8_top_59 : decode cX8_top 59 = .ok (.lload_n 3, 1) := by decide +kernel
theorem dX8_top_60 : decode cX8_top 60 = .ok (.invokestatic 86, 3) := by decide +kernel
theorem dX8_top_63 : decode cX8_top 63 = .ok (.lastore, 1) := by decide +kernel
theorem dX8_top_64 : decode cX8_top 64 = .ok (.aload_n 0, 1) := by decide +kernel
theorem dX8_top_65 : decode cX8_top 65 = .ok (.getfield 71, 3) := by decide +kernel
theorem dX8_top_68 : decode cX8_top 68 = .ok (.bipush 8, 2) := by decide +kernel
theorem dX8_top_70 : decode cX8_top 70 = .ok (.aload_n 0, 1) := by decide +kernel
theorem dX8_top_71 : decode cX8_top 71 = .ok (.getfield 179, 3) := by decide +kernel
theorem dX8_top_74 : decode cX8_top 74 = .ok (.iadd, 1) := by decide +kernel
theorem dX8_top_75 : decode cX8_top 75 = .ok (.iconst 1, 1) := by decide +kernel
theorem dX8_top_76 : decode cX8_top 76 = .ok (.bastore, 1) := by decide +kernel
theorem dX8_top_77 : decode cX8_top 77 = .ok (.aload_n 0, 1) := by decide +kernel
theorem dX8_top_78 : decode cX8_top 78 = .ok (.getfield 71, 3) := by decide +kernel
theorem dX8_top_81 : decode cX8_top 81 = .ok (.bipush 8, 2) := by decide +kernel
theorem dX8_top_83 : decode cX8_top 83 = .ok (.aload_n 0, 1) := by decide +kernel
theorem dX8_top_84 : decode cX8_top 84 = .ok (.getfield 182, 3) := by decide +kernel
theorem dX8_top_87 : decode cX8_top 87 = .ok (.iadd, 1) := by decide +kernel
theorem dX8_top_88 : decode cX8_top 88 = .ok (.iconst 1, 1) := by decide +kernel
theorem dX8_top_89 : decode cX8_top 89 = .ok (.bastore, 1) := by decide +kernel
theorem dX8_top_90 : decode cX8_top 90 = .ok (.iconst 0, 1) := by decide +kernel
theorem dX8_top_91 : decode cX8_top 91 = .ok (.istore 5, 2) := by decide +kernel
theorem dX8_top_93 : decode cX8_top 93 = .ok (.iload 5, 2) := by decide +kernel
theorem dX8_top_95 : decode cX8_top 95 = .ok (.aload_n 0, 1) := by decide +kernel
theorem dX8_top_96 : decode cX8_top 96 = .ok (.getfield 192, 3) := by decide +kernel
theorem dX8_top_99 : decode cX8_top 99 = .ok (.if_icmp .ge 41, 3) := by decide +kernel
theorem dX8_top_102 : decode cX8_top 102 = .ok (.aload_n 0, 1) := by decide +kernel
theorem dX8_top_103 : decode cX8_top 103 = .ok (.getfield 75, 3) := by decide +kernel
theorem dX8_top_106 : decode cX8_top 106 = .ok (.aload_n 0, 1) := by decide +kernel
theorem dX8_top_107 : decode cX8_top 107 = .ok (.getfield 62, 3) := by decide +kernel
theorem dX8_top_110 : decode cX8_top 110 = .ok (.iload 5, 2) := by decide +kernel
theorem dX8_top_112 : decode cX8_top 112 = .ok (.iaload, 1) := by decide +kernel
theorem dX8_top_113 : decode cX8_top 113 = .ok (.aload_n 0, 1) := by decide +kernel
theorem dX8_top_114 : decode cX8_top 114 = .ok (.getfield 65, 3) := by decide +kernel
theorem dX8_top_117 : decode cX8_top 117 = .ok (.iload 5, 2) := by decide +kernel
theorem dX8_top_119 : decode cX8_top 119 = .ok (.laload, 1) := by decide +kernel
theorem dX8_top_120 : decode cX8_top 120 = .ok (.lastore, 1) := by decide +kernel
theorem dX8_top_121 : decode cX8_top 121 = .ok (.aload_n 0, 1) := by decide +kernel
theorem dX8_top_122 : decode cX8_top 122 = .ok (.getfield 71, 3) := by decide +kernel
theorem dX8_top_125 : decode cX8_top 125 = .ok (.aload_n 0, 1) := by decide +kernel
theorem dX8_top_126 : decode cX8_top 126 = .ok (.getfield 62, 3) := by decide +kernel
theorem dX8_top_129 : decode cX8_top 129 = .ok (.iload 5, 2) := by decide +kernel
theorem dX8_top_131 : decode cX8_top 131 = .ok (.iaload, 1) := by decide +kernel
theorem dX8_top_132 : decode cX8_top 132 = .ok (.iconst 1, 1) := by decide +kernel
theorem dX8_top_133 : decode cX8_top 133 = .ok (.bastore, 1) := by decide +kernel
theorem dX8_top_134 : decode cX8_top 134 = .ok (.iinc 5 1, 3) := by decide +kernel
theorem dX8_top_137 : decode cX8_top 137 = .ok (.goto (-44), 3) := by decide +kernel
theorem dX8_top_140 : decode cX8_top 140 = .ok (.bipush 7, 2) := by decide +kernel
theorem dX8_top_142 : decode cX8_top 142 = .ok (.istore 5, 2) := by decide +kernel
theorem dX8_top_144 : decode cX8_top 144 = .ok (.iload 5, 2) := by decide +kernel
theorem dX8_top_146 : decode cX8_top 146 = .ok (.ifCond .le 83, 3) := by decide +kernel
theorem dX8_top_149 : decode cX8_top 149 = .ok (.aload_n 0, 1) := by decide +kernel
theorem dX8_top_150 : decode cX8_top 150 = .ok (.getfield 71, 3) := by decide +kernel
theorem dX8_top_153 : decode cX8_top 153 = .ok (.iload 5, 2) := by decide +kernel
theorem dX8_top_155 : decode cX8_top 155 = .ok (.baload, 1) := by decide +kernel
theorem dX8_top_156 : decode cX8_top 156 = .ok (.ifCond .ne 67, 3) := by decide +kernel
theorem dX8_top_159 : decode cX8_top 159 = .ok (.aload_n 0, 1) := by decide +kernel
theorem dX8_top_160 : decode cX8_top 160 = .ok (.getfield 71, 3) := by decide +kernel
theorem dX8_top_163 : decode cX8_top 163 = .ok (.iconst 2, 1) := by decide +kernel
theorem dX8_top_164 : decode cX8_top 164 = .ok (.iload 5, 2) := by decide +kernel
theorem dX8_top_166 : decode cX8_top 166 = .ok (.imul, 1) := by decide +kernel
theorem dX8_top_167 : decode cX8_top 167 = .ok (.baload, 1) := by decide +kernel
theorem dX8_top_168 : decode cX8_top 168 = .ok (.ifCond .eq 55, 3) := by decide +kernel
theorem dX8_top_171 : decode cX8_top 171 = .ok (.aload_n 0, 1) := by decide +kernel
theorem dX8_top_172 : decode cX8_top 172 = .ok (.getfield 71, 3) := by decide +kernel
theorem dX8_top_175 : decode cX8_top 175 = .ok (.iconst 2, 1) := by decide +kernel
theorem dX8_top_176 : decode cX8_top 176 = .ok (.iload 5, 2) := by decide +kernel
theorem dX8_top_178 : decode cX8_top 178 = .ok (.imul, 1) := by decide +kernel
theorem dX8_top_179 : decode cX8_top 179 = .ok (.iconst 1, 1) := by decide +kernel
theorem dX8_top_180 : decode cX8_top 180 = .ok (.iadd, 1) := by decide +kernel
theorem dX8_top_181 : decode cX8_top 181 = .ok (.baload, 1) := by decide +kernel
theorem dX8_top_182 : decode cX8_top 182 = .ok (.ifCond .eq 41, 3) := by decide +kernel
theorem dX8_top_185 : decode cX8_top 185 = .ok (.aload_n 0, 1) := by decide +kernel
theorem dX8_top_186 : decode cX8_top 186 = .ok (.getfield 75, 3) := by decide +kernel
theorem dX8_top_189 : decode cX8_top 189 = .ok (.iload 5, 2) := by decide +kernel
theorem dX8_top_191 : decode cX8_top 191 = .ok (.aload_n 0, 1) := by decide +kernel
theorem dX8_top_192 : decode cX8_top 192 = .ok (.getfield 75, 3) := by decide +kernel
theorem dX8_top_195 : decode cX8_top 195 = .ok (.iconst 2, 1) := by decide +kernel
theorem dX8_top_196 : decode cX8_top 196 = .ok (.iload 5, 2) := by decide +kernel
theorem dX8_top_198 : decode cX8_top 198 = .ok (.imul, 1) := by decide +kernel
theorem dX8_top_199 : decode cX8_top 199 = .ok (.laload, 1) := by decide +kernel
theorem dX8_top_200 : decode cX8_top 200 = .ok (.aload_n 0, 1) := by decide +kernel
theorem dX8_top_201 : decode cX8_top 201 = .ok (.getfield 75, 3) := by decide +kernel
theorem dX8_top_204 : decode cX8_top 204 = .ok (.iconst 2, 1) := by decide +kernel
theorem dX8_top_205 : decode cX8_top 205 = .ok (.iload 5, 2) := by decide +kernel
theorem dX8_top_207 : decode cX8_top 207 = .ok (.imul, 1) := by decide +kernel
theorem dX8_top_208 : decode cX8_top 208 = .ok (.iconst 1, 1) := by decide +kernel
theorem dX8_top_209 : decode cX8_top 209 = .ok (.iadd, 1) := by decide +kernel
theorem dX8_top_210 : decode cX8_top 210 = .ok (.laload, 1) := by decide +kernel
theorem dX8_top_211 : decode cX8_top 211 = .ok (.invokestatic 128, 3) := by decide +kernel
theorem dX8_top_214 : decode cX8_top 214 = .ok (.lastore, 1) := by decide +kernel
theorem dX8_top_215 : decode cX8_top 215 = .ok (.aload_n 0, 1) := by decide +kernel
theorem dX8_top_216 : decode cX8_top 216 = .ok (.getfield 71, 3) := by decide +kernel
theorem dX8_top_219 : decode cX8_top 219 = .ok (.iload 5, 2) := by decide +kernel
theorem dX8_top_221 : decode cX8_top 221 = .ok (.iconst 1, 1) := by decide +kernel
theorem dX8_top_222 : decode cX8_top 222 = .ok (.bastore, 1) := by decide +kernel
theorem dX8_top_223 : decode cX8_top 223 = .ok (.iinc 5 (-1), 3) := by decide +kernel
theorem dX8_top_226 : decode cX8_top 226 = .ok (.goto (-82), 3) := by decide +kernel
theorem dX8_top_229 : decode cX8_top 229 = .ok (.aload_n 0, 1) := by decide +kernel
theorem dX8_top_230 : decode cX8_top 230 = .ok (.getfield 75, 3) := by decide +kernel
theorem dX8_top_233 : decode cX8_top 233 = .ok (.iconst 1, 1) := by decide +kernel
theorem dX8_top_234 : decode cX8_top 234 = .ok (.laload, 1) := by decide +kernel
theorem dX8_top_235 : decode cX8_top 235 = .ok (.lreturn, 1) := by decide +kernel
theorem dX8_fraud_0 : decode cX8_fraud 0 = .ok (.aload_n 0, 1) := by decide +kernel
theorem dX8_fraud_1 : decode cX8_fraud 1 = .ok (.iload_n 1, 1) := by decide +kernel
theorem dX8_fraud_2 : decode cX8_fraud 2 = .ok (.invokevirtual 117, 3) := by decide +kernel
theorem dX8_fraud_5 : decode cX8_fraud 5 = .ok (.ifCond .eq 17, 3) := by decide +kernel
theorem dX8_fraud_8 : decode cX8_fraud 8 = .ok (.aload_n 0, 1) := by decide +kernel
theorem dX8_fraud_9 : decode cX8_fraud 9 = .ok (.iload_n 2, 1) := by decide +kernel
theorem dX8_fraud_10 : decode cX8_fraud 10 = .ok (.invokevirtual 117, 3) := by decide +kernel
theorem dX8_fraud_13 : decode cX8_fraud 13 = .ok (.ifCond .eq 9, 3) := by decide +kernel
theorem dX8_fraud_16 : decode cX8_fraud 16 = .ok (.lload_n 3, 1) := by decide +kernel
theorem dX8_fraud_17 : decode cX8_fraud 17 = .ok (.lconst 1, 1) := by decide +kernel
theorem dX8_fraud_18 : decode cX8_fraud 18 = .ok (.lcmp, 1) := by decide +kernel
theorem dX8_fraud_19 : decode cX8_fraud 19 = .ok (.ifCond .ge 5, 3) := by decide +kernel
theorem dX8_fraud_22 : decode cX8_fraud 22 = .ok (.iconst (-1), 1) := by decide +kernel
theorem dX8_fraud_23 : decode cX8_fraud 23 = .ok (.ireturn, 1) := by decide +kernel
theorem dX8_fraud_24 : decode cX8_fraud 24 = .ok (.aload_n 0, 1) := by decide +kernel
theorem dX8_fraud_25 : decode cX8_fraud 25 = .ok (.aload_n 0, 1) := by decide +kernel
theorem dX8_fraud_26 : decode cX8_fraud 26 = .ok (.getfield 185, 3) := by decide +kernel
theorem dX8_fraud_29 : decode cX8_fraud 29 = .ok (.aload_n 0, 1) := by decide +kernel
theorem dX8_fraud_30 : decode cX8_fraud 30 = .ok (.getfield 189, 3) := by decide +kernel
theorem dX8_fraud_33 : decode cX8_fraud 33 = .ok (.invokevirtual 197, 3) := by decide +kernel
theorem dX8_fraud_36 : decode cX8_fraud 36 = .ok (.aload_n 0, 1) := by decide +kernel
theorem dX8_fraud_37 : decode cX8_fraud 37 = .ok (.getfield 26, 3) := by decide +kernel
theorem dX8_fraud_40 : decode cX8_fraud 40 = .ok (.iload_n 1, 1) := by decide +kernel
theorem dX8_fraud_41 : decode cX8_fraud 41 = .ok (.laload, 1) := by decide +kernel
theorem dX8_fraud_42 : decode cX8_fraud 42 = .ok (.lcmp, 1) := by decide +kernel
theorem dX8_fraud_43 : decode cX8_fraud 43 = .ok (.ifCond .eq 6, 3) := by decide +kernel
theorem dX8_fraud_46 : decode cX8_fraud 46 = .ok (.bipush (-2), 2) := by decide +kernel
theorem dX8_fraud_48 : decode cX8_fraud 48 = .ok (.ireturn, 1) := by decide +kernel
theorem dX8_fraud_49 : decode cX8_fraud 49 = .ok (.aload_n 0, 1) := by decide +kernel
theorem dX8_fraud_50 : decode cX8_fraud 50 = .ok (.getfield 185, 3) := by decide +kernel
theorem dX8_fraud_53 : decode cX8_fraud 53 = .ok (.lload_n 3, 1) := by decide +kernel
theorem dX8_fraud_54 : decode cX8_fraud 54 = .ok (.lcmp, 1) := by decide +kernel
theorem dX8_fraud_55 : decode cX8_fraud 55 = .ok (.ifCond .lt 7, 3) := by decide +kernel
theorem dX8_fraud_58 : decode cX8_fraud 58 = .ok (.iconst 1, 1) := by decide +kernel
theorem dX8_fraud_59 : decode cX8_fraud 59 = .ok (.goto 4, 3) := by decide +kernel
theorem dX8_fraud_62 : decode cX8_fraud 62 = .ok (.iconst 0, 1) := by decide +kernel
theorem dX8_fraud_63 : decode cX8_fraud 63 = .ok (.istore 5, 2) := by decide +kernel
theorem dX8_fraud_65 : decode cX8_fraud 65 = .ok (.aload_n 0, 1) := by decide +kernel
theorem dX8_fraud_66 : decode cX8_fraud 66 = .ok (.iload 5, 2) := by decide +kernel
theorem dX8_fraud_68 : decode cX8_fraud 68 = .ok (.ifCond .eq 12, 3) := by decide +kernel
theorem dX8_fraud_71 : decode cX8_fraud 71 = .ok (.aload_n 0, 1) := by decide +kernel
theorem dX8_fraud_72 : decode cX8_fraud 72 = .ok (.getfield 185, 3) := by decide +kernel
theorem dX8_fraud_75 : decode cX8_fraud 75 = .ok (.lload_n 3, 1) := by decide +kernel
theorem dX8_fraud_76 : decode cX8_fraud 76 = .ok (.lsub, 1) := by decide +kernel
theorem dX8_fraud_77 : decode cX8_fraud 77 = .ok (.goto 7, 3) := by decide +kernel
theorem dX8_fraud_80 : decode cX8_fraud 80 = .ok (.aload_n 0, 1) := by decide +kernel
theorem dX8_fraud_81 : decode cX8_fraud 81 = .ok (.getfield 185, 3) := by decide +kernel
theorem dX8_fraud_84 : decode cX8_fraud 84 = .ok (.iload 5, 2) := by decide +kernel
theorem dX8_fraud_86 : decode cX8_fraud 86 = .ok (.ifCond .eq 12, 3) := by decide +kernel
theorem dX8_fraud_89 : decode cX8_fraud 89 = .ok (.aload_n 0, 1) := by decide +kernel
theorem dX8_fraud_90 : decode cX8_fraud 90 = .ok (.getfield 189, 3) := by decide +kernel
theorem dX8_fraud_93 : decode cX8_fraud 93 = .ok (.lload_n 3, 1) := by decide +kernel
theorem dX8_fraud_94 : decode cX8_fraud 94 = .ok (.ladd, 1) := by decide +kernel
theorem dX8_fraud_95 : decode cX8_fraud 95 = .ok (.goto 7, 3) := by decide +kernel
theorem dX8_fraud_98 : decode cX8_fraud 98 = .ok (.aload_n 0, 1) := by decide +kernel
theorem dX8_fraud_99 : decode cX8_fraud 99 = .ok (.getfield 189, 3) := by decide +kernel
theorem dX8_fraud_102 : decode cX8_fraud 102 = .ok (.invokevirtual 197, 3) := by decide +kernel
theorem dX8_fraud_105 : decode cX8_fraud 105 = .ok (.lstore 6, 2) := by decide +kernel
theorem dX8_fraud_107 : decode cX8_fraud 107 = .ok (.lload 6, 2) := by decide +kernel
theorem dX8_fraud_109 : decode cX8_fraud 109 = .ok (.aload_n 0, 1) := by decide +kernel
theorem dX8_fraud_110 : decode cX8_fraud 110 = .ok (.getfield 26, 3) := by decide +kernel
theorem dX8_fraud_113 : decode cX8_fraud 113 = .ok (.iload_n 2, 1) := by decide +kernel
theorem dX8_fraud_114 : decode cX8_fraud 114 = .ok (.laload, 1) := by decide +kernel
theorem dX8_fraud_115 : decode cX8_fraud 115 = .ok (.lcmp, 1) := by decide +kernel
theorem dX8_fraud_116 : decode cX8_fraud 116 = .ok (.ifCond .ne 7, 3) := by decide +kernel
theorem dX8_fraud_119 : decode cX8_fraud 119 = .ok (.iconst 0, 1) := by decide +kernel
theorem dX8_fraud_120 : decode cX8_fraud 120 = .ok (.goto 4, 3) := by decide +kernel
theorem dX8_fraud_123 : decode cX8_fraud 123 = .ok (.iconst 1, 1) := by decide +kernel
theorem dX8_fraud_124 : decode cX8_fraud 124 = .ok (.ireturn, 1) := by decide +kernel
theorem dX8_gcd_0 : decode cX8_gcd 0 = .ok (.lload_n 0, 1) := by decide +kernel
theorem dX8_gcd_1 : decode cX8_gcd 1 = .ok (.lstore 4, 2) := by decide +kernel
theorem dX8_gcd_3 : decode cX8_gcd 3 = .ok (.lload_n 2, 1) := by decide +kernel
theorem dX8_gcd_4 : decode cX8_gcd 4 = .ok (.lstore 6, 2) := by decide +kernel
theorem dX8_gcd_6 : decode cX8_gcd 6 = .ok (.lload 6, 2) := by decide +kernel
theorem dX8_gcd_8 : decode cX8_gcd 8 = .ok (.lconst 0, 1) := by decide +kernel
theorem dX8_gcd_9 : decode cX8_gcd 9 = .ok (.lcmp, 1) := by decide +kernel
theorem dX8_gcd_10 : decode cX8_gcd 10 = .ok (.ifCond .eq 21, 3) := by decide +kernel
theorem dX8_gcd_13 : decode cX8_gcd 13 = .ok (.lload 4, 2) := by decide +kernel
theorem dX8_gcd_15 : decode cX8_gcd 15 = .ok (.lload 6, 2) := by decide +kernel
theorem dX8_gcd_17 : decode cX8_gcd 17 = .ok (.lrem, 1) := by decide +kernel
theorem dX8_gcd_18 : decode cX8_gcd 18 = .ok (.lstore 8, 2) := by decide +kernel
theorem dX8_gcd_20 : decode cX8_gcd 20 = .ok (.lload 6, 2) := by decide +kernel
theorem dX8_gcd_22 : decode cX8_gcd 22 = .ok (.lstore 4, 2) := by decide +kernel
theorem dX8_gcd_24 : decode cX8_gcd 24 = .ok (.lload 8, 2) := by decide +kernel
theorem dX8_gcd_26 : decode cX8_gcd 26 = .ok (.lstore 6, 2) := by decide +kernel
theorem dX8_gcd_28 : decode cX8_gcd 28 = .ok (.goto (-22), 3) := by decide +kernel
theorem dX8_gcd_31 : decode cX8_gcd 31 = .ok (.lload 4, 2) := by decide +kernel
theorem dX8_gcd_33 : decode cX8_gcd 33 = .ok (.lreturn, 1) := by decide +kernel
theorem dX8_choose_0 : decode cX8_choose 0 = .ok (.iload_n 1, 1) := by decide +kernel
theorem dX8_choose_1 : decode cX8_choose 1 = .ok (.iload_n 0, 1) := by decide +kernel
theorem dX8_choose_2 : decode cX8_choose 2 = .ok (.if_icmp .le 7, 3) := by decide +kernel
theorem dX8_choose_5 : decode cX8_choose 5 = .ok (.lconst 0, 1) := by decide +kernel
theorem dX8_choose_6 : decode cX8_choose 6 = .ok (.goto 4, 3) := by decide +kernel
theorem dX8_choose_9 : decode cX8_choose 9 = .ok (.lconst 1, 1) := by decide +kernel
theorem dX8_choose_10 : decode cX8_choose 10 = .ok (.lstore_n 2, 1) := by decide +kernel
theorem dX8_choose_11 : decode cX8_choose 11 = .ok (.iconst 1, 1) := by decide +kernel
theorem dX8_choose_12 : decode cX8_choose 12 = .ok (.istore 4, 2) := by decide +kernel
theorem dX8_choose_14 : decode cX8_choose 14 = .ok (.iload 4, 2) := by decide +kernel
theorem dX8_choose_16 : decode cX8_choose 16 = .ok (.iload_n 1, 1) := by decide +kernel
theorem dX8_choose_17 : decode cX8_choose 17 = .ok (.if_icmp .gt 53, 3) := by decide +kernel
theorem dX8_choose_20 : decode cX8_choose 20 = .ok (.iload_n 1, 1) := by decide +kernel
theorem dX8_choose_21 : decode cX8_choose 21 = .ok (.iload_n 0, 1) := by decide +kernel
theorem dX8_choose_22 : decode cX8_choose 22 = .ok (.if_icmp .gt 48, 3) := by decide +kernel
theorem dX8_choose_25 : decode cX8_choose 25 = .ok (.iload_n 0, 1) := by decide +kernel
theorem dX8_choose_26 : decode cX8_choose 26 = .ok (.iload_n 1, 1) := by decide +kernel
theorem dX8_choose_27 : decode cX8_choose 27 = .ok (.isub, 1) := by decide +kernel
theorem dX8_choose_28 : decode cX8_choose 28 = .ok (.iload 4, 2) := by decide +kernel
theorem dX8_choose_30 : decode cX8_choose 30 = .ok (.iadd, 1) := by decide +kernel
theorem dX8_choose_31 : decode cX8_choose 31 = .ok (.i2l, 1) := by decide +kernel
theorem dX8_choose_32 : decode cX8_choose 32 = .ok (.iload 4, 2) := by decide +kernel
theorem dX8_choose_34 : decode cX8_choose 34 = .ok (.i2l, 1) := by decide +kernel
theorem dX8_choose_35 : decode cX8_choose 35 = .ok (.invokestatic 200, 3) := by decide +kernel
theorem dX8_choose_38 : decode cX8_choose 38 = .ok (.lstore 5, 2) := by decide +kernel
theorem dX8_choose_40 : decode cX8_choose 40 = .ok (.iload_n 0, 1) := by decide +kernel
theorem dX8_choose_41 : decode cX8_choose 41 = .ok (.iload_n 1, 1) := by decide +kernel
theorem dX8_choose_42 : decode cX8_choose 42 = .ok (.isub, 1) := by decide +kernel
theorem dX8_choose_43 : decode cX8_choose 43 = .ok (.iload 4, 2) := by decide +kernel
theorem dX8_choose_45 : decode cX8_choose 45 = .ok (.iadd, 1) := by decide +kernel
theorem dX8_choose_46 : decode cX8_choose 46 = .ok (.i2l, 1) := by decide +kernel
theorem dX8_choose_47 : decode cX8_choose 47 = .ok (.lload 5, 2) := by decide +kernel
theorem dX8_choose_49 : decode cX8_choose 49 = .ok (.ldiv, 1) := by decide +kernel
theorem dX8_choose_50 : decode cX8_choose 50 = .ok (.lstore 7, 2) := by decide +kernel
theorem dX8_choose_52 : decode cX8_choose 52 = .ok (.lload_n 2, 1) := by decide +kernel
theorem dX8_choose_53 : decode cX8_choose 53 = .ok (.iload 4, 2) := by decide +kernel
theorem dX8_choose_55 : decode cX8_choose 55 = .ok (.i2l, 1) := by decide +kernel
theorem dX8_choose_56 : decode cX8_choose 56 = .ok (.lload 5, 2) := by decide +kernel
theorem dX8_choose_58 : decode cX8_choose 58 = .ok (.ldiv, 1) := by decide +kernel
theorem dX8_choose_59 : decode cX8_choose 59 = .ok (.ldiv, 1) := by decide +kernel
theorem dX8_choose_60 : decode cX8_choose 60 = .ok (.lload 7, 2) := by decide +kernel
theorem dX8_choose_62 : decode cX8_choose 62 = .ok (.lmul, 1) := by decide +kernel
theorem dX8_choose_63 : decode cX8_choose 63 = .ok (.lstore_n 2, 1) := by decide +kernel
theorem dX8_choose_64 : decode cX8_choose 64 = .ok (.iinc 4 1, 3) := by decide +kernel
theorem dX8_choose_67 : decode cX8_choose 67 = .ok (.goto (-53), 3) := by decide +kernel
theorem dX8_choose_70 : decode cX8_choose 70 = .ok (.lload_n 2, 1) := by decide +kernel
theorem dX8_choose_71 : decode cX8_choose 71 = .ok (.lreturn, 1) := by decide +kernel
theorem dX8_chance_0 : decode cX8_chance 0 = .ok (.iload_n 1, 1) := by decide +kernel
theorem dX8_chance_1 : decode cX8_chance 1 = .ok (.i2l, 1) := by decide +kernel
theorem dX8_chance_2 : decode cX8_chance 2 = .ok (.lconst 1, 1) := by decide +kernel
theorem dX8_chance_3 : decode cX8_chance 3 = .ok (.ldc2_w 203, 3) := by decide +kernel
theorem dX8_chance_6 : decode cX8_chance 6 = .ok (.invokestatic 96, 3) := by decide +kernel
theorem dX8_chance_9 : decode cX8_chance 9 = .ok (.ifCond .eq 36, 3) := by decide +kernel
theorem dX8_chance_12 : decode cX8_chance 12 = .ok (.iload_n 2, 1) := by decide +kernel
theorem dX8_chance_13 : decode cX8_chance 13 = .ok (.i2l, 1) := by decide +kernel
theorem dX8_chance_14 : decode cX8_chance 14 = .ok (.lconst 0, 1) := by decide +kernel
theorem dX8_chance_15 : decode cX8_chance 15 = .ok (.iload_n 1, 1) := by decide +kernel
theorem dX8_chance_16 : decode cX8_chance 16 = .ok (.i2l, 1) := by decide +kernel
theorem dX8_chance_17 : decode cX8_chance 17 = .ok (.invokestatic 96, 3) := by decide +kernel
theorem dX8_chance_20 : decode cX8_chance 20 = .ok (.ifCond .eq 25, 3) := by decide +kernel
theorem dX8_chance_23 : decode cX8_chance 23 = .ok (.iload_n 3, 1) := by decide +kernel
theorem dX8_chance_24 : decode cX8_chance 24 = .ok (.i2l, 1) := by decide +kernel
theorem dX8_chance_25 : decode cX8_chance 25 = .ok (.lconst 0, 1) := by decide +kernel
theorem dX8_chance_26 : decode cX8_chance 26 = .ok (.iload_n 1, 1) := by decide +kernel
theorem dX8_chance_27 : decode cX8_chance 27 = .ok (.i2l, 1) := by decide +kernel
theorem dX8_chance_28 : decode cX8_chance 28 = .ok (.invokestatic 96, 3) := by decide +kernel
theorem dX8_chance_31 : decode cX8_chance 31 = .ok (.ifCond .eq 14, 3) := by decide +kernel
theorem dX8_chance_34 : decode cX8_chance 34 = .ok (.iload 4, 2) := by decide +kernel
theorem dX8_chance_36 : decode cX8_chance 36 = .ok (.i2l, 1) := by decide +kernel
theorem dX8_chance_37 : decode cX8_chance 37 = .ok (.lconst 0, 1) := by decide +kernel
theorem dX8_chance_38 : decode cX8_chance 38 = .ok (.lconst 1, 1) := by decide +kernel
theorem dX8_chance_39 : decode cX8_chance 39 = .ok (.invokestatic 96, 3) := by decide +kernel
theorem dX8_chance_42 : decode cX8_chance 42 = .ok (.ifCond .ne 7, 3) := by decide +kernel
theorem dX8_chance_45 : decode cX8_chance 45 = .ok (.ldc2_w 205, 3) := by decide +kernel
theorem dX8_chance_48 : decode cX8_chance 48 = .ok (.lreturn, 1) := by decide +kernel
theorem dX8_chance_49 : decode cX8_chance 49 = .ok (.iload_n 1, 1) := by decide +kernel
theorem dX8_chance_50 : decode cX8_chance 50 = .ok (.iload_n 2, 1) := by decide +kernel
theorem dX8_chance_51 : decode cX8_chance 51 = .ok (.isub, 1) := by decide +kernel
theorem dX8_chance_52 : decode cX8_chance 52 = .ok (.iload_n 3, 1) := by decide +kernel
theorem dX8_chance_53 : decode cX8_chance 53 = .ok (.invokestatic 207, 3) := by decide +kernel
theorem dX8_chance_56 : decode cX8_chance 56 = .ok (.lstore 5, 2) := by decide +kernel
theorem dX8_chance_58 : decode cX8_chance 58 = .ok (.iload_n 1, 1) := by decide +kernel
theorem dX8_chance_59 : decode cX8_chance 59 = .ok (.iload_n 3, 1) := by decide +kernel
theorem dX8_chance_60 : decode cX8_chance 60 = .ok (.invokestatic 207, 3) := by decide +kernel
theorem dX8_chance_63 : decode cX8_chance 63 = .ok (.lstore 7, 2) := by decide +kernel
theorem dX8_chance_65 : decode cX8_chance 65 = .ok (.lload 7, 2) := by decide +kernel
theorem dX8_chance_67 : decode cX8_chance 67 = .ok (.lload 5, 2) := by decide +kernel
theorem dX8_chance_69 : decode cX8_chance 69 = .ok (.invokestatic 200, 3) := by decide +kernel
theorem dX8_chance_72 : decode cX8_chance 72 = .ok (.lstore 9, 2) := by decide +kernel
theorem dX8_chance_74 : decode cX8_chance 74 = .ok (.iload 4, 2) := by decide +kernel
theorem dX8_chance_76 : decode cX8_chance 76 = .ok (.ifCond .ne 11, 3) := by decide +kernel
theorem dX8_chance_79 : decode cX8_chance 79 = .ok (.lload 5, 2) := by decide +kernel
theorem dX8_chance_81 : decode cX8_chance 81 = .ok (.lload 9, 2) := by decide +kernel
theorem dX8_chance_83 : decode cX8_chance 83 = .ok (.ldiv, 1) := by decide +kernel
theorem dX8_chance_84 : decode cX8_chance 84 = .ok (.goto 8, 3) := by decide +kernel
theorem dX8_chance_87 : decode cX8_chance 87 = .ok (.lload 7, 2) := by decide +kernel
theorem dX8_chance_89 : decode cX8_chance 89 = .ok (.lload 9, 2) := by decide +kernel
theorem dX8_chance_91 : decode cX8_chance 91 = .ok (.ldiv, 1) := by decide +kernel
theorem dX8_chance_92 : decode cX8_chance 92 = .ok (.lreturn, 1) := by decide +kernel
theorem dX8_samples_0 : decode cX8_samples 0 = .ok (.iload_n 1, 1) := by decide +kernel
theorem dX8_samples_1 : decode cX8_samples 1 = .ok (.i2l, 1) := by decide +kernel
theorem dX8_samples_2 : decode cX8_samples 2 = .ok (.lconst 1, 1) := by decide +kernel
theorem dX8_samples_3 : decode cX8_samples 3 = .ok (.ldc2_w 203, 3) := by decide +kernel
theorem dX8_samples_6 : decode cX8_samples 6 = .ok (.invokestatic 96, 3) := by decide +kernel
theorem dX8_samples_9 : decode cX8_samples 9 = .ok (.ifCond .eq 26, 3) := by decide +kernel
theorem dX8_samples_12 : decode cX8_samples 12 = .ok (.iload_n 2, 1) := by decide +kernel
theorem dX8_samples_13 : decode cX8_samples 13 = .ok (.i2l, 1) := by decide +kernel
theorem dX8_samples_14 : decode cX8_samples 14 = .ok (.lconst 0, 1) := by decide +kernel
theorem dX8_samples_15 : decode cX8_samples 15 = .ok (.iload_n 1, 1) := by decide +kernel
theorem dX8_samples_16 : decode cX8_samples 16 = .ok (.i2l, 1) := by decide +kernel
theorem dX8_samples_17 : decode cX8_samples 17 = .ok (.invokestatic 96, 3) := by decide +kernel
theorem dX8_samples_20 : decode cX8_samples 20 = .ok (.ifCond .eq 15, 3) := by decide +kernel
theorem dX8_samples_23 : decode cX8_samples 23 = .ok (.iload_n 3, 1) := by decide +kernel
theorem dX8_samples_24 : decode cX8_samples 24 = .ok (.i2l, 1) := by decide +kernel
theorem dX8_samples_25 : decode cX8_samples 25 = .ok (.lconst 1, 1) := by decide +kernel
theorem dX8_samples_26 : decode cX8_samples 26 = .ok (.ldc2_w 211, 3) := by decide +kernel
theorem dX8_samples_29 : decode cX8_samples 29 = .ok (.invokestatic 96, 3) := by decide +kernel
theorem dX8_samples_32 : decode cX8_samples 32 = .ok (.ifCond .ne 5, 3) := by decide +kernel
theorem dX8_samples_35 : decode cX8_samples 35 = .ok (.iconst (-1), 1) := by decide +kernel
theorem dX8_samples_36 : decode cX8_samples 36 = .ok (.ireturn, 1) := by decide +kernel
theorem dX8_samples_37 : decode cX8_samples 37 = .ok (.iconst 0, 1) := by decide +kernel
theorem dX8_samples_38 : decode cX8_samples 38 = .ok (.istore 4, 2) := by decide +kernel
theorem dX8_samples_40 : decode cX8_samples 40 = .ok (.iload 4, 2) := by decide +kernel
theorem dX8_samples_42 : decode cX8_samples 42 = .ok (.iload_n 1, 1) := by decide +kernel
theorem dX8_samples_43 : decode cX8_samples 43 = .ok (.if_icmp .gt 33, 3) := by decide +kernel
theorem dX8_samples_46 : decode cX8_samples 46 = .ok (.iload_n 1, 1) := by decide +kernel
theorem dX8_samples_47 : decode cX8_samples 47 = .ok (.iload_n 2, 1) := by decide +kernel
theorem dX8_samples_48 : decode cX8_samples 48 = .ok (.isub, 1) := by decide +kernel
theorem dX8_samples_49 : decode cX8_samples 49 = .ok (.iload 4, 2) := by decide +kernel
theorem dX8_samples_51 : decode cX8_samples 51 = .ok (.invokestatic 207, 3) := by decide +kernel
theorem dX8_samples_54 : decode cX8_samples 54 = .ok (.iload_n 1, 1) := by decide +kernel
theorem dX8_samples_55 : decode cX8_samples 55 = .ok (.iload 4, 2) := by decide +kernel
theorem dX8_samples_57 : decode cX8_samples 57 = .ok (.invokestatic 207, 3) := by decide +kernel
theorem dX8_samples_60 : decode cX8_samples 60 = .ok (.iload_n 3, 1) := by decide +kernel
theorem dX8_samples_61 : decode cX8_samples 61 = .ok (.i2l, 1) := by decide +kernel
theorem dX8_samples_62 : decode cX8_samples 62 = .ok (.ldiv, 1) := by decide +kernel
theorem dX8_samples_63 : decode cX8_samples 63 = .ok (.lcmp, 1) := by decide +kernel
theorem dX8_samples_64 : decode cX8_samples 64 = .ok (.ifCond .gt 6, 3) := by decide +kernel
theorem dX8_samples_67 : decode cX8_samples 67 = .ok (.iload 4, 2) := by decide +kernel
theorem dX8_samples_69 : decode cX8_samples 69 = .ok (.ireturn, 1) := by decide +kernel
theorem dX8_samples_70 : decode cX8_samples 70 = .ok (.iinc 4 1, 3) := by decide +kernel
theorem dX8_samples_73 : decode cX8_samples 73 = .ok (.goto (-33), 3) := by decide +kernel
theorem dX8_samples_76 : decode cX8_samples 76 = .ok (.bipush (-2), 2) := by decide +kernel
theorem dX8_samples_78 : decode cX8_samples 78 = .ok (.ireturn, 1) := by decide +kernel
theorem dX8_told_0 : decode cX8_told 0 = .ok (.iload_n 1, 1) := by decide +kernel
theorem dX8_told_1 : decode cX8_told 1 = .ok (.ifCond .ne 10, 3) := by decide +kernel
theorem dX8_told_4 : decode cX8_told 4 = .ok (.aload_n 0, 1) := by decide +kernel
theorem dX8_told_5 : decode cX8_told 5 = .ok (.getfield 104, 3) := by decide +kernel
theorem dX8_told_8 : decode cX8_told 8 = .ok (.goto 41, 3) := by decide +kernel
theorem dX8_told_11 : decode cX8_told 11 = .ok (.iload_n 1, 1) := by decide +kernel
theorem dX8_told_12 : decode cX8_told 12 = .ok (.iconst 1, 1) := by decide +kernel
theorem dX8_told_13 : decode cX8_told 13 = .ok (.if_icmp .ne 10, 3) := by decide +kernel
theorem dX8_told_16 : decode cX8_told 16 = .ok (.aload_n 0, 1) := by decide +kernel
theorem dX8_told_17 : decode cX8_told 17 = .ok (.getfield 108, 3) := by decide +kernel
theorem dX8_told_20 : decode cX8_told 20 = .ok (.goto 29, 3) := by decide +kernel
theorem dX8_told_23 : decode cX8_told 23 = .ok (.iload_n 1, 1) := by decide +kernel
theorem dX8_told_24 : decode cX8_told 24 = .ok (.i2l, 1) := by decide +kernel
theorem dX8_told_25 : decode cX8_told 25 = .ok (.ldc2_w 122, 3) := by decide +kernel
theorem dX8_told_28 : decode cX8_told 28 = .ok (.ldc2_w 213, 3) := by decide +kernel
theorem dX8_told_31 : decode cX8_told 31 = .ok (.invokestatic 96, 3) := by decide +kernel
theorem dX8_told_34 : decode cX8_told 34 = .ok (.ifCond .eq 14, 3) := by decide +kernel
theorem dX8_told_37 : decode cX8_told 37 = .ok (.aload_n 0, 1) := by decide +kernel
theorem dX8_told_38 : decode cX8_told 38 = .ok (.getfield 32, 3) := by decide +kernel
theorem dX8_told_41 : decode cX8_told 41 = .ok (.iload_n 1, 1) := by decide +kernel
theorem dX8_told_42 : decode cX8_told 42 = .ok (.iconst 2, 1) := by decide +kernel
theorem dX8_told_43 : decode cX8_told 43 = .ok (.isub, 1) := by decide +kernel
theorem dX8_told_44 : decode cX8_told 44 = .ok (.iaload, 1) := by decide +kernel
theorem dX8_told_45 : decode cX8_told 45 = .ok (.goto 4, 3) := by decide +kernel
theorem dX8_told_48 : decode cX8_told 48 = .ok (.iconst (-1), 1) := by decide +kernel
theorem dX8_told_49 : decode cX8_told 49 = .ok (.ireturn, 1) := by decide +kernel
