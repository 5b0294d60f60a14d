theorem dX8_init_0 : decode cX8_init 0 = .ok (.aload_n 0, 1) := by decide +kernel
theorem dX8_init_1 : decode cX8_init 1 = .ok (.invokespecial 1, 3) := by decide +kernel
theorem dX8_init_4 : decode cX8_init 4 = .ok (.aload_n 0, 1) := by decide +kernel
theorem dX8_init_5 : decode cX8_init 5 = .ok (.sipush 160, 3) := by decide +kernel
theorem dX8_init_8 : decode cX8_init 8 = .ok (.newarray .int, 2) := by decide +kernel
theorem dX8_init_10 : decode cX8_init 10 = .ok (.putfield 7, 3) := by decide +kernel
theorem dX8_init_13 : decode cX8_init 13 = .ok (.aload_n 0, 1) := by decide +kernel
theorem dX8_init_14 : decode cX8_init 14 = .ok (.bipush 60, 2) := by decide +kernel
theorem dX8_init_16 : decode cX8_init 16 = .ok (.newarray .int, 2) := by decide +kernel
theorem dX8_init_18 : decode cX8_init 18 = .ok (.putfield 13, 3) := by decide +kernel
theorem dX8_init_21 : decode cX8_init 21 = .ok (.aload_n 0, 1) := by decide +kernel
theorem dX8_init_22 : decode cX8_init 22 = .ok (.bipush 60, 2) := by decide +kernel
theorem dX8_init_24 : decode cX8_init 24 = .ok (.newarray .long, 2) := by decide +kernel
theorem dX8_init_26 : decode cX8_init 26 = .ok (.putfield 16, 3) := by decide +kernel
theorem dX8_init_29 : decode cX8_init 29 = .ok (.aload_n 0, 1) := by decide +kernel
theorem dX8_init_30 : decode cX8_init 30 = .ok (.bipush 60, 2) := by decide +kernel
theorem dX8_init_32 : decode cX8_init 32 = .ok (.newarray .int, 2) := by decide +kernel
theorem dX8_init_34 : decode cX8_init 34 = .ok (.putfield 20, 3) := by decide +kernel
theorem dX8_init_37 : decode cX8_init 37 = .ok (.aload_n 0, 1) := by decide +kernel
theorem dX8_init_38 : decode cX8_init 38 = .ok (.bipush 60, 2) := by decide +kernel
theorem dX8_init_40 : decode cX8_init 40 = .ok (.newarray .int, 2) := by decide +kernel
theorem dX8_init_42 : decode cX8_init 42 = .ok (.putfield 23, 3) := by decide +kernel
theorem dX8_init_45 : decode cX8_init 45 = .ok (.aload_n 0, 1) := by decide +kernel
theorem dX8_init_46 : decode cX8_init 46 = .ok (.bipush 60, 2) := by decide +kernel
theorem dX8_init_48 : decode cX8_init 48 = .ok (.newarray .long, 2) := by decide +kernel
theorem dX8_init_50 : decode cX8_init 50 = .ok (.putfield 26, 3) := by decide +kernel
theorem dX8_init_53 : decode cX8_init 53 = .ok (.aload_n 0, 1) := by decide +kernel
theorem dX8_init_54 : decode cX8_init 54 = .ok (.bipush 60, 2) := by decide +kernel
theorem dX8_init_56 : decode cX8_init 56 = .ok (.newarray .int, 2) := by decide +kernel
theorem dX8_init_58 : decode cX8_init 58 = .ok (.putfield 29, 3) := by decide +kernel
theorem dX8_init_61 : decode cX8_init 61 = .ok (.aload_n 0, 1) := by decide +kernel
theorem dX8_init_62 : decode cX8_init 62 = .ok (.iconst 4, 1) := by decide +kernel
theorem dX8_init_63 : decode cX8_init 63 = .ok (.newarray .int, 2) := by decide +kernel
theorem dX8_init_65 : decode cX8_init 65 = .ok (.putfield 32, 3) := by decide +kernel
theorem dX8_init_68 : decode cX8_init 68 = .ok (.aload_n 0, 1) := by decide +kernel
theorem dX8_init_69 : decode cX8_init 69 = .ok (.iconst 4, 1) := by decide +kernel
theorem dX8_init_70 : decode cX8_init 70 = .ok (.newarray .int, 2) := by decide +kernel
theorem dX8_init_72 : decode cX8_init 72 = .ok (.putfield 35, 3) := by decide +kernel
theorem dX8_init_75 : decode cX8_init 75 = .ok (.aload_n 0, 1) := by decide +kernel
theorem dX8_init_76 : decode cX8_init 76 = .ok (.bipush 44, 2) := by decide +kernel
theorem dX8_init_78 : decode cX8_init 78 = .ok (.newarray .int, 2) := by decide +kernel
theorem dX8_init_80 : decode cX8_init 80 = .ok (.putfield 38, 3) := by decide +kernel
theorem dX8_init_83 : decode cX8_init 83 = .ok (.aload_n 0, 1) := by decide +kernel
theorem dX8_init_84 : decode cX8_init 84 = .ok (.iconst 4, 1) := by decide +kernel
theorem dX8_init_85 : decode cX8_init 85 = .ok (.newarray .int, 2) := by decide +kernel
theorem dX8_init_87 : decode cX8_init 87 = .ok (.putfield 41, 3) := by decide +kernel
theorem dX8_init_90 : decode cX8_init 90 = .ok (.aload_n 0, 1) := by decide +kernel
theorem dX8_init_91 : decode cX8_init 91 = .ok (.iconst 4, 1) := by decide +kernel
theorem dX8_init_92 : decode cX8_init 92 = .ok (.newarray .int, 2) := by decide +kernel
theorem dX8_init_94 : decode cX8_init 94 = .ok (.putfield 44, 3) := by decide +kernel
theorem dX8_init_97 : decode cX8_init 97 = .ok (.aload_n 0, 1) := by decide +kernel
theorem dX8_init_98 : decode cX8_init 98 = .ok (.iconst 4, 1) := by decide +kernel
theorem dX8_init_99 : decode cX8_init 99 = .ok (.newarray .int, 2) := by decide +kernel
theorem dX8_init_101 : decode cX8_init 101 = .ok (.putfield 47, 3) := by decide +kernel
theorem dX8_init_104 : decode cX8_init 104 = .ok (.aload_n 0, 1) := by decide +kernel
theorem dX8_init_105 : decode cX8_init 105 = .ok (.iconst 4, 1) := by decide +kernel
theorem dX8_init_106 : decode cX8_init 106 = .ok (.newarray .int, 2) := by decide +kernel
theorem dX8_init_108 : decode cX8_init 108 = .ok (.putfield 50, 3) := by decide +kernel
theorem dX8_init_111 : decode cX8_init 111 = .ok (.aload_n 0, 1) := by decide +kernel
theorem dX8_init_112 : decode cX8_init 112 = .ok (.sipush 240, 3) := by decide +kernel
theorem dX8_init_115 : decode cX8_init 115 = .ok (.newarray .int, 2) := by decide +kernel
theorem dX8_init_117 : decode cX8_init 117 = .ok (.putfield 53, 3) := by decide +kernel
theorem dX8_init_120 : decode cX8_init 120 = .ok (.aload_n 0, 1) := by decide +kernel
theorem dX8_init_121 : decode cX8_init 121 = .ok (.bipush 8, 2) := by decide +kernel
theorem dX8_init_123 : decode cX8_init 123 = .ok (.newarray .long, 2) := by decide +kernel
theorem dX8_init_125 : decode cX8_init 125 = .ok (.putfield 56, 3) := by decide +kernel
theorem dX8_init_128 : decode cX8_init 128 = .ok (.aload_n 0, 1) := by decide +kernel
theorem dX8_init_129 : decode cX8_init 129 = .ok (.bipush 16, 2) := by decide +kernel
theorem dX8_init_131 : decode cX8_init 131 = .ok (.newarray .long, 2) := by decide +kernel
theorem dX8_init_133 : decode cX8_init 133 = .ok (.putfield 59, 3) := by decide +kernel
theorem dX8_init_136 : decode cX8_init 136 = .ok (.aload_n 0, 1) := by decide +kernel
theorem dX8_init_137 : decode cX8_init 137 = .ok (.iconst 4, 1) := by decide +kernel
theorem dX8_init_138 : decode cX8_init 138 = .ok (.newarray .int, 2) := by decide +kernel
theorem dX8_init_140 : decode cX8_init 140 = .ok (.putfield 62, 3) := by decide +kernel
theorem dX8_init_143 : decode cX8_init 143 = .ok (.aload_n 0, 1) := by decide +kernel
theorem dX8_init_144 : decode cX8_init 144 = .ok (.iconst 4, 1) := by decide +kernel
theorem dX8_init_145 : decode cX8_init 145 = .ok (.newarray .long, 2) := by decide +kernel
theorem dX8_init_147 : decode cX8_init 147 = .ok (.putfield 65, 3) := by decide +kernel
theorem dX8_init_150 : decode cX8_init 150 = .ok (.aload_n 0, 1) := by decide +kernel
theorem dX8_init_151 : decode cX8_init 151 = .ok (.bipush 64, 2) := by decide +kernel
theorem dX8_init_153 : decode cX8_init 153 = .ok (.newarray .int, 2) := by decide +kernel
theorem dX8_init_155 : decode cX8_init 155 = .ok (.putfield 68, 3) := by decide +kernel
theorem dX8_init_158 : decode cX8_init 158 = .ok (.aload_n 0, 1) := by decide +kernel
theorem dX8_init_159 : decode cX8_init 159 = .ok (.bipush 16, 2) := by decide +kernel
theorem dX8_init_161 : decode cX8_init 161 = .ok (.newarray .boolean, 2) := by decide +kernel
theorem dX8_init_163 : decode cX8_init 163 = .ok (.putfield 71, 3) := by decide +kernel
theorem dX8_init_166 : decode cX8_init 166 = .ok (.aload_n 0, 1) := by decide +kernel
theorem dX8_init_167 : decode cX8_init 167 = .ok (.bipush 16, 2) := by decide +kernel
theorem dX8_init_169 : decode cX8_init 169 = .ok (.newarray .long, 2) := by decide +kernel
theorem dX8_init_171 : decode cX8_init 171 = .ok (.putfield 75, 3) := by decide +kernel
theorem dX8_init_174 : decode cX8_init 174 = .ok (.aload_n 0, 1) := by decide +kernel
theorem dX8_init_175 : decode cX8_init 175 = .ok (.getfield 32, 3) := by decide +kernel
theorem dX8_init_178 : decode cX8_init 178 = .ok (.iconst 0, 1) := by decide +kernel
theorem dX8_init_179 : decode cX8_init 179 = .ok (.iconst 1, 1) := by decide +kernel
theorem dX8_init_180 : decode cX8_init 180 = .ok (.iastore, 1) := by decide +kernel
theorem dX8_init_181 : decode cX8_init 181 = .ok (.aload_n 0, 1) := by decide +kernel
theorem dX8_init_182 : decode cX8_init 182 = .ok (.getfield 32, 3) := by decide +kernel
theorem dX8_init_185 : decode cX8_init 185 = .ok (.iconst 1, 1) := by decide +kernel
theorem dX8_init_186 : decode cX8_init 186 = .ok (.iconst 3, 1) := by decide +kernel
theorem dX8_init_187 : decode cX8_init 187 = .ok (.iastore, 1) := by decide +kernel
theorem dX8_init_188 : decode cX8_init 188 = .ok (.aload_n 0, 1) := by decide +kernel
theorem dX8_init_189 : decode cX8_init 189 = .ok (.getfield 32, 3) := by decide +kernel
theorem dX8_init_192 : decode cX8_init 192 = .ok (.iconst 2, 1) := by decide +kernel
theorem dX8_init_193 : decode cX8_init 193 = .ok (.bipush 50, 2) := by decide +kernel
theorem dX8_init_195 : decode cX8_init 195 = .ok (.iastore, 1) := by decide +kernel
theorem dX8_init_196 : decode cX8_init 196 = .ok (.aload_n 0, 1) := by decide +kernel
theorem dX8_init_197 : decode cX8_init 197 = .ok (.getfield 32, 3) := by decide +kernel
theorem dX8_init_200 : decode cX8_init 200 = .ok (.iconst 3, 1) := by decide +kernel
theorem dX8_init_201 : decode cX8_init 201 = .ok (.iconst 4, 1) := by decide +kernel
theorem dX8_init_202 : decode cX8_init 202 = .ok (.iastore, 1) := by decide +kernel
theorem dX8_init_203 : decode cX8_init 203 = .ok (.iconst 0, 1) := by decide +kernel
theorem dX8_init_204 : decode cX8_init 204 = .ok (.istore_n 1, 1) := by decide +kernel
theorem dX8_init_205 : decode cX8_init 205 = .ok (.iload_n 1, 1) := by decide +kernel
theorem dX8_init_206 : decode cX8_init 206 = .ok (.iconst 4, 1) := by decide +kernel
theorem dX8_init_207 : decode cX8_init 207 = .ok (.if_icmp .ge 25, 3) := by decide +kernel
theorem dX8_init_210 : decode cX8_init 210 = .ok (.aload_n 0, 1) := by decide +kernel
theorem dX8_init_211 : decode cX8_init 211 = .ok (.getfield 44, 3) := by decide +kernel
theorem dX8_init_214 : decode cX8_init 214 = .ok (.iload_n 1, 1) := by decide +kernel
theorem dX8_init_215 : decode cX8_init 215 = .ok (.bipush (-2), 2) := by decide +kernel
theorem dX8_init_217 : decode cX8_init 217 = .ok (.iastore, 1) := by decide +kernel
theorem dX8_init_218 : decode cX8_init 218 = .ok (.aload_n 0, 1) := by decide +kernel
theorem dX8_init_219 : decode cX8_init 219 = .ok (.getfield 47, 3) := by decide +kernel
theorem dX8_init_222 : decode cX8_init 222 = .ok (.iload_n 1, 1) := by decide +kernel
theorem dX8_init_223 : decode cX8_init 223 = .ok (.bipush (-2), 2) := by decide +kernel
theorem dX8_init_225 : decode cX8_init 225 = .ok (.iastore, 1) := by decide +kernel
theorem dX8_init_226 : decode cX8_init 226 = .ok (.iinc 1 1, 3) := by decide +kernel
theorem dX8_init_229 : decode cX8_init 229 = .ok (.goto (-24), 3) := by decide +kernel
theorem dX8_init_232 : decode cX8_init 232 = .ok (.aload_n 0, 1) := by decide +kernel
theorem dX8_init_233 : decode cX8_init 233 = .ok (.iconst 0, 1) := by decide +kernel
theorem dX8_init_234 : decode cX8_init 234 = .ok (.iconst 1, 1) := by decide +kernel
theorem dX8_init_235 : decode cX8_init 235 = .ok (.invokevirtual 78, 3) := by decide +kernel
theorem dX8_init_238 : decode cX8_init 238 = .ok (.istore_n 1, 1) := by decide +kernel
theorem dX8_init_239 : decode cX8_init 239 = .ok (.return_, 1) := by decide +kernel
theorem dX8_in_0 : decode cX8_in 0 = .ok (.lload_n 0, 1) := by decide +kernel
theorem dX8_in_1 : decode cX8_in 1 = .ok (.lload_n 2, 1) := by decide +kernel
theorem dX8_in_2 : decode cX8_in 2 = .ok (.lcmp, 1) := by decide +kernel
theorem dX8_in_3 : decode cX8_in 3 = .ok (.ifCond .lt 14, 3) := by decide +kernel
theorem dX8_in_6 : decode cX8_in 6 = .ok (.lload_n 0, 1) := by decide +kernel
theorem dX8_in_7 : decode cX8_in 7 = .ok (.lload 4, 2) := by decide +kernel
theorem dX8_in_9 : decode cX8_in 9 = .ok (.lcmp, 1) := by decide +kernel
theorem dX8_in_10 : decode cX8_in 10 = .ok (.ifCond .gt 7, 3) := by decide +kernel
theorem dX8_in_13 : decode cX8_in 13 = .ok (.iconst 1, 1) := by decide +kernel
theorem dX8_in_14 : decode cX8_in 14 = .ok (.goto 4, 3) := by decide +kernel
theorem dX8_in_17 : decode cX8_in 17 = .ok (.iconst 0, 1) := by decide +kernel
theorem dX8_in_18 : decode cX8_in 18 = .ok (.ireturn, 1) := by decide +kernel
theorem dX8_mix_0 : decode cX8_mix 0 = .ok (.lload_n 0, 1) := by decide +kernel
theorem dX8_mix_1 : decode cX8_mix 1 = .ok (.lload_n 0, 1) := by decide +kernel
theorem dX8_mix_2 : decode cX8_mix 2 = .ok (.bipush 30, 2) := by decide +kernel
theorem dX8_mix_4 : decode cX8_mix 4 = .ok (.lushr, 1) := by decide +kernel
theorem dX8_mix_5 : decode cX8_mix 5 = .ok (.lxor, 1) := by decide +kernel
theorem dX8_mix_6 : decode cX8_mix 6 = .ok (.ldc2_w 82, 3) := by decide +kernel
theorem dX8_mix_9 : decode cX8_mix 9 = .ok (.lmul, 1) := by decide +kernel
theorem dX8_mix_10 : decode cX8_mix 10 = .ok (.lstore_n 2, 1) := by decide +kernel
theorem dX8_mix_11 : decode cX8_mix 11 = .ok (.lload_n 2, 1) := by decide +kernel
theorem dX8_mix_12 : decode cX8_mix 12 = .ok (.lload_n 2, 1) := by decide +kernel
theorem dX8_mix_13 : decode cX8_mix 13 = .ok (.bipush 27, 2) := by decide +kernel
theorem dX8_mix_15 : decode cX8_mix 15 = .ok (.lushr, 1) := by decide +kernel
theorem dX8_mix_16 : decode cX8_mix 16 = .ok (.lxor, 1) := by decide +kernel
theorem dX8_mix_17 : decode cX8_mix 17 = .ok (.ldc2_w 84, 3) := by decide +kernel
theorem dX8_mix_20 : decode cX8_mix 20 = .ok (.lmul, 1) := by decide +kernel
theorem dX8_mix_21 : decode cX8_mix 21 = .ok (.lstore_n 2, 1) := by decide +kernel
theorem dX8_mix_22 : decode cX8_mix 22 = .ok (.lload_n 2, 1) := by decide +kernel
theorem dX8_mix_23 : decode cX8_mix 23 = .ok (.lload_n 2, 1) := by decide +kernel
theorem dX8_mix_24 : decode cX8_mix 24 = .ok (.bipush 31, 2) := by decide +kernel
theorem dX8_mix_26 : decode cX8_mix 26 = .ok (.lushr, 1) := by decide +kernel
theorem dX8_mix_27 : decode cX8_mix 27 = .ok (.lxor, 1) := by decide +kernel
theorem dX8_mix_28 : decode cX8_mix 28 = .ok (.lreturn, 1) := by decide +kernel
theorem dX8_pair_0 : decode cX8_pair 0 = .ok (.lload_n 0, 1) := by decide +kernel
theorem dX8_pair_1 : decode cX8_pair 1 = .ok (.invokestatic 86, 3) := by decide +kernel
theorem dX8_pair_4 : decode cX8_pair 4 = .ok (.ldc2_w 90, 3) := by decide +kernel
theorem dX8_pair_7 : decode cX8_pair 7 = .ok (.lload_n 2, 1) := by decide +kernel
theorem dX8_pair_8 : decode cX8_pair 8 = .ok (.invokestatic 86, 3) := by decide +kernel
theorem dX8_pair_11 : decode cX8_pair 11 = .ok (.lmul, 1) := by decide +kernel
theorem dX8_pair_12 : decode cX8_pair 12 = .ok (.ladd, 1) := by decide +kernel
theorem dX8_pair_13 : decode cX8_pair 13 = .ok (.ldc2_w 92, 3) := by decide +kernel
theorem dX8_pair_16 : decode cX8_pair 16 = .ok (.ladd, 1) := by decide +kernel
theorem dX8_pair_17 : decode cX8_pair 17 = .ok (.invokestatic 86, 3) := by decide +kernel
theorem dX8_pair_20 : decode cX8_pair 20 = .ok (.lreturn, 1) := by decide +kernel
theorem dX8_set_0 : decode cX8_set 0 = .ok (.lload_n 1, 1) := by decide +kernel
theorem dX8_set_1 : decode cX8_set 1 = .ok (.lconst 0, 1) := by decide +kernel
theorem dX8_set_2 : decode cX8_set 2 = .ok (.ldc2_w 94, 3) := by decide +kernel
theorem dX8_set_5 : decode cX8_set 5 = .ok (.invokestatic 96, 3) := by decide +kernel
theorem dX8_set_8 : decode cX8_set 8 = .ok (.ifCond .eq 18, 3) := by decide +kernel
theorem dX8_set_11 : decode cX8_set 11 = .ok (.lload_n 3, 1) := by decide +kernel
theorem dX8_set_12 : decode cX8_set 12 = .ok (.lconst 0, 1) := by decide +kernel
theorem dX8_set_13 : decode cX8_set 13 = .ok (.ldc2_w 94, 3) := by decide +kernel
theorem dX8_set_16 : decode cX8_set 16 = .ok (.invokestatic 96, 3) := by decide +kernel
theorem dX8_set_19 : decode cX8_set 19 = .ok (.ifCond .eq 7, 3) := by decide +kernel
theorem dX8_set_22 : decode cX8_set 22 = .ok (.iconst 1, 1) := by decide +kernel
theorem dX8_set_23 : decode cX8_set 23 = .ok (.goto 4, 3) := by decide +kernel
theorem dX8_set_26 : decode cX8_set 26 = .ok (.iconst 0, 1) := by decide +kernel
theorem dX8_set_27 : decode cX8_set 27 = .ok (.istore 5, 2) := by decide +kernel
theorem dX8_set_29 : decode cX8_set 29 = .ok (.iconst 0, 1) := by decide +kernel
theorem dX8_set_30 : decode cX8_set 30 = .ok (.istore 6, 2) := by decide +kernel
theorem dX8_set_32 : decode cX8_set 32 = .ok (.iload 6, 2) := by decide +kernel
theorem dX8_set_34 : decode cX8_set 34 = .ok (.bipush 10, 2) := by decide +kernel
theorem dX8_set_36 : decode cX8_set 36 = .ok (.if_icmp .ge 51, 3) := by decide +kernel
theorem dX8_set_39 : decode cX8_set 39 = .ok (.iload 5, 2) := by decide +kernel
theorem dX8_set_41 : decode cX8_set 41 = .ok (.ifCond .eq 37, 3) := by decide +kernel
theorem dX8_set_44 : decode cX8_set 44 = .ok (.iload 6, 2) := by decide +kernel
theorem dX8_set_46 : decode cX8_set 46 = .ok (.iconst 5, 1) := by decide +kernel
theorem dX8_set_47 : decode cX8_set 47 = .ok (.if_icmp .ge 7, 3) := by decide +kernel
theorem dX8_set_50 : decode cX8_set 50 = .ok (.lload_n 1, 1) := by decide +kernel
theorem dX8_set_51 : decode cX8_set 51 = .ok (.goto 4, 3) := by decide +kernel
theorem dX8_set_54 : decode cX8_set 54 = .ok (.lload_n 3, 1) := by decide +kernel
theorem dX8_set_55 : decode cX8_set 55 = .ok (.bipush 7, 2) := by decide +kernel
theorem dX8_set_57 : decode cX8_set 57 = .ok (.iload 6, 2) := by decide +kernel
theorem dX8_set_59 : decode cX8_set 59 = .ok (.iconst 5, 1) := by decide +kernel
theorem dX8_set_60 : decode cX8_set 60 = .ok (.irem, 1) := by decide +kernel
theorem dX8_set_61 : decode cX8_set 61 = .ok (.imul, 1) := by decide +kernel
theorem dX8_set_62 : decode cX8_set 62 = .ok (.lshr, 1) := by decide +kernel
theorem dX8_set_63 : decode cX8_set 63 = .ok (.ldc2_w 100, 3) := by decide +kernel
theorem dX8_set_66 : decode cX8_set 66 = .ok (.land, 1) := by decide +kernel
theorem dX8_set_67 : decode cX8_set 67 = .ok (.ldc2_w 102, 3) := by decide +kernel
theorem dX8_set_70 : decode cX8_set 70 = .ok (.lcmp, 1) := by decide +kernel
theorem dX8_set_71 : decode cX8_set 71 = .ok (.ifCond .gt 7, 3) := by decide +kernel
theorem dX8_set_74 : decode cX8_set 74 = .ok (.iconst 1, 1) := by decide +kernel
theorem dX8_set_75 : decode cX8_set 75 = .ok (.goto 4, 3) := by decide +kernel
theorem dX8_set_78 : decode cX8_set 78 = .ok (.iconst 0, 1) := by decide +kernel
theorem dX8_set_79 : decode cX8_set 79 = .ok (.istore 5, 2) := by decide +kernel
theorem dX8_set_81 : decode cX8_set 81 = .ok (.iinc 6 1, 3) := by decide +kernel
theorem dX8_set_84 : decode cX8_set 84 = .ok (.goto (-52), 3) := by decide +kernel
theorem dX8_set_87 : decode cX8_set 87 = .ok (.iload 5, 2) := by decide +kernel
theorem dX8_set_89 : decode cX8_set 89 = .ok (.ifCond .ne 5, 3) := by decide +kernel
theorem dX8_set_92 : decode cX8_set 92 = .ok (.iconst (-1), 1) := by decide +kernel
theorem dX8_set_93 : decode cX8_set 93 = .ok (.ireturn, 1) := by decide +kernel
theorem dX8_set_94 : decode cX8_set 94 = .ok (.aload_n 0, 1) := by decide +kernel
theorem dX8_set_95 : decode cX8_set 95 = .ok (.getfield 104, 3) := by decide +kernel
theorem dX8_set_98 : decode cX8_set 98 = .ok (.bipush 16, 2) := by decide +kernel
theorem dX8_set_100 : decode cX8_set 100 = .ok (.if_icmp .ne 6, 3) := by decide +kernel
theorem dX8_set_103 : decode cX8_set 103 = .ok (.bipush (-3), 2) := by decide +kernel
theorem dX8_set_105 : decode cX8_set 105 = .ok (.ireturn, 1) := by decide +kernel
theorem dX8_set_106 : decode cX8_set 106 = .ok (.iconst 0, 1) := by decide +kernel
theorem dX8_set_107 : decode cX8_set 107 = .ok (.istore 6, 2) := by decide +kernel
theorem dX8_set_109 : decode cX8_set 109 = .ok (.iload 6, 2) := by decide +kernel
theorem dX8_set_111 : decode cX8_set 111 = .ok (.bipush 10, 2) := by decide +kernel
theorem dX8_set_113 : decode cX8_set 113 = .ok (.if_icmp .ge 48, 3) := by decide +kernel
theorem dX8_set_116 : decode cX8_set 116 = .ok (.aload_n 0, 1) := by decide +kernel
theorem dX8_set_117 : decode cX8_set 117 = .ok (.getfield 7, 3) := by decide +kernel
theorem dX8_set_120 : decode cX8_set 120 = .ok (.bipush 10, 2) := by decide +kernel
theorem dX8_set_122 : decode cX8_set 122 = .ok (.aload_n 0, 1) := by decide +kernel
theorem dX8_set_123 : decode cX8_set 123 = .ok (.getfield 104, 3) := by decide +kernel
theorem dX8_set_126 : decode cX8_set 126 = .ok (.imul, 1) := by decide +kernel
theorem dX8_set_127 : decode cX8_set 127 = .ok (.iload 6, 2) := by decide +kernel
theorem dX8_set_129 : decode cX8_set 129 = .ok (.iadd, 1) := by decide +kernel
theorem dX8_set_130 : decode cX8_set 130 = .ok (.iload 6, 2) := by decide +kernel
theorem dX8_set_132 : decode cX8_set 132 = .ok (.iconst 5, 1) := by decide +kernel
theorem dX8_set_133 : decode cX8_set 133 = .ok (.if_icmp .ge 7, 3) := by decide +kernel
theorem dX8_set_136 : decode cX8_set 136 = .ok (.lload_n 1, 1) := by decide +kernel
theorem dX8_set_137 : decode cX8_set 137 = .ok (.goto 4, 3) := by decide +kernel
theorem dX8_set_140 : decode cX8_set 140 = .ok (.lload_n 3, 1) := by decide +kernel
theorem dX8_set_141 : decode cX8_set 141 = .ok (.bipush 7, 2) := by decide +kernel
theorem dX8_set_143 : decode cX8_set 143 = .ok (.iload 6, 2) := by decide +kernel
theorem dX8_set_145 : decode cX8_set 145 = .ok (.iconst 5, 1) := by decide +kernel
theorem dX8_set_146 : decode cX8_set 146 = .ok (.irem, 1) := by decide +kernel
theorem dX8_set_147 : decode cX8_set 147 = .ok (.imul, 1) := by decide +kernel
theorem dX8_set_148 : decode cX8_set 148 = .ok (.lshr, 1) := by decide +kernel
theorem dX8_set_149 : decode cX8_set 149 = .ok (.ldc2_w 100, 3) := by decide +kernel
theorem dX8_set_152 : decode cX8_set 152 = .ok (.land, 1) := by decide +kernel
theorem dX8_set_153 : decode cX8_set 153 = .ok (.l2i, 1) := by decide +kernel
theorem dX8_set_154 : decode cX8_set 154 = .ok (.iastore, 1) := by decide +kernel
theorem dX8_set_155 : decode cX8_set 155 = .ok (.iinc 6 1, 3) := by decide +kernel
theorem dX8_set_158 : decode cX8_set 158 = .ok (.goto (-49), 3) := by decide +kernel
theorem dX8_set_161 : decode cX8_set 161 = .ok (.aload_n 0, 1) := by decide +kernel
theorem dX8_set_162 : decode cX8_set 162 = .ok (.dup, 1) := by decide +kernel
theorem dX8_set_163 : decode cX8_set 163 = .ok (.getfield 104, 3) := by decide +kernel
theorem dX8_set_166 : decode cX8_set 166 = .ok (.iconst 1, 1) := by decide +kernel
theorem dX8_set_167 : decode cX8_set 167 = .ok (.iadd, 1) := by decide +kernel
theorem dX8_set_168 : decode cX8_set 168 = .ok (.putfield 104, 3) := by decide +kernel
theorem dX8_set_171 : decode cX8_set 171 = .ok (.aload_n 0, 1) := by decide +kernel
theorem dX8_set_172 : decode cX8_set 172 = .ok (.getfield 104, 3) := by decide +kernel
theorem dX8_set_175 : decode cX8_set 175 = .ok (.iconst 1, 1) := by decide +kernel
theorem dX8_set_176 : decode cX8_set 176 = .ok (.isub, 1) := by decide +kernel
theorem dX8_set_177 : decode cX8_set 177 = .ok (.ireturn, 1) := by decide +kernel
theorem dX8_isSet_0 : decode cX8_isSet 0 = .ok (.iload_n 1, 1) := by decide +kernel
theorem dX8_isSet_1 : decode cX8_isSet 1 = .ok (.i2l, 1) := by decide +kernel
theorem dX8_isSet_2 : decode cX8_isSet 2 = .ok (.lconst 0, 1) := by decide +kernel
theorem dX8_isSet_3 : decode cX8_isSet 3 = .ok (.aload_n 0, 1) := by decide +kernel
theorem dX8_isSet_4 : decode cX8_isSet 4 = .ok (.getfield 104, 3) := by decide +kernel
theorem dX8_isSet_7 : decode cX8_isSet 7 = .ok (.iconst 1, 1) := by decide +kernel
theorem dX8_isSet_8 : decode cX8_isSet 8 = .ok (.isub, 1) := by decide +kernel
theorem dX8_isSet_9 : decode cX8_isSet 9 = .ok (.i2l, 1) := by decide +kernel
theorem dX8_isSet_10 : decode cX8_isSet 10 = .ok (.invokestatic 96, 3) := by decide +kernel
theorem dX8_isSet_13 : decode cX8_isSet 13 = .ok (.ireturn, 1) := by decide +kernel
theorem dX8_isHead_0 : decode cX8_isHead 0 = .ok (.iload_n 1, 1) := by decide +kernel
theorem dX8_isHead_1 : decode cX8_isHead 1 = .ok (.i2l, 1) := by decide +kernel
theorem dX8_isHead_2 : decode cX8_isHead 2 = .ok (.lconst 0, 1) := by decide +kernel
theorem dX8_isHead_3 : decode cX8_isHead 3 = .ok (.aload_n 0, 1) := by decide +kernel
theorem dX8_isHead_4 : decode cX8_isHead 4 = .ok (.getfield 108, 3) := by decide +kernel
theorem dX8_isHead_7 : decode cX8_isHead 7 = .ok (.iconst 1, 1) := by decide +kernel
theorem dX8_isHead_8 : decode cX8_isHead 8 = .ok (.isub, 1) := by decide +kernel
theorem dX8_isHead_9 : decode cX8_isHead 9 = .ok (.i2l, 1) := by decide +kernel
theorem dX8_isHead_10 : decode cX8_isHead 10 = .ok (.invokestatic 96, 3) := by decide +kernel
theorem dX8_isHead_13 : decode cX8_isHead 13 = .ok (.ireturn, 1) := by decide +kernel
theorem dX8_head_0 : decode cX8_head 0 = .ok (.iload_n 1, 1) := by decide +kernel
theorem dX8_head_1 : decode cX8_head 1 = .ok (.i2l, 1) := by decide +kernel
theorem dX8_head_2 : decode cX8_head 2 = .ok (.lconst 0, 1) := by decide +kernel
theorem dX8_head_3 : decode cX8_head 3 = .ok (.ldc2_w 111, 3) := by decide +kernel
theorem dX8_head_6 : decode cX8_head 6 = .ok (.invokestatic 96, 3) := by decide +kernel
theorem dX8_head_9 : decode cX8_head 9 = .ok (.ifCond .eq 21, 3) := by decide +kernel
theorem dX8_head_12 : decode cX8_head 12 = .ok (.aload_n 0, 1) := by decide +kernel
theorem dX8_head_13 : decode cX8_head 13 = .ok (.iload 4, 2) := by decide +kernel
theorem dX8_head_15 : decode cX8_head 15 = .ok (.invokevirtual 113, 3) := by decide +kernel
theorem dX8_head_18 : decode cX8_head 18 = .ok (.ifCond .eq 12, 3) := by decide +kernel
theorem dX8_head_21 : decode cX8_head 21 = .ok (.aload_n 0, 1) := by decide +kernel
theorem dX8_head_22 : decode cX8_head 22 = .ok (.iload 5, 2) := by decide +kernel
theorem dX8_head_24 : decode cX8_head 24 = .ok (.invokevirtual 113, 3) := by decide +kernel
theorem dX8_head_27 : decode cX8_head 27 = .ok (.ifCond .ne 5, 3) := by decide +kernel
theorem dX8_head_30 : decode cX8_head 30 = .ok (.iconst (-1), 1) := by decide +kernel
theorem dX8_head_31 : decode cX8_head 31 = .ok (.ireturn, 1) := by decide +kernel
theorem dX8_head_32 : decode cX8_head 32 = .ok (.aload_n 0, 1) := by decide +kernel
theorem dX8_head_33 : decode cX8_head 33 = .ok (.getfield 108, 3) := by decide +kernel
theorem dX8_head_36 : decode cX8_head 36 = .ok (.bipush 60, 2) := by decide +kernel
theorem dX8_head_38 : decode cX8_head 38 = .ok (.if_icmp .ne 6, 3) := by decide +kernel
theorem dX8_head_41 : decode cX8_head 41 = .ok (.bipush (-3), 2) := by decide +kernel
theorem dX8_head_43 : decode cX8_head 43 = .ok (.ireturn, 1) := by decide +kernel
theorem dX8_head_44 : decode cX8_head 44 = .ok (.aload_n 0, 1) := by decide +kernel
theorem dX8_head_45 : decode cX8_head 45 = .ok (.getfield 13, 3) := by decide +kernel
theorem dX8_head_48 : decode cX8_head 48 = .ok (.aload_n 0, 1) := by decide +kernel
theorem dX8_head_49 : decode cX8_head 49 = .ok (.getfield 108, 3) := by decide +kernel
theorem dX8_head_52 : decode cX8_head 52 = .ok (.iload_n 1, 1) := by decide +kernel
theorem dX8_head_53 : decode cX8_head 53 = .ok (.iastore, 1) := by decide +kernel
theorem dX8_head_54 : decode cX8_head 54 = .ok (.aload_n 0, 1) := by decide +kernel
theorem dX8_head_55 : decode cX8_head 55 = .ok (.getfield 16, 3) := by decide +kernel
theorem dX8_head_58 : decode cX8_head 58 = .ok (.aload_n 0, 1) := by decide +kernel
theorem dX8_head_59 : decode cX8_head 59 = .ok (.getfield 108, 3) := by decide +kernel
theorem dX8_head_62 : decode cX8_head 62 = .ok (.lload_n 2, 1) := by decide +kernel
theorem dX8_head_63 : decode cX8_head 63 = .ok (.lastore, 1) := by decide +kernel
theorem dX8_head_64 : decode cX8_head 64 = .ok (.aload_n 0, 1) := by decide +kernel
theorem dX8_head_65 : decode cX8_head 65 = .ok (.getfield 20, 3) := by decide +kernel
theorem dX8_head_68 : decode cX8_head 68 = .ok (.aload_n 0, 1) := by decide +kernel
theorem dX8_head_69 : decode cX8_head 69 = .ok (.getfield 108, 3) := by decide +kernel
theorem dX8_head_72 : decode cX8_head 72 = .ok (.iload 4, 2) := by decide +kernel
theorem dX8_head_74 : decode cX8_head 74 = .ok (.iastore, 1) := by decide +kernel
theorem dX8_head_75 : decode cX8_head 75 = .ok (.aload_n 0, 1) := by decide +kernel
theorem dX8_head_76 : decode cX8_head 76 = .ok (.getfield 23, 3) := by decide +kernel
theorem dX8_head_79 : decode cX8_head 79 = .ok (.aload_n 0, 1) := by decide +kernel
theorem dX8_head_80 : decode cX8_head 80 = .ok (.getfield 108, 3) := by decide +kernel
theorem dX8_head_83 : decode cX8_head 83 = .ok (.iload 5, 2) := by decide +kernel
theorem dX8_head_85 : decode cX8_head 85 = .ok (.iastore, 1) := by decide +kernel
theorem dX8_head_86 : decode cX8_head 86 = .ok (.aload_n 0, 1) := by decide +kernel
theorem dX8_head_87 : decode cX8_head 87 = .ok (.getfield 26, 3) := by decide +kernel
theorem dX8_head_90 : decode cX8_head 90 = .ok (.aload_n 0, 1) := by decide +kernel
theorem dX8_head_91 : decode cX8_head 91 = .ok (.getfield 108, 3) := by decide +kernel
theorem dX8_head_94 : decode cX8_head 94 = .ok (.lload 6, 2) := by decide +kernel
theorem dX8_head_96 : decode cX8_head 96 = .ok (.lastore, 1) := by decide +kernel
theorem dX8_head_97 : decode cX8_head 97 = .ok (.aload_n 0, 1) := by decide +kernel
theorem dX8_head_98 : decode cX8_head 98 = .ok (.getfield 29, 3) := by decide +kernel
theorem dX8_head_101 : decode cX8_head 101 = .ok (.aload_n 0, 1) := by decide +kernel
theorem dX8_head_102 : decode cX8_head 102 = .ok (.getfield 108, 3) := by decide +kernel
theorem dX8_head_105 : decode cX8_head 105 = .ok (.iconst 0, 1) := by decide +kernel
theorem dX8_head_106 : decode cX8_head 106 = .ok (.iastore, 1) := by decide +kernel
theorem dX8_head_107 : decode cX8_head 107 = .ok (.aload_n 0, 1) := by decide +kernel
theorem dX8_head_108 : decode cX8_head 108 = .ok (.dup, 1) := by decide +kernel
theorem dX8_head_109 : decode cX8_head 109 = .ok (.getfield 108, 3) := by decide +kernel
theorem dX8_head_112 : decode cX8_head 112 = .ok (.iconst 1, 1) := by decide +kernel
theorem dX8_head_113 : decode cX8_head 113 = .ok (.iadd, 1) := by decide +kernel
theorem dX8_head_114 : decode cX8_head 114 = .ok (.putfield 108, 3) := by decide +kernel
theorem dX8_head_117 : decode cX8_head 117 = .ok (.aload_n 0, 1) := by decide +kernel
theorem dX8_head_118 : decode cX8_head 118 = .ok (.getfield 108, 3) := by decide +kernel
theorem dX8_head_121 : decode cX8_head 121 = .ok (.iconst 1, 1) := by decide +kernel
theorem dX8_head_122 : decode cX8_head 122 = .ok (.isub, 1) := by decide +kernel
theorem dX8_head_123 : decode cX8_head 123 = .ok (.ireturn, 1) := by decide +kernel
theorem dX8_sign_0 : decode cX8_sign 0 = .ok (.aload_n 0, 1) := by decide +kernel
theorem dX8_sign_1 : decode cX8_sign 1 = .ok (.iload_n 1, 1) := by decide +kernel
theorem dX8_sign_2 : decode cX8_sign 2 = .ok (.invokevirtual 117, 3) := by decide +kernel
theorem dX8_sign_5 : decode cX8_sign 5 = .ok (.ifCond .eq 15, 3) := by decide +kernel
theorem dX8_sign_8 : decode cX8_sign 8 = .ok (.iload_n 2, 1) := by decide +kernel
theorem dX8_sign_9 : decode cX8_sign 9 = .ok (.i2l, 1) := by decide +kernel
theorem dX8_sign_10 : decode cX8_sign 10 = .ok (.lconst 0, 1) := by decide +kernel
theorem dX8_sign_11 : decode cX8_sign 11 = .ok (.ldc2_w 120, 3) := by decide +kernel
theorem dX8_sign_14 : decode cX8_sign 14 = .ok (.invokestatic 96, 3) := by decide +kernel
theorem dX8_sign_17 : decode cX8_sign 17 = .ok (.ifCond .ne 5, 3) := by decide +kernel
theorem dX8_sign_20 : decode cX8_sign 20 = .ok (.iconst (-1), 1) := by decide +kernel
theorem dX8_sign_21 : decode cX8_sign 21 = .ok (.ireturn, 1) := by decide +kernel
theorem dX8_sign_22 : decode cX8_sign 22 = .ok (.aload_n 0, 1) := by decide +kernel
theorem dX8_sign_23 : decode cX8_sign 23 = .ok (.getfield 29, 3) := by decide +kernel
theorem dX8_sign_26 : decode cX8_sign 26 = .ok (.iload_n 1, 1) := by decide +kernel
theorem dX8_sign_27 : decode cX8_sign 27 = .ok (.iaload, 1) := by decide +kernel
theorem dX8_sign_28 : decode cX8_sign 28 = .ok (.istore_n 3, 1) := by decide +kernel
theorem dX8_sign_29 : decode cX8_sign 29 = .ok (.aload_n 0, 1) := by decide +kernel
theorem dX8_sign_30 : decode cX8_sign 30 = .ok (.getfield 29, 3) := by decide +kernel
theorem dX8_sign_33 : decode cX8_sign 33 = .ok (.iload_n 1, 1) := by decide +kernel
theorem dX8_sign_34 : decode cX8_sign 34 = .ok (.iload_n 3, 1) := by decide +kernel
theorem dX8_sign_35 : decode cX8_sign 35 = .ok (.iconst 1, 1) := by decide +kernel
theorem dX8_sign_36 : decode cX8_sign 36 = .ok (.iload_n 2, 1) := by decide +kernel
theorem dX8_sign_37 : decode cX8_sign 37 = .ok (.ishl, 1) := by decide +kernel
theorem dX8_sign_38 : decode cX8_sign 38 = .ok (.ior, 1) := by decide +kernel
theorem dX8_sign_39 : decode cX8_sign 39 = .ok (.iastore, 1) := by decide +kernel
theorem dX8_sign_40 : decode cX8_sign 40 = .ok (.aload_n 0, 1) := by decide +kernel
theorem dX8_sign_41 : decode cX8_sign 41 = .ok (.getfield 29, 3) := by decide +kernel
theorem dX8_sign_44 : decode cX8_sign 44 = .ok (.iload_n 1, 1) := by decide +kernel
theorem dX8_sign_45 : decode cX8_sign 45 = .ok (.iaload, 1) := by decide +kernel
theorem dX8_sign_46 : decode cX8_sign 46 = .ok (.iload_n 3, 1) := by decide +kernel
theorem dX8_sign_47 : decode cX8_sign 47 = .ok (.if_icmp .ne 7, 3) := by decide +kernel
theorem dX8_sign_50 : decode cX8_sign 50 = .ok (.iconst 0, 1) := by decide +kernel
theorem dX8_sign_51 : decode cX8_sign 51 = .ok (.goto 4, 3) := by decide +kernel
theorem dX8_sign_54 : decode cX8_sign 54 = .ok (.iconst 1, 1) := by decide +kernel
theorem dX8_sign_55 : decode cX8_sign 55 = .ok (.ireturn, 1) := by decide +kernel
theorem dX8_term_0 : decode cX8_term 0 = .ok (.iload_n 1, 1) := by decide +kernel
theorem dX8_term_1 : decode cX8_term 1 = .ok (.i2l, 1) := by decide +kernel
theorem dX8_term_2 : decode cX8_term 2 = .ok (.lconst 0, 1) := by decide +kernel
theorem dX8_term_3 : decode cX8_term 3 = .ok (.ldc2_w 90, 3) := by decide +kernel
theorem dX8_term_6 : decode cX8_term 6 = .ok (.invokestatic 96, 3) := by decide +kernel
theorem dX8_term_9 : decode cX8_term 9 = .ok (.ifCond .eq 37, 3) := by decide +kernel
theorem dX8_term_12 : decode cX8_term 12 = .ok (.iload_n 2, 1) := by decide +kernel
theorem dX8_term_13 : decode cX8_term 13 = .ok (.i2l, 1) := by decide +kernel
theorem dX8_term_14 : decode cX8_term 14 = .ok (.iload_n 1, 1) := by decide +kernel
theorem dX8_term_15 : decode cX8_term 15 = .ok (.iconst 3, 1) := by decide +kernel
theorem dX8_term_16 : decode cX8_term 16 = .ok (.if_icmp .ne 9, 3) := by decide +kernel
theorem dX8_term_19 : decode cX8_term 19 = .ok (.ldc2_w 122, 3) := by decide +kernel
theorem dX8_term_22 : decode cX8_term 22 = .ok (.goto 4, 3) := by decide +kernel
theorem dX8_term_25 : decode cX8_term 25 = .ok (.lconst 1, 1) := by decide +kernel
theorem dX8_term_26 : decode cX8_term 26 = .ok (.iload_n 1, 1) := by decide +kernel
theorem dX8_term_27 : decode cX8_term 27 = .ok (.iconst 2, 1) := by decide +kernel
theorem dX8_term_28 : decode cX8_term 28 = .ok (.if_icmp .ne 9, 3) := by decide +kernel
theorem dX8_term_31 : decode cX8_term 31 = .ok (.ldc2_w 124, 3) := by decide +kernel
theorem dX8_term_34 : decode cX8_term 34 = .ok (.goto 6, 3) := by decide +kernel
theorem dX8_term_37 : decode cX8_term 37 = .ok (.ldc2_w 126, 3) := by decide +kernel
theorem dX8_term_40 : decode cX8_term 40 = .ok (.invokestatic 96, 3) := by decide +kernel
theorem dX8_term_43 : decode cX8_term 43 = .ok (.ifCond .ne 5, 3) := by decide +kernel
theorem dX8_term_46 : decode cX8_term 46 = .ok (.iconst (-1), 1) := by decide +kernel
theorem dX8_term_47 : decode cX8_term 47 = .ok (.ireturn, 1) := by decide +kernel
theorem dX8_term_48 : decode cX8_term 48 = .ok (.aload_n 0, 1) := by decide +kernel
theorem dX8_term_49 : decode cX8_term 49 = .ok (.getfield 32, 3) := by decide +kernel
theorem dX8_term_52 : decode cX8_term 52 = .ok (.iload_n 1, 1) := by decide +kernel
theorem dX8_term_53 : decode cX8_term 53 = .ok (.iaload, 1) := by decide +kernel
theorem dX8_term_54 : decode cX8_term 54 = .ok (.istore_n 3, 1) := by decide +kernel
theorem dX8_term_55 : decode cX8_term 55 = .ok (.aload_n 0, 1) := by decide +kernel
theorem dX8_term_56 : decode cX8_term 56 = .ok (.getfield 32, 3) := by decide +kernel
theorem dX8_term_59 : decode cX8_term 59 = .ok (.iload_n 1, 1) := by decide +kernel
theorem dX8_term_60 : decode cX8_term 60 = .ok (.iload_n 2, 1) := by decide +kernel
theorem dX8_term_61 : decode cX8_term 61 = .ok (.iastore, 1) := by decide +kernel
theorem dX8_term_62 : decode cX8_term 62 = .ok (.iload_n 3, 1) := by decide +kernel
theorem dX8_term_63 : decode cX8_term 63 = .ok (.ireturn, 1) := by decide +kernel
theorem dX8_digestOf_0 : decode cX8_digestOf 0 = .ok (.aload_n 0, 1) := by decide +kernel
theorem dX8_digestOf_1 : decode cX8_digestOf 1 = .ok (.getfield 13, 3) := by decide +kernel
theorem dX8_digestOf_4 : decode cX8_digestOf 4 = .ok (.iload_n 1, 1) := by decide +kernel
theorem dX8_digestOf_5 : decode cX8_digestOf 5 = .ok (.iaload, 1) := by decide +kernel
theorem dX8_digestOf_6 : decode cX8_digestOf 6 = .ok (.i2l, 1) := by decide +kernel
theorem dX8_digestOf_7 : decode cX8_digestOf 7 = .ok (.aload_n 0, 1) := by decide +kernel
theorem dX8_digestOf_8 : decode cX8_digestOf 8 = .ok (.getfield 16, 3) := by decide +kernel
theorem dX8_digestOf_11 : decode cX8_digestOf 11 = .ok (.iload_n 1, 1) := by decide +kernel
theorem dX8_digestOf_12 : decode cX8_digestOf 12 = .ok (.laload, 1) := by decide +kernel
theorem dX8_digestOf_13 : decode cX8_digestOf 13 = .ok (.invokestatic 128, 3) := by decide +kernel
theorem dX8_digestOf_16 : decode cX8_digestOf 16 = .ok (.aload_n 0, 1) := by decide +kernel
theorem dX8_digestOf_17 : decode cX8_digestOf 17 = .ok (.getfield 20, 3) := by decide +kernel
theorem dX8_digestOf_20 : decode cX8_digestOf 20 = .ok (.iload_n 1, 1) := by decide +kernel
theorem dX8_digestOf_21 : decode cX8_digestOf 21 = .ok (.iaload, 1) := by decide +kernel
theorem dX8_digestOf_22 : decode cX8_digestOf 22 = .ok (.i2l, 1) := by decide +kernel
theorem dX8_digestOf_23 : decode cX8_digestOf 23 = .ok (.aload_n 0, 1) := by decide +kernel
theorem dX8_digestOf_24 : decode cX8_digestOf 24 = .ok (.getfield 23, 3) := by decide +kernel
theorem dX8_digestOf_27 : decode cX8_digestOf 27 = .ok (.iload_n 1, 1) := by decide +kernel
theorem dX8_digestOf_28 : decode cX8_digestOf 28 = .ok (.iaload, 1) := by decide +kernel
theorem dX8_digestOf_29 : decode cX8_digestOf 29 = .ok (.i2l, 1) := by decide +kernel
theorem dX8_digestOf_30 : decode cX8_digestOf 30 = .ok (.invokestatic 128, 3) := by decide +kernel
theorem dX8_digestOf_33 : decode cX8_digestOf 33 = .ok (.invokestatic 128, 3) := by decide +kernel
theorem dX8_digestOf_36 : decode cX8_digestOf 36 = .ok (.aload_n 0, 1) := by decide +kernel
theorem dX8_digestOf_37 : decode cX8_digestOf 37 = .ok (.getfield 26, 3) := by decide +kernel
theorem dX8_digestOf_40 : decode cX8_digestOf 40 = .ok (.iload_n 1, 1) := by decide +kernel
theorem dX8_digestOf_41 : decode cX8_digestOf 41 = .ok (.laload, 1) := by decide +kernel
theorem dX8_digestOf_42 : decode cX8_digestOf 42 = .ok (.invokestatic 128, 3) := by decide +kernel
theorem dX8_digestOf_45 : decode cX8_digestOf 45 = .ok (.lreturn, 1) := by decide +kernel
theorem dX8_digest_0 : decode cX8_digest 0 = .ok (.aload_n 0, 1) := by decide +kernel
theorem dX8_digest_1 : decode cX8_digest 1 = .ok (.iload_n 1, 1) := by decide +kernel
theorem dX8_digest_2 : decode cX8_digest 2 = .ok (.invokevirtual 117, 3) := by decide +kernel
theorem dX8_digest_5 : decode cX8_digest 5 = .ok (.ifCond .eq 11, 3) := by decide +kernel
theorem dX8_digest_8 : decode cX8_digest 8 = .ok (.aload_n 0, 1) := by decide +kernel
theorem dX8_digest_9 : decode cX8_digest 9 = .ok (.iload_n 1, 1) := by decide +kernel
theorem dX8_digest_10 : decode cX8_digest 10 = .ok (.invokevirtual 132, 3) := by decide +kernel
theorem dX8_digest_13 : decode cX8_digest 13 = .ok (.goto 4, 3) := by decide +kernel
theorem dX8_digest_16 : decode cX8_digest 16 = .ok (.lconst 0, 1) := by decide +kernel
theorem dX8_digest_17 : decode cX8_digest 17 = .ok (.lreturn, 1) := by decide +kernel
theorem dX8_weightOf_0 : decode cX8_weightOf 0 = .ok (.iconst 0, 1) := by decide +kernel
theorem dX8_weightOf_1 : decode cX8_weightOf 1 = .ok (.istore_n 3, 1) := by decide +kernel
theorem dX8_weightOf_2 : decode cX8_weightOf 2 = .ok (.iconst 0, 1) := by decide +kernel
theorem dX8_weightOf_3 : decode cX8_weightOf 3 = .ok (.istore 4, 2) := by decide +kernel
theorem dX8_weightOf_5 : decode cX8_weightOf 5 = .ok (.iload 4, 2) := by decide +kernel
theorem dX8_weightOf_7 : decode cX8_weightOf 7 = .ok (.bipush 10, 2) := by decide +kernel
theorem dX8_weightOf_9 : decode cX8_weightOf 9 = .ok (.if_icmp .ge 31, 3) := by decide +kernel
theorem dX8_weightOf_12 : decode cX8_weightOf 12 = .ok (.iload_n 3, 1) := by decide +kernel
theorem dX8_weightOf_13 : decode cX8_weightOf 13 = .ok (.iload_n 2, 1) := by decide +kernel
theorem dX8_weightOf_14 : decode cX8_weightOf 14 = .ok (.iload 4, 2) := by decide +kernel
theorem dX8_weightOf_16 : decode cX8_weightOf 16 = .ok (.ishr, 1) := by decide +kernel
theorem dX8_weightOf_17 : decode cX8_weightOf 17 = .ok (.iconst 1, 1) := by decide +kernel
theorem dX8_weightOf_18 : decode cX8_weightOf 18 = .ok (.iand, 1) := by decide +kernel
theorem dX8_weightOf_19 : decode cX8_weightOf 19 = .ok (.aload_n 0, 1) := by decide +kernel
theorem dX8_weightOf_20 : decode cX8_weightOf 20 = .ok (.getfield 7, 3) := by decide +kernel
theorem dX8_weightOf_23 : decode cX8_weightOf 23 = .ok (.bipush 10, 2) := by decide +kernel
theorem dX8_weightOf_25 : decode cX8_weightOf 25 = .ok (.iload_n 1, 1) := by decide +kernel
theorem dX8_weightOf_26 : decode cX8_weightOf 26 = .ok (.imul, 1) := by decide +kernel
theorem dX8_weightOf_27 : decode cX8_weightOf 27 = .ok (.iload 4, 2) := by decide +kernel
theorem dX8_weightOf_29 : decode cX8_weightOf 29 = .ok (.iadd, 1) := by decide +kernel
theorem dX8_weightOf_30 : decode cX8_weightOf 30 = .ok (.iaload, 1) := by decide +kernel
theorem dX8_weightOf_31 : decode cX8_weightOf 31 = .ok (.imul, 1) := by decide +kernel
theorem dX8_weightOf_32 : decode cX8_weightOf 32 = .ok (.iadd, 1) := by decide +kernel
theorem dX8_weightOf_33 : decode cX8_weightOf 33 = .ok (.istore_n 3, 1) := by decide +kernel
theorem dX8_weightOf_34 : decode cX8_weightOf 34 = .ok (.iinc 4 1, 3) := by decide +kernel
theorem dX8_weightOf_37 : decode cX8_weightOf 37 = .ok (.goto (-32), 3) := by decide +kernel
theorem dX8_weightOf_40 : decode cX8_weightOf 40 = .ok (.iload_n 3, 1) := by decide +kernel
theorem dX8_weightOf_41 : decode cX8_weightOf 41 = .ok (.ireturn, 1) := by decide +kernel
theorem dX8_isCertified_0 : decode cX8_isCertified 0 = .ok (.iconst 3, 1) := by decide +kernel
theorem dX8_isCertified_1 : decode cX8_isCertified 1 = .ok (.aload_n 0, 1) := by decide +kernel
theorem dX8_isCertified_2 : decode cX8_isCertified 2 = .ok (.aload_n 0, 1) := by decide +kernel
theorem dX8_isCertified_3 : decode cX8_isCertified 3 = .ok (.getfield 20, 3) := by decide +kernel
theorem dX8_isCertified_6 : decode cX8_isCertified 6 = .ok (.iload_n 1, 1) := by decide +kernel
theorem dX8_isCertified_7 : decode cX8_isCertified 7 = .ok (.iaload, 1) := by decide +kernel
theorem dX8_isCertified_8 : decode cX8_isCertified 8 = .ok (.aload_n 0, 1) := by decide +kernel
theorem dX8_isCertified_9 : decode cX8_isCertified 9 = .ok (.getfield 29, 3) := by decide +kernel
theorem dX8_isCertified_12 : decode cX8_isCertified 12 = .ok (.iload_n 1, 1) := by decide +kernel
theorem dX8_isCertified_13 : decode cX8_isCertified 13 = .ok (.iaload, 1) := by decide +kernel
theorem dX8_isCertified_14 : decode cX8_isCertified 14 = .ok (.invokevirtual 136, 3) := by decide +kernel
theorem dX8_isCertified_17 : decode cX8_isCertified 17 = .ok (.imul, 1) := by decide +kernel
theorem dX8_isCertified_18 : decode cX8_isCertified 18 = .ok (.iconst 2, 1) := by decide +kernel
theorem dX8_isCertified_19 : decode cX8_isCertified 19 = .ok (.aload_n 0, 1) := by decide +kernel
theorem dX8_isCertified_20 : decode cX8_isCertified 20 = .ok (.aload_n 0, 1) := by decide +kernel
theorem dX8_isCertified_21 : decode cX8_isCertified 21 = .ok (.getfield 20, 3) := by decide +kernel
theorem dX8_isCertified_24 : decode cX8_isCertified 24 = .ok (.iload_n 1, 1) := by decide +kernel
theorem dX8_isCertified_25 : decode cX8_isCertified 25 = .ok (.iaload, 1) := by decide +kernel
theorem dX8_isCertified_26 : decode cX8_isCertified 26 = .ok (.sipush 1023, 3) := by decide +kernel
theorem dX8_isCertified_29 : decode cX8_isCertified 29 = .ok (.invokevirtual 136, 3) := by decide +kernel
theorem dX8_isCertified_32 : decode cX8_isCertified 32 = .ok (.imul, 1) := by decide +kernel
theorem dX8_isCertified_33 : decode cX8_isCertified 33 = .ok (.if_icmp .le 7, 3) := by decide +kernel
theorem dX8_isCertified_36 : decode cX8_isCertified 36 = .ok (.iconst 1, 1) := by decide +kernel
theorem dX8_isCertified_37 : decode cX8_isCertified 37 = .ok (.goto 4, 3) := by decide +kernel
theorem dX8_isCertified_40 : decode cX8_isCertified 40 = .ok (.iconst 0, 1) := by decide +kernel
theorem dX8_isCertified_41 : decode cX8_isCertified 41 = .ok (.ireturn, 1) := by decide +kernel
theorem dX8_doesOverlap_0 : decode cX8_doesOverlap 0 = .ok (.aload_n 0, 1) := by decide +kernel
theorem dX8_doesOverlap_1 : decode cX8_doesOverlap 1 = .ok (.getfield 32, 3) := by decide +kernel
theorem dX8_doesOverlap_4 : decode cX8_doesOverlap 4 = .ok (.iconst 1, 1) := by decide +kernel
theorem dX8_doesOverlap_5 : decode cX8_doesOverlap 5 = .ok (.iaload, 1) := by decide +kernel
theorem dX8_doesOverlap_6 : decode cX8_doesOverlap 6 = .ok (.aload_n 0, 1) := by decide +kernel
theorem dX8_doesOverlap_7 : decode cX8_doesOverlap 7 = .ok (.iload_n 2, 1) := by decide +kernel
theorem dX8_doesOverlap_8 : decode cX8_doesOverlap 8 = .ok (.aload_n 0, 1) := by decide +kernel
theorem dX8_doesOverlap_9 : decode cX8_doesOverlap 9 = .ok (.getfield 29, 3) := by decide +kernel
theorem dX8_doesOverlap_12 : decode cX8_doesOverlap 12 = .ok (.iload_n 1, 1) := by decide +kernel
theorem dX8_doesOverlap_13 : decode cX8_doesOverlap 13 = .ok (.iaload, 1) := by decide +kernel
theorem dX8_doesOverlap_14 : decode cX8_doesOverlap 14 = .ok (.invokevirtual 136, 3) := by decide +kernel
theorem dX8_doesOverlap_17 : decode cX8_doesOverlap 17 = .ok (.imul, 1) := by decide +kernel
theorem dX8_doesOverlap_18 : decode cX8_doesOverlap 18 = .ok (.aload_n 0, 1) := by decide +kernel
theorem dX8_doesOverlap_19 : decode cX8_doesOverlap 19 = .ok (.getfield 32, 3) := by decide +kernel
theorem dX8_doesOverlap_22 : decode cX8_doesOverlap 22 = .ok (.iconst 0, 1) := by decide +kernel
theorem dX8_doesOverlap_23 : decode cX8_doesOverlap 23 = .ok (.iaload, 1) := by decide +kernel
theorem dX8_doesOverlap_24 : decode cX8_doesOverlap 24 = .ok (.aload_n 0, 1) := by decide +kernel
theorem dX8_doesOverlap_25 : decode cX8_doesOverlap 25 = .ok (.iload_n 2, 1) := by decide +kernel
theorem dX8_doesOverlap_26 : decode cX8_doesOverlap 26 = .ok (.sipush 1023, 3) := by decide +kernel
theorem dX8_doesOverlap_29 : decode cX8_doesOverlap 29 = .ok (.invokevirtual 136, 3) := by decide +kernel
theorem dX8_doesOverlap_32 : decode cX8_doesOverlap 32 = .ok (.imul, 1) := by decide +kernel
theorem dX8_doesOverlap_33 : decode cX8_doesOverlap 33 = .ok (.if_icmp .le 7, 3) := by decide +kernel
theorem dX8_doesOverlap_36 : decode cX8_doesOverlap 36 = .ok (.iconst 1, 1) := by decide +kernel
theorem dX8_doesOverlap_37 : decode cX8_doesOverlap 37 = .ok (.goto 4, 3) := by decide +kernel
theorem dX8_doesOverlap_40 : decode cX8_doesOverlap 40 = .ok (.iconst 0, 1) := by decide +kernel
theorem dX8_doesOverlap_41 : decode cX8_doesOverlap 41 = .ok (.ireturn, 1) := by decide +kernel
theorem dX8_certified_0 : decode cX8_certified 0 = .ok (.aload_n 0, 1) := by decide +kernel
theorem dX8_certified_1 : decode cX8_certified 1 = .ok (.iload_n 1, 1) := by decide +kernel
theorem dX8_certified_2 : decode cX8_certified 2 = .ok (.invokevirtual 117, 3) := by decide +kernel
theorem dX8_certified_5 : decode cX8_certified 5 = .ok (.ifCond .ne 7, 3) := by decide +kernel
theorem dX8_certified_8 : decode cX8_certified 8 = .ok (.iconst (-1), 1) := by decide +kernel
theorem dX8_certified_9 : decode cX8_certified 9 = .ok (.goto 16, 3) := by decide +kernel
theorem dX8_certified_12 : decode cX8_certified 12 = .ok (.aload_n 0, 1) := by decide +kernel
theorem dX8_certified_13 : decode cX8_certified 13 = .ok (.iload_n 1, 1) := by decide +kernel
theorem dX8_certified_14 : decode cX8_certified 14 = .ok (.invokevirtual 139, 3) := by decide +kernel
theorem dX8_certified_17 : decode cX8_certified 17 = .ok (.ifCond .eq 7, 3) := by decide +kernel
theorem dX8_certified_20 : decode cX8_certified 20 = .ok (.iconst 1, 1) := by decide +kernel
theorem dX8_certified_21 : decode cX8_certified 21 = .ok (.goto 4, 3) := by decide +kernel
theorem dX8_certified_24 : decode cX8_certified 24 = .ok (.iconst 0, 1) := by decide +kernel
theorem dX8_certified_25 : decode cX8_certified 25 = .ok (.ireturn, 1) := by decide +kernel
theorem dX8_overlaps_0 : decode cX8_overlaps 0 = .ok (.aload_n 0, 1) := by decide +kernel
theorem dX8_overlaps_1 : decode cX8_overlaps 1 = .ok (.iload_n 1, 1) := by decide +kernel
theorem dX8_overlaps_2 : decode cX8_overlaps 2 = .ok (.invokevirtual 117, 3) := by decide +kernel
theorem dX8_overlaps_5 : decode cX8_overlaps 5 = .ok (.ifCond .eq 11, 3) := by decide +kernel
theorem dX8_overlaps_8 : decode cX8_overlaps 8 = .ok (.aload_n 0, 1) := by decide +kernel
theorem dX8_overlaps_9 : decode cX8_overlaps 9 = .ok (.iload_n 2, 1) := by decide +kernel
theorem dX8_overlaps_10 : decode cX8_overlaps 10 = .ok (.invokevirtual 113, 3) := by decide +kernel
theorem dX8_overlaps_13 : decode cX8_overlaps 13 = .ok (.ifCond .ne 7, 3) := by decide +kernel
theorem dX8_overlaps_16 : decode cX8_overlaps 16 = .ok (.iconst (-1), 1) := by decide +kernel
theorem dX8_overlaps_17 : decode cX8_overlaps 17 = .ok (.goto 17, 3) := by decide +kernel
theorem dX8_overlaps_20 : decode cX8_overlaps 20 = .ok (.aload_n 0, 1) := by decide +kernel
theorem dX8_overlaps_21 : decode cX8_overlaps 21 = .ok (.iload_n 1, 1) := by decide +kernel
theorem dX8_overlaps_22 : decode cX8_overlaps 22 = .ok (.iload_n 2, 1) := by decide +kernel
theorem dX8_overlaps_23 : decode cX8_overlaps 23 = .ok (.invokevirtual 142, 3) := by decide +kernel
theorem dX8_overlaps_26 : decode cX8_overlaps 26 = .ok (.ifCond .eq 7, 3) := by decide +kernel
theorem dX8_overlaps_29 : decode cX8_overlaps 29 = .ok (.iconst 1, 1) := by decide +kernel
theorem dX8_overlaps_30 : decode cX8_overlaps 30 = .ok (.goto 4, 3) := by decide +kernel
theorem dX8_overlaps_33 : decode cX8_overlaps 33 = .ok (.iconst 0, 1) := by decide +kernel
theorem dX8_overlaps_34 : decode cX8_overlaps 34 = .ok (.ireturn, 1) := by decide +kernel
theorem dX8_isFour_0 : decode cX8_isFour 0 = .ok (.iload_n 0, 1) := by decide +kernel
theorem dX8_isFour_1 : decode cX8_isFour 1 = .ok (.i2l, 1) := by decide +kernel
theorem dX8_isFour_2 : decode cX8_isFour 2 = .ok (.lconst 0, 1) := by decide +kernel
theorem dX8_isFour_3 : decode cX8_isFour 3 = .ok (.ldc2_w 90, 3) := by decide +kernel
theorem dX8_isFour_6 : decode cX8_isFour 6 = .ok (.invokestatic 96, 3) := by decide +kernel
theorem dX8_isFour_9 : decode cX8_isFour 9 = .ok (.ireturn, 1) := by decide +kernel
theorem dX8_start_0 : decode cX8_start 0 = .ok (.iload_n 1, 1) := by decide +kernel
theorem dX8_start_1 : decode cX8_start 1 = .ok (.invokestatic 146, 3) := by decide +kernel
theorem dX8_start_4 : decode cX8_start 4 = .ok (.ifCond .eq 11, 3) := by decide +kernel
theorem dX8_start_7 : decode cX8_start 7 = .ok (.aload_n 0, 1) := by decide +kernel
theorem dX8_start_8 : decode cX8_start 8 = .ok (.iload_n 2, 1) := by decide +kernel
theorem dX8_start_9 : decode cX8_start 9 = .ok (.invokevirtual 117, 3) := by decide +kernel
theorem dX8_start_12 : decode cX8_start 12 = .ok (.ifCond .ne 5, 3) := by decide +kernel
theorem dX8_start_15 : decode cX8_start 15 = .ok (.iconst (-1), 1) := by decide +kernel
theorem dX8_start_16 : decode cX8_start 16 = .ok (.ireturn, 1) := by decide +kernel
theorem dX8_start_17 : decode cX8_start 17 = .ok (.aload_n 0, 1) := by decide +kernel
theorem dX8_start_18 : decode cX8_start 18 = .ok (.getfield 35, 3) := by decide +kernel
theorem dX8_start_21 : decode cX8_start 21 = .ok (.iload_n 1, 1) := by decide +kernel
theorem dX8_start_22 : decode cX8_start 22 = .ok (.iconst 1, 1) := by decide +kernel
theorem dX8_start_23 : decode cX8_start 23 = .ok (.iastore, 1) := by decide +kernel
theorem dX8_start_24 : decode cX8_start 24 = .ok (.aload_n 0, 1) := by decide +kernel
theorem dX8_start_25 : decode cX8_start 25 = .ok (.getfield 38, 3) := by decide +kernel
theorem dX8_start_28 : decode cX8_start 28 = .ok (.bipush 11, 2) := by decide +kernel
theorem dX8_start_30 : decode cX8_start 30 = .ok (.iload_n 1, 1) := by decide +kernel
theorem dX8_start_31 : decode cX8_start 31 = .ok (.imul, 1) := by decide +kernel
theorem dX8_start_32 : decode cX8_start 32 = .ok (.iload_n 2, 1) := by decide +kernel
theorem dX8_start_33 : decode cX8_start 33 = .ok (.iastore, 1) := by decide +kernel
theorem dX8_start_34 : decode cX8_start 34 = .ok (.aload_n 0, 1) := by decide +kernel
theorem dX8_start_35 : decode cX8_start 35 = .ok (.getfield 41, 3) := by decide +kernel
theorem dX8_start_38 : decode cX8_start 38 = .ok (.iload_n 1, 1) := by decide +kernel
theorem dX8_start_39 : decode cX8_start 39 = .ok (.iconst 0, 1) := by decide +kernel
theorem dX8_start_40 : decode cX8_start 40 = .ok (.iastore, 1) := by decide +kernel
theorem dX8_start_41 : decode cX8_start 41 = .ok (.aload_n 0, 1) := by decide +kernel
theorem dX8_start_42 : decode cX8_start 42 = .ok (.getfield 44, 3) := by decide +kernel
theorem dX8_start_45 : decode cX8_start 45 = .ok (.iload_n 1, 1) := by decide +kernel
theorem dX8_start_46 : decode cX8_start 46 = .ok (.bipush (-2), 2) := by decide +kernel
theorem dX8_start_48 : decode cX8_start 48 = .ok (.iastore, 1) := by decide +kernel
theorem dX8_start_49 : decode cX8_start 49 = .ok (.aload_n 0, 1) := by decide +kernel
theorem dX8_start_50 : decode cX8_start 50 = .ok (.getfield 47, 3) := by decide +kernel
theorem dX8_start_53 : decode cX8_start 53 = .ok (.iload_n 1, 1) := by decide +kernel
theorem dX8_start_54 : decode cX8_start 54 = .ok (.bipush (-2), 2) := by decide +kernel
theorem dX8_start_56 : decode cX8_start 56 = .ok (.iastore, 1) := by decide +kernel
theorem dX8_start_57 : decode cX8_start 57 = .ok (.iconst 1, 1) := by decide +kernel
theorem dX8_start_58 : decode cX8_start 58 = .ok (.ireturn, 1) := by decide +kernel
theorem dX8_against_0 : decode cX8_against 0 = .ok (.aload_n 0, 1) := by decide +kernel
theorem dX8_against_1 : decode cX8_against 1 = .ok (.getfield 13, 3) := by decide +kernel
theorem dX8_against_4 : decode cX8_against 4 = .ok (.iload_n 2, 1) := by decide +kernel
theorem dX8_against_5 : decode cX8_against 5 = .ok (.iaload, 1) := by decide +kernel
theorem dX8_against_6 : decode cX8_against 6 = .ok (.aload_n 0, 1) := by decide +kernel
theorem dX8_against_7 : decode cX8_against 7 = .ok (.getfield 13, 3) := by decide +kernel
theorem dX8_against_10 : decode cX8_against 10 = .ok (.iload_n 1, 1) := by decide +kernel
theorem dX8_against_11 : decode cX8_against 11 = .ok (.iaload, 1) := by decide +kernel
theorem dX8_against_12 : decode cX8_against 12 = .ok (.isub, 1) := by decide +kernel
theorem dX8_against_13 : decode cX8_against 13 = .ok (.istore_n 3, 1) := by decide +kernel
theorem dX8_against_14 : decode cX8_against 14 = .ok (.iload_n 3, 1) := by decide +kernel
theorem dX8_against_15 : decode cX8_against 15 = .ok (.ifCond .gt 5, 3) := by decide +kernel
theorem dX8_against_18 : decode cX8_against 18 = .ok (.iconst 1, 1) := by decide +kernel
theorem dX8_against_19 : decode cX8_against 19 = .ok (.ireturn, 1) := by decide +kernel
theorem dX8_against_20 : decode cX8_against 20 = .ok (.iload_n 3, 1) := by decide +kernel
theorem dX8_against_21 : decode cX8_against 21 = .ok (.iconst 1, 1) := by decide +kernel
theorem dX8_against_22 : decode cX8_against 22 = .ok (.if_icmp .ne 55, 3) := by decide +kernel
theorem dX8_against_25 : decode cX8_against 25 = .ok (.aload_n 0, 1) := by decide +kernel
theorem dX8_against_26 : decode cX8_against 26 = .ok (.getfield 16, 3) := by decide +kernel
theorem dX8_against_29 : decode cX8_against 29 = .ok (.iload_n 2, 1) := by decide +kernel
theorem dX8_against_30 : decode cX8_against 30 = .ok (.laload, 1) := by decide +kernel
theorem dX8_against_31 : decode cX8_against 31 = .ok (.aload_n 0, 1) := by decide +kernel
theorem dX8_against_32 : decode cX8_against 32 = .ok (.iload_n 1, 1) := by decide +kernel
theorem dX8_against_33 : decode cX8_against 33 = .ok (.invokevirtual 132, 3) := by decide +kernel
theorem dX8_against_36 : decode cX8_against 36 = .ok (.lcmp, 1) := by decide +kernel
theorem dX8_against_37 : decode cX8_against 37 = .ok (.ifCond .eq 7, 3) := by decide +kernel
theorem dX8_against_40 : decode cX8_against 40 = .ok (.iconst 2, 1) := by decide +kernel
theorem dX8_against_41 : decode cX8_against 41 = .ok (.goto 35, 3) := by decide +kernel
theorem dX8_against_44 : decode cX8_against 44 = .ok (.aload_n 0, 1) := by decide +kernel
theorem dX8_against_45 : decode cX8_against 45 = .ok (.getfield 20, 3) := by decide +kernel
theorem dX8_against_48 : decode cX8_against 48 = .ok (.iload_n 2, 1) := by decide +kernel
theorem dX8_against_49 : decode cX8_against 49 = .ok (.iaload, 1) := by decide +kernel
theorem dX8_against_50 : decode cX8_against 50 = .ok (.aload_n 0, 1) := by decide +kernel
theorem dX8_against_51 : decode cX8_against 51 = .ok (.getfield 23, 3) := by decide +kernel
theorem dX8_against_54 : decode cX8_against 54 = .ok (.iload_n 1, 1) := by decide +kernel
theorem dX8_against_55 : decode cX8_against 55 = .ok (.iaload, 1) := by decide +kernel
theorem dX8_against_56 : decode cX8_against 56 = .ok (.if_icmp .eq 7, 3) := by decide +kernel
theorem dX8_against_59 : decode cX8_against 59 = .ok (.iconst 3, 1) := by decide +kernel
theorem dX8_against_60 : decode cX8_against 60 = .ok (.goto 16, 3) := by decide +kernel
theorem dX8_against_63 : decode cX8_against 63 = .ok (.aload_n 0, 1) := by decide +kernel
theorem dX8_against_64 : decode cX8_against 64 = .ok (.iload_n 2, 1) := by decide +kernel
theorem dX8_against_65 : decode cX8_against 65 = .ok (.invokevirtual 139, 3) := by decide +kernel
theorem dX8_against_68 : decode cX8_against 68 = .ok (.ifCond .eq 7, 3) := by decide +kernel
theorem dX8_against_71 : decode cX8_against 71 = .ok (.iconst 0, 1) := by decide +kernel
theorem dX8_against_72 : decode cX8_against 72 = .ok (.goto 4, 3) := by decide +kernel
theorem dX8_against_75 : decode cX8_against 75 = .ok (.iconst 4, 1) := by decide +kernel
theorem dX8_against_76 : decode cX8_against 76 = .ok (.ireturn, 1) := by decide +kernel
theorem dX8_against_77 : decode cX8_against 77 = .ok (.iload_n 3, 1) := by decide +kernel
theorem dX8_against_78 : decode cX8_against 78 = .ok (.aload_n 0, 1) := by decide +kernel
theorem dX8_against_79 : decode cX8_against 79 = .ok (.getfield 32, 3) := by decide +kernel
theorem dX8_against_82 : decode cX8_against 82 = .ok (.iconst 2, 1) := by decide +kernel
theorem dX8_against_83 : decode cX8_against 83 = .ok (.iaload, 1) := by decide +kernel
theorem dX8_against_84 : decode cX8_against 84 = .ok (.if_icmp .le 7, 3) := by decide +kernel
theorem dX8_against_87 : decode cX8_against 87 = .ok (.iconst 5, 1) := by decide +kernel
theorem dX8_against_88 : decode cX8_against 88 = .ok (.goto 35, 3) := by decide +kernel
theorem dX8_against_91 : decode cX8_against 91 = .ok (.aload_n 0, 1) := by decide +kernel
theorem dX8_against_92 : decode cX8_against 92 = .ok (.iload_n 2, 1) := by decide +kernel
theorem dX8_against_93 : decode cX8_against 93 = .ok (.invokevirtual 139, 3) := by decide +kernel
theorem dX8_against_96 : decode cX8_against 96 = .ok (.ifCond .ne 7, 3) := by decide +kernel
theorem dX8_against_99 : decode cX8_against 99 = .ok (.iconst 4, 1) := by decide +kernel
theorem dX8_against_100 : decode cX8_against 100 = .ok (.goto 23, 3) := by decide +kernel
theorem dX8_against_103 : decode cX8_against 103 = .ok (.aload_n 0, 1) := by decide +kernel
theorem dX8_against_104 : decode cX8_against 104 = .ok (.iload_n 2, 1) := by decide +kernel
theorem dX8_against_105 : decode cX8_against 105 = .ok (.aload_n 0, 1) := by decide +kernel
theorem dX8_against_106 : decode cX8_against 106 = .ok (.getfield 23, 3) := by decide +kernel
theorem dX8_against_109 : decode cX8_against 109 = .ok (.iload_n 1, 1) := by decide +kernel
theorem dX8_against_110 : decode cX8_against 110 = .ok (.iaload, 1) := by decide +kernel
theorem dX8_against_111 : decode cX8_against 111 = .ok (.invokevirtual 142, 3) := by decide +kernel
theorem dX8_against_114 : decode cX8_against 114 = .ok (.ifCond .eq 7, 3) := by decide +kernel
theorem dX8_against_117 : decode cX8_against 117 = .ok (.iconst 0, 1) := by decide +kernel
