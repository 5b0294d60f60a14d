/-- how it goes on behind a call, at the law's own step -/
def lw_kk (p : Program) (l : Launch) (e : Env) (s : State) (m : MethodId) (below : List Frame) (meth : Method) (c : Code) (E : wg_E) (b i : Nat) : Prop :=
  ∀ (A : Nat → Nat) (C : wg_C) (S : lc_S) (H : Heap) (locs : List Loc) (ls : Array Slot), lx E A C S → lm E A C S → lc_inv S → wg_P E A C H → va_S (wg_A E) s.heap H locs → lv_has ls 4 [(0, .ref b), (1, .ref (A 0)), (2, .ref (A 1000)), (3, .int (nI i))] →
    W p l e room_1 s m #[Value.ref b] below meth c H locs (i + 8 + 100) (i + 8 + 3000) (lw_Z below #[Value.ref b] s) (F0 m 1195 ls [])
abbrev lw_case (pc : Nat) : Prop := ∀ {p : Program} {l : Launch} {e : Env} {s : State} {m : MethodId} {below : List Frame} {meth : Method} {c : Code} {E : wg_E} {b L : Nat} {xs : Nat → Int32}, L ≤ 4096 → lw_At p s m meth c b L xs → E.2.2.1 = s.heap.size → wg_F p m c cL_law 4 s #[Value.ref b] R_law E →
  ∀ (A : Nat → Nat) (C : wg_C) (S : lc_S) (i : Nat) (H : Heap) (locs : List Loc) (ls : Array Slot), lx E A C S → lm E A C S → lc_inv S → i + 8 ≤ L → wg_P E A C H → va_S (wg_A E) s.heap H locs → lv_has ls 4 [(0, .ref b), (1, .ref (A 0)), (2, .ref (A 1000)), (3, .int (nI i))] → lw_kk p l e s m below meth c E b i →
    W p l e room_1 s m #[Value.ref b] below meth c H locs (i + 100) (i + 3000) (lw_Z below #[Value.ref b] s) (F0 m pc ls [])
set_option maxHeartbeats 4000000 in
set_option maxRecDepth 100000 in
theorem law_set : lw_case 144 := by
  intro p l e s m below meth c E b L xs hL C0 hE F A C S i H locs ls hX hM hI hi hP hS hl kk
  have hx := F.1
  have hb := F.2.1
  have hml := F.2.2.1
  have hown := F.2.2.2.1
  have hts := F.2.2.2.2.1
  obtain ⟨-, -, -, -, -, -, hsc, hbl, -, -⟩ := C0
  have hbA : ¬ wg_A E b := by show ¬ E.2.2.1 ≤ b; rw [hE]; exact Nat.not_le.mpr hbl
  have x0 : C 0 = some (.inr (7, [.ref (A 1), .int (nI (lc_ns (st_B S))), .ref (A 2), .ref (A 4), .ref (A 5), .ref (A 6), .ref (A 7), .ref (A 8), .ref (A 11)])) := hX.1
  have mo : C 1000 = some (.inr (8, [.int (nI (lc_ns (st_B S))), .ref (A 1001), .int (nI (lc_nh (st_B S))), .ref (A 1003), .ref (A 1004), .ref (A 1005), .ref (A 1006), .ref (A 1007), .ref (A 1008), .ref (A 1009), .ref (A 1010), .ref (A 1011), .ref (A 1012), .ref (A 1013), .ref (A 1014), .ref (A 1015), .ref (A 1016), .ref (A 1017), .ref (A 1018), .int (nI (st_pa S)), .int (nI (st_pb S)), .long (st_va S), .long (st_vb S), .int (nI (st_ct S)), .ref (A 1024), .ref (A 1025), .ref (A 1026), .ref (A 1027), .ref (A 1028)])) := hM.1
  refine lv_aload_n hx hb dL_law_144 rfl (lv_at hl 1 rfl) ?_
  refine lv_aload_n hx hb dL_law_145 rfl (lv_at hl 0 rfl) ?_
  refine lv_iload_n hx hb dL_law_146 rfl (lv_at hl 3 rfl) ?_
  refine lv_iconst (v := 1) hx hb dL_law_147 (by decide) ?_
  refine lv_iadd hx hb dL_law_148 ?_
  refine wg_topi (y := nI (i + 1)) (by rw [show (1 : Int32) = nI 1 from rfl, nI_add]) ?_
  refine va_sld hx hb hsc hbl hbA hS (vp_in_nI (n := i + 1) (by omega) (by omega)) dL_law_149 ?_
  refine wg_topi (y := xs (i + 1)) (by rw [nI_clamp (by omega)]) ?_
  refine lv_i2l (v := (xs (i + 1)).toInt64) hx hb dL_law_150 rfl ?_
  refine lv_bipush (v := 32) hx hb dL_law_151 (by decide) ?_
  refine lv_lshl (v := ((xs (i + 1)).toInt64) <<< ((32 : Int32).toInt64 &&& 63)) hx hb dL_law_153 rfl ?_
  refine lv_aload_n hx hb dL_law_154 rfl (lv_at hl 0 rfl) ?_
  refine lv_iload_n hx hb dL_law_155 rfl (lv_at hl 3 rfl) ?_
  refine lv_iconst (v := 2) hx hb dL_law_156 (by decide) ?_
  refine lv_iadd hx hb dL_law_157 ?_
  refine wg_topi (y := nI (i + 2)) (by rw [show (2 : Int32) = nI 2 from rfl, nI_add]) ?_
  refine va_sld hx hb hsc hbl hbA hS (vp_in_nI (n := i + 2) (by omega) (by omega)) dL_law_158 ?_
  refine wg_topi (y := xs (i + 2)) (by rw [nI_clamp (by omega)]) ?_
  refine lv_i2l (v := (xs (i + 2)).toInt64) hx hb dL_law_159 rfl ?_
  refine lv_ldc2 (v := 4294967295) hx hb hown (hts _ tb_807) dL_law_160 ?_
  refine lv_land hx hb dL_law_163 ?_
  refine lv_lor hx hb dL_law_164 ?_
  refine lv_aload_n hx hb dL_law_165 rfl (lv_at hl 0 rfl) ?_
  refine lv_iload_n hx hb dL_law_166 rfl (lv_at hl 3 rfl) ?_
  refine lv_iconst (v := 3) hx hb dL_law_167 (by decide) ?_
  refine lv_iadd hx hb dL_law_168 ?_
  refine wg_topi (y := nI (i + 3)) (by rw [show (3 : Int32) = nI 3 from rfl, nI_add]) ?_
  refine va_sld hx hb hsc hbl hbA hS (vp_in_nI (n := i + 3) (by omega) (by omega)) dL_law_169 ?_
  refine wg_topi (y := xs (i + 3)) (by rw [nI_clamp (by omega)]) ?_
  refine lv_i2l (v := (xs (i + 3)).toInt64) hx hb dL_law_170 rfl ?_
  refine lv_bipush (v := 32) hx hb dL_law_171 (by decide) ?_
  refine lv_lshl (v := ((xs (i + 3)).toInt64) <<< ((32 : Int32).toInt64 &&& 63)) hx hb dL_law_173 rfl ?_
  refine lv_aload_n hx hb dL_law_174 rfl (lv_at hl 0 rfl) ?_
  refine lv_iload_n hx hb dL_law_175 rfl (lv_at hl 3 rfl) ?_
  refine lv_iconst (v := 4) hx hb dL_law_176 (by decide) ?_
  refine lv_iadd hx hb dL_law_177 ?_
  refine wg_topi (y := nI (i + 4)) (by rw [show (4 : Int32) = nI 4 from rfl, nI_add]) ?_
  refine va_sld hx hb hsc hbl hbA hS (vp_in_nI (n := i + 4) (by omega) (by omega)) dL_law_178 ?_
  refine wg_topi (y := xs (i + 4)) (by rw [nI_clamp (by omega)]) ?_
  refine lv_i2l (v := (xs (i + 4)).toInt64) hx hb dL_law_179 rfl ?_
  refine lv_ldc2 (v := 4294967295) hx hb hown (hts _ tb_807) dL_law_180 ?_
  refine lv_land hx hb dL_law_183 ?_
  refine lv_lor hx hb dL_law_184 ?_
  refine wg_ci hS (wg_rV (As := [.long ((((xs (i + 1)).toInt64) <<< ((32 : Int32).toInt64 &&& 63)) ||| (((xs (i + 2)).toInt64) &&& 4294967295)), .long ((((xs (i + 3)).toInt64) <<< ((32 : Int32).toInt64 &&& 63)) ||| (((xs (i + 4)).toInt64) &&& 4294967295))]) (rest := []) F hP hS (c_X7_set l E A C S ((((xs (i + 1)).toInt64) <<< ((32 : Int32).toInt64 &&& 63)) ||| (((xs (i + 2)).toInt64) &&& 4294967295)) ((((xs (i + 3)).toInt64) <<< ((32 : Int32).toInt64 &&& 63)) ||| (((xs (i + 4)).toInt64) &&& 4294967295)) hX hI) ok_X7_set tb_191 rfl rfl ⟨Nat.le_of_ble_eq_true rfl, Nat.le_of_ble_eq_true rfl⟩ x0 rfl rfl rfl hl.1 rfl (Nat.le_of_ble_eq_true rfl) dL_law_185 ⟨by show _ ≤ 600000; omega, by show _ ≤ 7302250; omega⟩) (fun r_185 A9 C_185 H locs w_185 hP hS => ?_)
  obtain ⟨hA1, hk1, w_185, hX1⟩ := w_185
  have hM1 : lm E A9 C_185 S := lm_move (lm_at hM hk1) (fun q hq => hA1 q (Or.inr hq))
  have hl : lv_has ls 4 [(0, .ref b), (1, .ref (A9 0)), (2, .ref (A9 1000)), (3, .int (nI i))] := by rw [hA1 0 (Or.inl rfl), hA1 1000 (Or.inr (by decide))]; exact hl
  have mo1 : C_185 1000 = some (.inr (8, [.int (nI (lc_ns (st_B S))), .ref (A9 1001), .int (nI (lc_nh (st_B S))), .ref (A9 1003), .ref (A9 1004), .ref (A9 1005), .ref (A9 1006), .ref (A9 1007), .ref (A9 1008), .ref (A9 1009), .ref (A9 1010), .ref (A9 1011), .ref (A9 1012), .ref (A9 1013), .ref (A9 1014), .ref (A9 1015), .ref (A9 1016), .ref (A9 1017), .ref (A9 1018), .int (nI (st_pa S)), .int (nI (st_pb S)), .long (st_va S), .long (st_vb S), .int (nI (st_ct S)), .ref (A9 1024), .ref (A9 1025), .ref (A9 1026), .ref (A9 1027), .ref (A9 1028)])) := hM1.1
  refine lv_aload_n hx hb dL_law_188 rfl (lv_at hl 2 rfl) ?_
  refine lv_aload_n hx hb dL_law_189 rfl (lv_at hl 0 rfl) ?_
  refine lv_iload_n hx hb dL_law_190 rfl (lv_at hl 3 rfl) ?_
  refine lv_iconst (v := 1) hx hb dL_law_191 (by decide) ?_
  refine lv_iadd hx hb dL_law_192 ?_
  refine wg_topi (y := nI (i + 1)) (by rw [show (1 : Int32) = nI 1 from rfl, nI_add]) ?_
  refine va_sld hx hb hsc hbl hbA hS (vp_in_nI (n := i + 1) (by omega) (by omega)) dL_law_193 ?_
  refine wg_topi (y := xs (i + 1)) (by rw [nI_clamp (by omega)]) ?_
  refine lv_i2l (v := (xs (i + 1)).toInt64) hx hb dL_law_194 rfl ?_
  refine lv_bipush (v := 32) hx hb dL_law_195 (by decide) ?_
  refine lv_lshl (v := ((xs (i + 1)).toInt64) <<< ((32 : Int32).toInt64 &&& 63)) hx hb dL_law_197 rfl ?_
  refine lv_aload_n hx hb dL_law_198 rfl (lv_at hl 0 rfl) ?_
  refine lv_iload_n hx hb dL_law_199 rfl (lv_at hl 3 rfl) ?_
  refine lv_iconst (v := 2) hx hb dL_law_200 (by decide) ?_
  refine lv_iadd hx hb dL_law_201 ?_
  refine wg_topi (y := nI (i + 2)) (by rw [show (2 : Int32) = nI 2 from rfl, nI_add]) ?_
  refine va_sld hx hb hsc hbl hbA hS (vp_in_nI (n := i + 2) (by omega) (by omega)) dL_law_202 ?_
  refine wg_topi (y := xs (i + 2)) (by rw [nI_clamp (by omega)]) ?_
  refine lv_i2l (v := (xs (i + 2)).toInt64) hx hb dL_law_203 rfl ?_
  refine lv_ldc2 (v := 4294967295) hx hb hown (hts _ tb_807) dL_law_204 ?_
  refine lv_land hx hb dL_law_207 ?_
  refine lv_lor hx hb dL_law_208 ?_
  refine lv_aload_n hx hb dL_law_209 rfl (lv_at hl 0 rfl) ?_
  refine lv_iload_n hx hb dL_law_210 rfl (lv_at hl 3 rfl) ?_
  refine lv_iconst (v := 3) hx hb dL_law_211 (by decide) ?_
  refine lv_iadd hx hb dL_law_212 ?_
  refine wg_topi (y := nI (i + 3)) (by rw [show (3 : Int32) = nI 3 from rfl, nI_add]) ?_
  refine va_sld hx hb hsc hbl hbA hS (vp_in_nI (n := i + 3) (by omega) (by omega)) dL_law_213 ?_
  refine wg_topi (y := xs (i + 3)) (by rw [nI_clamp (by omega)]) ?_
  refine lv_i2l (v := (xs (i + 3)).toInt64) hx hb dL_law_214 rfl ?_
  refine lv_bipush (v := 32) hx hb dL_law_215 (by decide) ?_
  refine lv_lshl (v := ((xs (i + 3)).toInt64) <<< ((32 : Int32).toInt64 &&& 63)) hx hb dL_law_217 rfl ?_
  refine lv_aload_n hx hb dL_law_218 rfl (lv_at hl 0 rfl) ?_
  refine lv_iload_n hx hb dL_law_219 rfl (lv_at hl 3 rfl) ?_
  refine lv_iconst (v := 4) hx hb dL_law_220 (by decide) ?_
  refine lv_iadd hx hb dL_law_221 ?_
  refine wg_topi (y := nI (i + 4)) (by rw [show (4 : Int32) = nI 4 from rfl, nI_add]) ?_
  refine va_sld hx hb hsc hbl hbA hS (vp_in_nI (n := i + 4) (by omega) (by omega)) dL_law_222 ?_
  refine wg_topi (y := xs (i + 4)) (by rw [nI_clamp (by omega)]) ?_
  refine lv_i2l (v := (xs (i + 4)).toInt64) hx hb dL_law_223 rfl ?_
  refine lv_ldc2 (v := 4294967295) hx hb hown (hts _ tb_807) dL_law_224 ?_
  refine lv_land hx hb dL_law_227 ?_
  refine lv_lor hx hb dL_law_228 ?_
  refine wg_ci hS (wg_rV (As := [.long ((((xs (i + 1)).toInt64) <<< ((32 : Int32).toInt64 &&& 63)) ||| (((xs (i + 2)).toInt64) &&& 4294967295)), .long ((((xs (i + 3)).toInt64) <<< ((32 : Int32).toInt64 &&& 63)) ||| (((xs (i + 4)).toInt64) &&& 4294967295))]) (rest := [.int r_185]) F hP hS (c_X8_set l E A9 C_185 S ((((xs (i + 1)).toInt64) <<< ((32 : Int32).toInt64 &&& 63)) ||| (((xs (i + 2)).toInt64) &&& 4294967295)) ((((xs (i + 3)).toInt64) <<< ((32 : Int32).toInt64 &&& 63)) ||| (((xs (i + 4)).toInt64) &&& 4294967295)) hM1 hI) ok_X8_set tb_638 rfl rfl ⟨Nat.le_of_ble_eq_true rfl, Nat.le_of_ble_eq_true rfl⟩ mo1 rfl rfl rfl hl.1 rfl (Nat.le_of_ble_eq_true rfl) dL_law_229 ⟨by show _ ≤ 600000; omega, by show _ ≤ 7302250; omega⟩) (fun r_229 A1 C_229 H locs w_229 hP hS => ?_)
  obtain ⟨rfl, w_229, hM2, hk2⟩ := w_229
  have hX2 : lx E A9 C_229 ((op_set S ((((xs (i + 1)).toInt64) <<< ((32 : Int32).toInt64 &&& 63)) ||| (((xs (i + 2)).toInt64) &&& 4294967295)) ((((xs (i + 3)).toInt64) <<< ((32 : Int32).toInt64 &&& 63)) ||| (((xs (i + 4)).toInt64) &&& 4294967295))).2) := lx_at hX1 hk2
  refine lv_icmp_eq (tgt := 1195) hx hb dL_law_232 (by decide) (fun c_232 => ?_) (fun c_232 => ?_)
  · refine W.widen (k := i + 8 + 100) (n := i + 8 + 3000) (by omega) (by omega) ?_
    exact kk A9 C_229 ((op_set S ((((xs (i + 1)).toInt64) <<< ((32 : Int32).toInt64 &&& 63)) ||| (((xs (i + 2)).toInt64) &&& 4294967295)) ((((xs (i + 3)).toInt64) <<< ((32 : Int32).toInt64 &&& 63)) ||| (((xs (i + 4)).toInt64) &&& 4294967295))).2) _ _ _ hX2 hM2 (op_set_inv hI) hP hS hl
  · exact absurd (w_185.trans w_229.symm) c_232
set_option maxHeartbeats 4000000 in
set_option maxRecDepth 100000 in
theorem law_head : lw_case 237 := by
  intro p l e s m below meth c E b L xs hL C0 hE F A C S i H locs ls hX hM hI hi hP hS hl kk
  have hx := F.1
  have hb := F.2.1
  have hml := F.2.2.1
  have hown := F.2.2.2.1
  have hts := F.2.2.2.2.1
  obtain ⟨-, -, -, -, -, -, hsc, hbl, -, -⟩ := C0
  have hbA : ¬ wg_A E b := by show ¬ E.2.2.1 ≤ b; rw [hE]; exact Nat.not_le.mpr hbl
  have x0 : C 0 = some (.inr (7, [.ref (A 1), .int (nI (lc_ns (st_B S))), .ref (A 2), .ref (A 4), .ref (A 5), .ref (A 6), .ref (A 7), .ref (A 8), .ref (A 11)])) := hX.1
  have mo : C 1000 = some (.inr (8, [.int (nI (lc_ns (st_B S))), .ref (A 1001), .int (nI (lc_nh (st_B S))), .ref (A 1003), .ref (A 1004), .ref (A 1005), .ref (A 1006), .ref (A 1007), .ref (A 1008), .ref (A 1009), .ref (A 1010), .ref (A 1011), .ref (A 1012), .ref (A 1013), .ref (A 1014), .ref (A 1015), .ref (A 1016), .ref (A 1017), .ref (A 1018), .int (nI (st_pa S)), .int (nI (st_pb S)), .long (st_va S), .long (st_vb S), .int (nI (st_ct S)), .ref (A 1024), .ref (A 1025), .ref (A 1026), .ref (A 1027), .ref (A 1028)])) := hM.1
  refine lv_aload_n hx hb dL_law_237 rfl (lv_at hl 1 rfl) ?_
  refine lv_aload_n hx hb dL_law_238 rfl (lv_at hl 0 rfl) ?_
  refine lv_iload_n hx hb dL_law_239 rfl (lv_at hl 3 rfl) ?_
  refine lv_iconst (v := 1) hx hb dL_law_240 (by decide) ?_
  refine lv_iadd hx hb dL_law_241 ?_
  refine wg_topi (y := nI (i + 1)) (by rw [show (1 : Int32) = nI 1 from rfl, nI_add]) ?_
  refine va_sld hx hb hsc hbl hbA hS (vp_in_nI (n := i + 1) (by omega) (by omega)) dL_law_242 ?_
  refine wg_topi (y := xs (i + 1)) (by rw [nI_clamp (by omega)]) ?_
  refine lv_aload_n hx hb dL_law_243 rfl (lv_at hl 0 rfl) ?_
  refine lv_iload_n hx hb dL_law_244 rfl (lv_at hl 3 rfl) ?_
  refine lv_iconst (v := 2) hx hb dL_law_245 (by decide) ?_
  refine lv_iadd hx hb dL_law_246 ?_
  refine wg_topi (y := nI (i + 2)) (by rw [show (2 : Int32) = nI 2 from rfl, nI_add]) ?_
  refine va_sld hx hb hsc hbl hbA hS (vp_in_nI (n := i + 2) (by omega) (by omega)) dL_law_247 ?_
  refine wg_topi (y := xs (i + 2)) (by rw [nI_clamp (by omega)]) ?_
  refine lv_i2l (v := (xs (i + 2)).toInt64) hx hb dL_law_248 rfl ?_
  refine lv_bipush (v := 32) hx hb dL_law_249 (by decide) ?_
  refine lv_lshl (v := ((xs (i + 2)).toInt64) <<< ((32 : Int32).toInt64 &&& 63)) hx hb dL_law_251 rfl ?_
  refine lv_aload_n hx hb dL_law_252 rfl (lv_at hl 0 rfl) ?_
  refine lv_iload_n hx hb dL_law_253 rfl (lv_at hl 3 rfl) ?_
  refine lv_iconst (v := 3) hx hb dL_law_254 (by decide) ?_
  refine lv_iadd hx hb dL_law_255 ?_
  refine wg_topi (y := nI (i + 3)) (by rw [show (3 : Int32) = nI 3 from rfl, nI_add]) ?_
  refine va_sld hx hb hsc hbl hbA hS (vp_in_nI (n := i + 3) (by omega) (by omega)) dL_law_256 ?_
  refine wg_topi (y := xs (i + 3)) (by rw [nI_clamp (by omega)]) ?_
  refine lv_i2l (v := (xs (i + 3)).toInt64) hx hb dL_law_257 rfl ?_
  refine lv_ldc2 (v := 4294967295) hx hb hown (hts _ tb_807) dL_law_258 ?_
  refine lv_land hx hb dL_law_261 ?_
  refine lv_lor hx hb dL_law_262 ?_
  refine lv_aload_n hx hb dL_law_263 rfl (lv_at hl 0 rfl) ?_
  refine lv_iload_n hx hb dL_law_264 rfl (lv_at hl 3 rfl) ?_
  refine lv_iconst (v := 4) hx hb dL_law_265 (by decide) ?_
  refine lv_iadd hx hb dL_law_266 ?_
  refine wg_topi (y := nI (i + 4)) (by rw [show (4 : Int32) = nI 4 from rfl, nI_add]) ?_
  refine va_sld hx hb hsc hbl hbA hS (vp_in_nI (n := i + 4) (by omega) (by omega)) dL_law_267 ?_
  refine wg_topi (y := xs (i + 4)) (by rw [nI_clamp (by omega)]) ?_
  refine lv_aload_n hx hb dL_law_268 rfl (lv_at hl 0 rfl) ?_
  refine lv_iload_n hx hb dL_law_269 rfl (lv_at hl 3 rfl) ?_
  refine lv_iconst (v := 5) hx hb dL_law_270 (by decide) ?_
  refine lv_iadd hx hb dL_law_271 ?_
  refine wg_topi (y := nI (i + 5)) (by rw [show (5 : Int32) = nI 5 from rfl, nI_add]) ?_
  refine va_sld hx hb hsc hbl hbA hS (vp_in_nI (n := i + 5) (by omega) (by omega)) dL_law_272 ?_
  refine wg_topi (y := xs (i + 5)) (by rw [nI_clamp (by omega)]) ?_
  refine lv_aload_n hx hb dL_law_273 rfl (lv_at hl 0 rfl) ?_
  refine lv_iload_n hx hb dL_law_274 rfl (lv_at hl 3 rfl) ?_
  refine lv_bipush (v := 6) hx hb dL_law_275 (by decide) ?_
  refine lv_iadd hx hb dL_law_277 ?_
  refine wg_topi (y := nI (i + 6)) (by rw [show (6 : Int32) = nI 6 from rfl, nI_add]) ?_
  refine va_sld hx hb hsc hbl hbA hS (vp_in_nI (n := i + 6) (by omega) (by omega)) dL_law_278 ?_
  refine wg_topi (y := xs (i + 6)) (by rw [nI_clamp (by omega)]) ?_
  refine lv_i2l (v := (xs (i + 6)).toInt64) hx hb dL_law_279 rfl ?_
  refine lv_bipush (v := 32) hx hb dL_law_280 (by decide) ?_
  refine lv_lshl (v := ((xs (i + 6)).toInt64) <<< ((32 : Int32).toInt64 &&& 63)) hx hb dL_law_282 rfl ?_
  refine lv_aload_n hx hb dL_law_283 rfl (lv_at hl 0 rfl) ?_
  refine lv_iload_n hx hb dL_law_284 rfl (lv_at hl 3 rfl) ?_
  refine lv_bipush (v := 7) hx hb dL_law_285 (by decide) ?_
  refine lv_iadd hx hb dL_law_287 ?_
  refine wg_topi (y := nI (i + 7)) (by rw [show (7 : Int32) = nI 7 from rfl, nI_add]) ?_
  refine va_sld hx hb hsc hbl hbA hS (vp_in_nI (n := i + 7) (by omega) (by omega)) dL_law_288 ?_
  refine wg_topi (y := xs (i + 7)) (by rw [nI_clamp (by omega)]) ?_
  refine lv_i2l (v := (xs (i + 7)).toInt64) hx hb dL_law_289 rfl ?_
  refine lv_ldc2 (v := 4294967295) hx hb hown (hts _ tb_807) dL_law_290 ?_
  refine lv_land hx hb dL_law_293 ?_
  refine lv_lor hx hb dL_law_294 ?_
  refine wg_ci hS (wg_rV (As := [.int (xs (i + 1)), .long ((((xs (i + 2)).toInt64) <<< ((32 : Int32).toInt64 &&& 63)) ||| (((xs (i + 3)).toInt64) &&& 4294967295)), .int (xs (i + 4)), .int (xs (i + 5)), .long ((((xs (i + 6)).toInt64) <<< ((32 : Int32).toInt64 &&& 63)) ||| (((xs (i + 7)).toInt64) &&& 4294967295))]) (rest := []) F hP hS (c_X7_head l E A C S (xs (i + 1)) ((((xs (i + 2)).toInt64) <<< ((32 : Int32).toInt64 &&& 63)) ||| (((xs (i + 3)).toInt64) &&& 4294967295)) (xs (i + 4)) (xs (i + 5)) ((((xs (i + 6)).toInt64) <<< ((32 : Int32).toInt64 &&& 63)) ||| (((xs (i + 7)).toInt64) &&& 4294967295)) hX hI) ok_X7_head tb_223 rfl rfl ⟨Nat.le_of_ble_eq_true rfl, Nat.le_of_ble_eq_true rfl⟩ x0 rfl rfl rfl hl.1 rfl (Nat.le_of_ble_eq_true rfl) dL_law_295 ⟨by show _ ≤ 600000; omega, by show _ ≤ 7302250; omega⟩) (fun r_295 A9 C_295 H locs w_295 hP hS => ?_)
  obtain ⟨hA1, hk1, w_295, hX1⟩ := w_295
  have hM1 : lm E A9 C_295 S := lm_move (lm_at hM hk1) (fun q hq => hA1 q (Or.inr hq))
  have hl : lv_has ls 4 [(0, .ref b), (1, .ref (A9 0)), (2, .ref (A9 1000)), (3, .int (nI i))] := by rw [hA1 0 (Or.inl rfl), hA1 1000 (Or.inr (by decide))]; exact hl
  have mo1 : C_295 1000 = some (.inr (8, [.int (nI (lc_ns (st_B S))), .ref (A9 1001), .int (nI (lc_nh (st_B S))), .ref (A9 1003), .ref (A9 1004), .ref (A9 1005), .ref (A9 1006), .ref (A9 1007), .ref (A9 1008), .ref (A9 1009), .ref (A9 1010), .ref (A9 1011), .ref (A9 1012), .ref (A9 1013), .ref (A9 1014), .ref (A9 1015), .ref (A9 1016), .ref (A9 1017), .ref (A9 1018), .int (nI (st_pa S)), .int (nI (st_pb S)), .long (st_va S), .long (st_vb S), .int (nI (st_ct S)), .ref (A9 1024), .ref (A9 1025), .ref (A9 1026), .ref (A9 1027), .ref (A9 1028)])) := hM1.1
  refine lv_aload_n hx hb dL_law_298 rfl (lv_at hl 2 rfl) ?_
  refine lv_aload_n hx hb dL_law_299 rfl (lv_at hl 0 rfl) ?_
  refine lv_iload_n hx hb dL_law_300 rfl (lv_at hl 3 rfl) ?_
  refine lv_iconst (v := 1) hx hb dL_law_301 (by decide) ?_
  refine lv_iadd hx hb dL_law_302 ?_
  refine wg_topi (y := nI (i + 1)) (by rw [show (1 : Int32) = nI 1 from rfl, nI_add]) ?_
  refine va_sld hx hb hsc hbl hbA hS (vp_in_nI (n := i + 1) (by omega) (by omega)) dL_law_303 ?_
  refine wg_topi (y := xs (i + 1)) (by rw [nI_clamp (by omega)]) ?_
  refine lv_aload_n hx hb dL_law_304 rfl (lv_at hl 0 rfl) ?_
  refine lv_iload_n hx hb dL_law_305 rfl (lv_at hl 3 rfl) ?_
  refine lv_iconst (v := 2) hx hb dL_law_306 (by decide) ?_
  refine lv_iadd hx hb dL_law_307 ?_
  refine wg_topi (y := nI (i + 2)) (by rw [show (2 : Int32) = nI 2 from rfl, nI_add]) ?_
  refine va_sld hx hb hsc hbl hbA hS (vp_in_nI (n := i + 2) (by omega) (by omega)) dL_law_308 ?_
  refine wg_topi (y := xs (i + 2)) (by rw [nI_clamp (by omega)]) ?_
  refine lv_i2l (v := (xs (i + 2)).toInt64) hx hb dL_law_309 rfl ?_
  refine lv_bipush (v := 32) hx hb dL_law_310 (by decide) ?_
  refine lv_lshl (v := ((xs (i + 2)).toInt64) <<< ((32 : Int32).toInt64 &&& 63)) hx hb dL_law_312 rfl ?_
  refine lv_aload_n hx hb dL_law_313 rfl (lv_at hl 0 rfl) ?_
  refine lv_iload_n hx hb dL_law_314 rfl (lv_at hl 3 rfl) ?_
  refine lv_iconst (v := 3) hx hb dL_law_315 (by decide) ?_
  refine lv_iadd hx hb dL_law_316 ?_
  refine wg_topi (y := nI (i + 3)) (by rw [show (3 : Int32) = nI 3 from rfl, nI_add]) ?_
  refine va_sld hx hb hsc hbl hbA hS (vp_in_nI (n := i + 3) (by omega) (by omega)) dL_law_317 ?_
  refine wg_topi (y := xs (i + 3)) (by rw [nI_clamp (by omega)]) ?_
  refine lv_i2l (v := (xs (i + 3)).toInt64) hx hb dL_law_318 rfl ?_
  refine lv_ldc2 (v := 4294967295) hx hb hown (hts _ tb_807) dL_law_319 ?_
  refine lv_land hx hb dL_law_322 ?_
  refine lv_lor hx hb dL_law_323 ?_
  refine lv_aload_n hx hb dL_law_324 rfl (lv_at hl 0 rfl) ?_
  refine lv_iload_n hx hb dL_law_325 rfl (lv_at hl 3 rfl) ?_
  refine lv_iconst (v := 4) hx hb dL_law_326 (by decide) ?_
  refine lv_iadd hx hb dL_law_327 ?_
  refine wg_topi (y := nI (i + 4)) (by rw [show (4 : Int32) = nI 4 from rfl, nI_add]) ?_
  refine va_sld hx hb hsc hbl hbA hS (vp_in_nI (n := i + 4) (by omega) (by omega)) dL_law_328 ?_
  refine wg_topi (y := xs (i + 4)) (by rw [nI_clamp (by omega)]) ?_
  refine lv_aload_n hx hb dL_law_329 rfl (lv_at hl 0 rfl) ?_
  refine lv_iload_n hx hb dL_law_330 rfl (lv_at hl 3 rfl) ?_
  refine lv_iconst (v := 5) hx hb dL_law_331 (by decide) ?_
  refine lv_iadd hx hb dL_law_332 ?_
  refine wg_topi (y := nI (i + 5)) (by rw [show (5 : Int32) = nI 5 from rfl, nI_add]) ?_
  refine va_sld hx hb hsc hbl hbA hS (vp_in_nI (n := i + 5) (by omega) (by omega)) dL_law_333 ?_
  refine wg_topi (y := xs (i + 5)) (by rw [nI_clamp (by omega)]) ?_
  refine lv_aload_n hx hb dL_law_334 rfl (lv_at hl 0 rfl) ?_
  refine lv_iload_n hx hb dL_law_335 rfl (lv_at hl 3 rfl) ?_
  refine lv_bipush (v := 6) hx hb dL_law_336 (by decide) ?_
  refine lv_iadd hx hb dL_law_338 ?_
  refine wg_topi (y := nI (i + 6)) (by rw [show (6 : Int32) = nI 6 from rfl, nI_add]) ?_
  refine va_sld hx hb hsc hbl hbA hS (vp_in_nI (n := i + 6) (by omega) (by omega)) dL_law_339 ?_
  refine wg_topi (y := xs (i + 6)) (by rw [nI_clamp (by omega)]) ?_
  refine lv_i2l (v := (xs (i + 6)).toInt64) hx hb dL_law_340 rfl ?_
  refine lv_bipush (v := 32) hx hb dL_law_341 (by decide) ?_
  refine lv_lshl (v := ((xs (i + 6)).toInt64) <<< ((32 : Int32).toInt64 &&& 63)) hx hb dL_law_343 rfl ?_
  refine lv_aload_n hx hb dL_law_344 rfl (lv_at hl 0 rfl) ?_
  refine lv_iload_n hx hb dL_law_345 rfl (lv_at hl 3 rfl) ?_
  refine lv_bipush (v := 7) hx hb dL_law_346 (by decide) ?_
  refine lv_iadd hx hb dL_law_348 ?_
  refine wg_topi (y := nI (i + 7)) (by rw [show (7 : Int32) = nI 7 from rfl, nI_add]) ?_
  refine va_sld hx hb hsc hbl hbA hS (vp_in_nI (n := i + 7) (by omega) (by omega)) dL_law_349 ?_
  refine wg_topi (y := xs (i + 7)) (by rw [nI_clamp (by omega)]) ?_
  refine lv_i2l (v := (xs (i + 7)).toInt64) hx hb dL_law_350 rfl ?_
  refine lv_ldc2 (v := 4294967295) hx hb hown (hts _ tb_807) dL_law_351 ?_
  refine lv_land hx hb dL_law_354 ?_
  refine lv_lor hx hb dL_law_355 ?_
  refine wg_ci hS (wg_rV (As := [.int (xs (i + 1)), .long ((((xs (i + 2)).toInt64) <<< ((32 : Int32).toInt64 &&& 63)) ||| (((xs (i + 3)).toInt64) &&& 4294967295)), .int (xs (i + 4)), .int (xs (i + 5)), .long ((((xs (i + 6)).toInt64) <<< ((32 : Int32).toInt64 &&& 63)) ||| (((xs (i + 7)).toInt64) &&& 4294967295))]) (rest := [.int r_295]) F hP hS (c_X8_head l E A9 C_295 S (xs (i + 1)) ((((xs (i + 2)).toInt64) <<< ((32 : Int32).toInt64 &&& 63)) ||| (((xs (i + 3)).toInt64) &&& 4294967295)) (xs (i + 4)) (xs (i + 5)) ((((xs (i + 6)).toInt64) <<< ((32 : Int32).toInt64 &&& 63)) ||| (((xs (i + 7)).toInt64) &&& 4294967295)) hM1 hI) ok_X8_head tb_645 rfl rfl ⟨Nat.le_of_ble_eq_true rfl, Nat.le_of_ble_eq_true rfl⟩ mo1 rfl rfl rfl hl.1 rfl (Nat.le_of_ble_eq_true rfl) dL_law_356 ⟨by show _ ≤ 600000; omega, by show _ ≤ 7302250; omega⟩) (fun r_356 A1 C_356 H locs w_356 hP hS => ?_)
  obtain ⟨rfl, w_356, hM2, hk2⟩ := w_356
  have hX2 : lx E A9 C_356 ((op_head S (xs (i + 1)) ((((xs (i + 2)).toInt64) <<< ((32 : Int32).toInt64 &&& 63)) ||| (((xs (i + 3)).toInt64) &&& 4294967295)) (xs (i + 4)) (xs (i + 5)) ((((xs (i + 6)).toInt64) <<< ((32 : Int32).toInt64 &&& 63)) ||| (((xs (i + 7)).toInt64) &&& 4294967295))).2) := lx_at hX1 hk2
  refine lv_icmp_eq (tgt := 1195) hx hb dL_law_359 (by decide) (fun c_359 => ?_) (fun c_359 => ?_)
  · refine W.widen (k := i + 8 + 100) (n := i + 8 + 3000) (by omega) (by omega) ?_
    exact kk A9 C_356 ((op_head S (xs (i + 1)) ((((xs (i + 2)).toInt64) <<< ((32 : Int32).toInt64 &&& 63)) ||| (((xs (i + 3)).toInt64) &&& 4294967295)) (xs (i + 4)) (xs (i + 5)) ((((xs (i + 6)).toInt64) <<< ((32 : Int32).toInt64 &&& 63)) ||| (((xs (i + 7)).toInt64) &&& 4294967295))).2) _ _ _ hX2 hM2 (op_head_inv hI) hP hS hl
  · exact absurd (w_295.trans w_356.symm) c_359
set_option maxHeartbeats 4000000 in
set_option maxRecDepth 100000 in
theorem law_sign : lw_case 364 := by
  intro p l e s m below meth c E b L xs hL C0 hE F A C S i H locs ls hX hM hI hi hP hS hl kk
  have hx := F.1
  have hb := F.2.1
  have hml := F.2.2.1
  have hown := F.2.2.2.1
  have hts := F.2.2.2.2.1
  obtain ⟨-, -, -, -, -, -, hsc, hbl, -, -⟩ := C0
  have hbA : ¬ wg_A E b := by show ¬ E.2.2.1 ≤ b; rw [hE]; exact Nat.not_le.mpr hbl
  have x0 : C 0 = some (.inr (7, [.ref (A 1), .int (nI (lc_ns (st_B S))), .ref (A 2), .ref (A 4), .ref (A 5), .ref (A 6), .ref (A 7), .ref (A 8), .ref (A 11)])) := hX.1
  have mo : C 1000 = some (.inr (8, [.int (nI (lc_ns (st_B S))), .ref (A 1001), .int (nI (lc_nh (st_B S))), .ref (A 1003), .ref (A 1004), .ref (A 1005), .ref (A 1006), .ref (A 1007), .ref (A 1008), .ref (A 1009), .ref (A 1010), .ref (A 1011), .ref (A 1012), .ref (A 1013), .ref (A 1014), .ref (A 1015), .ref (A 1016), .ref (A 1017), .ref (A 1018), .int (nI (st_pa S)), .int (nI (st_pb S)), .long (st_va S), .long (st_vb S), .int (nI (st_ct S)), .ref (A 1024), .ref (A 1025), .ref (A 1026), .ref (A 1027), .ref (A 1028)])) := hM.1
  refine lv_aload_n hx hb dL_law_364 rfl (lv_at hl 1 rfl) ?_
  refine lv_aload_n hx hb dL_law_365 rfl (lv_at hl 0 rfl) ?_
  refine lv_iload_n hx hb dL_law_366 rfl (lv_at hl 3 rfl) ?_
  refine lv_iconst (v := 1) hx hb dL_law_367 (by decide) ?_
  refine lv_iadd hx hb dL_law_368 ?_
  refine wg_topi (y := nI (i + 1)) (by rw [show (1 : Int32) = nI 1 from rfl, nI_add]) ?_
  refine va_sld hx hb hsc hbl hbA hS (vp_in_nI (n := i + 1) (by omega) (by omega)) dL_law_369 ?_
  refine wg_topi (y := xs (i + 1)) (by rw [nI_clamp (by omega)]) ?_
  refine lv_aload_n hx hb dL_law_370 rfl (lv_at hl 0 rfl) ?_
  refine lv_iload_n hx hb dL_law_371 rfl (lv_at hl 3 rfl) ?_
  refine lv_iconst (v := 2) hx hb dL_law_372 (by decide) ?_
  refine lv_iadd hx hb dL_law_373 ?_
  refine wg_topi (y := nI (i + 2)) (by rw [show (2 : Int32) = nI 2 from rfl, nI_add]) ?_
  refine va_sld hx hb hsc hbl hbA hS (vp_in_nI (n := i + 2) (by omega) (by omega)) dL_law_374 ?_
  refine wg_topi (y := xs (i + 2)) (by rw [nI_clamp (by omega)]) ?_
  refine wg_ci hS (wg_rV (As := [.int (xs (i + 1)), .int (xs (i + 2))]) (rest := []) F hP hS (c_X7_sign l E A C S (xs (i + 1)) (xs (i + 2)) hX hI) ok_X7_sign tb_287 rfl rfl ⟨Nat.le_of_ble_eq_true rfl, Nat.le_of_ble_eq_true rfl⟩ x0 rfl rfl rfl hl.1 rfl (Nat.le_of_ble_eq_true rfl) dL_law_375 ⟨by show _ ≤ 600000; omega, by show _ ≤ 7302250; omega⟩) (fun r_375 A1 C_375 H locs w_375 hP hS => ?_)
  obtain ⟨rfl, w_375, hX1, hk1⟩ := w_375
  have hM1 : lm E A C_375 S := lm_at hM hk1
  have mo1 : C_375 1000 = some (.inr (8, [.int (nI (lc_ns (st_B S))), .ref (A 1001), .int (nI (lc_nh (st_B S))), .ref (A 1003), .ref (A 1004), .ref (A 1005), .ref (A 1006), .ref (A 1007), .ref (A 1008), .ref (A 1009), .ref (A 1010), .ref (A 1011), .ref (A 1012), .ref (A 1013), .ref (A 1014), .ref (A 1015), .ref (A 1016), .ref (A 1017), .ref (A 1018), .int (nI (st_pa S)), .int (nI (st_pb S)), .long (st_va S), .long (st_vb S), .int (nI (st_ct S)), .ref (A 1024), .ref (A 1025), .ref (A 1026), .ref (A 1027), .ref (A 1028)])) := hM1.1
  refine lv_aload_n hx hb dL_law_378 rfl (lv_at hl 2 rfl) ?_
  refine lv_aload_n hx hb dL_law_379 rfl (lv_at hl 0 rfl) ?_
  refine lv_iload_n hx hb dL_law_380 rfl (lv_at hl 3 rfl) ?_
  refine lv_iconst (v := 1) hx hb dL_law_381 (by decide) ?_
  refine lv_iadd hx hb dL_law_382 ?_
  refine wg_topi (y := nI (i + 1)) (by rw [show (1 : Int32) = nI 1 from rfl, nI_add]) ?_
  refine va_sld hx hb hsc hbl hbA hS (vp_in_nI (n := i + 1) (by omega) (by omega)) dL_law_383 ?_
  refine wg_topi (y := xs (i + 1)) (by rw [nI_clamp (by omega)]) ?_
  refine lv_aload_n hx hb dL_law_384 rfl (lv_at hl 0 rfl) ?_
  refine lv_iload_n hx hb dL_law_385 rfl (lv_at hl 3 rfl) ?_
  refine lv_iconst (v := 2) hx hb dL_law_386 (by decide) ?_
  refine lv_iadd hx hb dL_law_387 ?_
  refine wg_topi (y := nI (i + 2)) (by rw [show (2 : Int32) = nI 2 from rfl, nI_add]) ?_
  refine va_sld hx hb hsc hbl hbA hS (vp_in_nI (n := i + 2) (by omega) (by omega)) dL_law_388 ?_
  refine wg_topi (y := xs (i + 2)) (by rw [nI_clamp (by omega)]) ?_
  refine wg_ci hS (wg_rV (As := [.int (xs (i + 1)), .int (xs (i + 2))]) (rest := [.int r_375]) F hP hS (c_X8_sign l E A C_375 S (xs (i + 1)) (xs (i + 2)) hM1 hI) ok_X8_sign tb_654 rfl rfl ⟨Nat.le_of_ble_eq_true rfl, Nat.le_of_ble_eq_true rfl⟩ mo1 rfl rfl rfl hl.1 rfl (Nat.le_of_ble_eq_true rfl) dL_law_389 ⟨by show _ ≤ 600000; omega, by show _ ≤ 7302250; omega⟩) (fun r_389 A1 C_389 H locs w_389 hP hS => ?_)
  obtain ⟨rfl, w_389, hM2, hk2⟩ := w_389
  have hX2 : lx E A C_389 ((op_sign S (xs (i + 1)) (xs (i + 2))).2) := lx_at hX1 hk2
  refine lv_icmp_eq (tgt := 1195) hx hb dL_law_392 (by decide) (fun c_392 => ?_) (fun c_392 => ?_)
  · refine W.widen (k := i + 8 + 100) (n := i + 8 + 3000) (by omega) (by omega) ?_
    exact kk A C_389 ((op_sign S (xs (i + 1)) (xs (i + 2))).2) _ _ _ hX2 hM2 (op_sign_inv hI) hP hS hl
  · exact absurd (w_375.trans w_389.symm) c_392
set_option maxHeartbeats 4000000 in
set_option maxRecDepth 100000 in
theorem law_term : lw_case 397 := by
  intro p l e s m below meth c E b L xs hL C0 hE F A C S i H locs ls hX hM hI hi hP hS hl kk
  have hx := F.1
  have hb := F.2.1
  have hml := F.2.2.1
  have hown := F.2.2.2.1
  have hts := F.2.2.2.2.1
  obtain ⟨-, -, -, -, -, -, hsc, hbl, -, -⟩ := C0
  have hbA : ¬ wg_A E b := by show ¬ E.2.2.1 ≤ b; rw [hE]; exact Nat.not_le.mpr hbl
  have x0 : C 0 = some (.inr (7, [.ref (A 1), .int (nI (lc_ns (st_B S))), .ref (A 2), .ref (A 4), .ref (A 5), .ref (A 6), .ref (A 7), .ref (A 8), .ref (A 11)])) := hX.1
  have mo : C 1000 = some (.inr (8, [.int (nI (lc_ns (st_B S))), .ref (A 1001), .int (nI (lc_nh (st_B S))), .ref (A 1003), .ref (A 1004), .ref (A 1005), .ref (A 1006), .ref (A 1007), .ref (A 1008), .ref (A 1009), .ref (A 1010), .ref (A 1011), .ref (A 1012), .ref (A 1013), .ref (A 1014), .ref (A 1015), .ref (A 1016), .ref (A 1017), .ref (A 1018), .int (nI (st_pa S)), .int (nI (st_pb S)), .long (st_va S), .long (st_vb S), .int (nI (st_ct S)), .ref (A 1024), .ref (A 1025), .ref (A 1026), .ref (A 1027), .ref (A 1028)])) := hM.1
  refine lv_aload_n hx hb dL_law_397 rfl (lv_at hl 1 rfl) ?_
  refine lv_aload_n hx hb dL_law_398 rfl (lv_at hl 0 rfl) ?_
  refine lv_iload_n hx hb dL_law_399 rfl (lv_at hl 3 rfl) ?_
  refine lv_iconst (v := 1) hx hb dL_law_400 (by decide) ?_
  refine lv_iadd hx hb dL_law_401 ?_
  refine wg_topi (y := nI (i + 1)) (by rw [show (1 : Int32) = nI 1 from rfl, nI_add]) ?_
  refine va_sld hx hb hsc hbl hbA hS (vp_in_nI (n := i + 1) (by omega) (by omega)) dL_law_402 ?_
  refine wg_topi (y := xs (i + 1)) (by rw [nI_clamp (by omega)]) ?_
  refine lv_aload_n hx hb dL_law_403 rfl (lv_at hl 0 rfl) ?_
  refine lv_iload_n hx hb dL_law_404 rfl (lv_at hl 3 rfl) ?_
  refine lv_iconst (v := 2) hx hb dL_law_405 (by decide) ?_
  refine lv_iadd hx hb dL_law_406 ?_
  refine wg_topi (y := nI (i + 2)) (by rw [show (2 : Int32) = nI 2 from rfl, nI_add]) ?_
  refine va_sld hx hb hsc hbl hbA hS (vp_in_nI (n := i + 2) (by omega) (by omega)) dL_law_407 ?_
  refine wg_topi (y := xs (i + 2)) (by rw [nI_clamp (by omega)]) ?_
  refine wg_ci hS (wg_rV (As := [.int (xs (i + 1)), .int (xs (i + 2))]) (rest := []) F hP hS (c_X7_term l E A C S (xs (i + 1)) (xs (i + 2)) hX hI) ok_X7_term tb_295 rfl rfl ⟨Nat.le_of_ble_eq_true rfl, Nat.le_of_ble_eq_true rfl⟩ x0 rfl rfl rfl hl.1 rfl (Nat.le_of_ble_eq_true rfl) dL_law_408 ⟨by show _ ≤ 600000; omega, by show _ ≤ 7302250; omega⟩) (fun r_408 A1 C_408 H locs w_408 hP hS => ?_)
  obtain ⟨rfl, w_408, hX1, hk1⟩ := w_408
  have hM1 : lm E A C_408 S := lm_at hM hk1
  have mo1 : C_408 1000 = some (.inr (8, [.int (nI (lc_ns (st_B S))), .ref (A 1001), .int (nI (lc_nh (st_B S))), .ref (A 1003), .ref (A 1004), .ref (A 1005), .ref (A 1006), .ref (A 1007), .ref (A 1008), .ref (A 1009), .ref (A 1010), .ref (A 1011), .ref (A 1012), .ref (A 1013), .ref (A 1014), .ref (A 1015), .ref (A 1016), .ref (A 1017), .ref (A 1018), .int (nI (st_pa S)), .int (nI (st_pb S)), .long (st_va S), .long (st_vb S), .int (nI (st_ct S)), .ref (A 1024), .ref (A 1025), .ref (A 1026), .ref (A 1027), .ref (A 1028)])) := hM1.1
  refine lv_aload_n hx hb dL_law_411 rfl (lv_at hl 2 rfl) ?_
  refine lv_aload_n hx hb dL_law_412 rfl (lv_at hl 0 rfl) ?_
  refine lv_iload_n hx hb dL_law_413 rfl (lv_at hl 3 rfl) ?_
  refine lv_iconst (v := 1) hx hb dL_law_414 (by decide) ?_
  refine lv_iadd hx hb dL_law_415 ?_
  refine wg_topi (y := nI (i + 1)) (by rw [show (1 : Int32) = nI 1 from rfl, nI_add]) ?_
  refine va_sld hx hb hsc hbl hbA hS (vp_in_nI (n := i + 1) (by omega) (by omega)) dL_law_416 ?_
  refine wg_topi (y := xs (i + 1)) (by rw [nI_clamp (by omega)]) ?_
  refine lv_aload_n hx hb dL_law_417 rfl (lv_at hl 0 rfl) ?_
  refine lv_iload_n hx hb dL_law_418 rfl (lv_at hl 3 rfl) ?_
  refine lv_iconst (v := 2) hx hb dL_law_419 (by decide) ?_
  refine lv_iadd hx hb dL_law_420 ?_
  refine wg_topi (y := nI (i + 2)) (by rw [show (2 : Int32) = nI 2 from rfl, nI_add]) ?_
  refine va_sld hx hb hsc hbl hbA hS (vp_in_nI (n := i + 2) (by omega) (by omega)) dL_law_421 ?_
  refine wg_topi (y := xs (i + 2)) (by rw [nI_clamp (by omega)]) ?_
  refine wg_ci hS (wg_rV (As := [.int (xs (i + 1)), .int (xs (i + 2))]) (rest := [.int r_408]) F hP hS (c_X8_term l E A C_408 S (xs (i + 1)) (xs (i + 2)) hM1 hI) ok_X8_term tb_663 rfl rfl ⟨Nat.le_of_ble_eq_true rfl, Nat.le_of_ble_eq_true rfl⟩ mo1 rfl rfl rfl hl.1 rfl (Nat.le_of_ble_eq_true rfl) dL_law_422 ⟨by show _ ≤ 600000; omega, by show _ ≤ 7302250; omega⟩) (fun r_422 A1 C_422 H locs w_422 hP hS => ?_)
  obtain ⟨rfl, w_422, hM2, hk2⟩ := w_422
  have hX2 : lx E A C_422 ((op_term S (xs (i + 1)) (xs (i + 2))).2) := lx_at hX1 hk2
  refine lv_icmp_eq (tgt := 1195) hx hb dL_law_425 (by decide) (fun c_425 => ?_) (fun c_425 => ?_)
  · refine W.widen (k := i + 8 + 100) (n := i + 8 + 3000) (by omega) (by omega) ?_
    exact kk A C_422 ((op_term S (xs (i + 1)) (xs (i + 2))).2) _ _ _ hX2 hM2 (op_term_inv hI) hP hS hl
  · exact absurd (w_408.trans w_422.symm) c_425
set_option maxHeartbeats 4000000 in
set_option maxRecDepth 100000 in
theorem law_digest : lw_case 430 := by
  intro p l e s m below meth c E b L xs hL C0 hE F A C S i H locs ls hX hM hI hi hP hS hl kk
  have hx := F.1
  have hb := F.2.1
  have hml := F.2.2.1
  have hown := F.2.2.2.1
  have hts := F.2.2.2.2.1
  obtain ⟨-, -, -, -, -, -, hsc, hbl, -, -⟩ := C0
  have hbA : ¬ wg_A E b := by show ¬ E.2.2.1 ≤ b; rw [hE]; exact Nat.not_le.mpr hbl
  have x0 : C 0 = some (.inr (7, [.ref (A 1), .int (nI (lc_ns (st_B S))), .ref (A 2), .ref (A 4), .ref (A 5), .ref (A 6), .ref (A 7), .ref (A 8), .ref (A 11)])) := hX.1
  have mo : C 1000 = some (.inr (8, [.int (nI (lc_ns (st_B S))), .ref (A 1001), .int (nI (lc_nh (st_B S))), .ref (A 1003), .ref (A 1004), .ref (A 1005), .ref (A 1006), .ref (A 1007), .ref (A 1008), .ref (A 1009), .ref (A 1010), .ref (A 1011), .ref (A 1012), .ref (A 1013), .ref (A 1014), .ref (A 1015), .ref (A 1016), .ref (A 1017), .ref (A 1018), .int (nI (st_pa S)), .int (nI (st_pb S)), .long (st_va S), .long (st_vb S), .int (nI (st_ct S)), .ref (A 1024), .ref (A 1025), .ref (A 1026), .ref (A 1027), .ref (A 1028)])) := hM.1
  refine lv_aload_n hx hb dL_law_430 rfl (lv_at hl 1 rfl) ?_
  refine lv_aload_n hx hb dL_law_431 rfl (lv_at hl 0 rfl) ?_
  refine lv_iload_n hx hb dL_law_432 rfl (lv_at hl 3 rfl) ?_
  refine lv_iconst (v := 1) hx hb dL_law_433 (by decide) ?_
  refine lv_iadd hx hb dL_law_434 ?_
  refine wg_topi (y := nI (i + 1)) (by rw [show (1 : Int32) = nI 1 from rfl, nI_add]) ?_
  refine va_sld hx hb hsc hbl hbA hS (vp_in_nI (n := i + 1) (by omega) (by omega)) dL_law_435 ?_
  refine wg_topi (y := xs (i + 1)) (by rw [nI_clamp (by omega)]) ?_
  refine wg_cl_ hS (wg_rV (As := [.int (xs (i + 1))]) (rest := []) F hP hS (c_X7_digest l E A C S (xs (i + 1)) hX hI) ok_X7_digest tb_303 rfl rfl ⟨Nat.le_of_ble_eq_true rfl, Nat.le_of_ble_eq_true rfl⟩ x0 rfl rfl rfl hl.1 rfl (Nat.le_of_ble_eq_true rfl) dL_law_436 ⟨by show _ ≤ 600000; omega, by show _ ≤ 7302250; omega⟩) (fun r_436 A1 C_436 H locs w_436 hP hS => ?_)
  obtain ⟨w_436, rfl, rfl⟩ := w_436
  refine lv_aload_n hx hb dL_law_439 rfl (lv_at hl 2 rfl) ?_
  refine lv_aload_n hx hb dL_law_440 rfl (lv_at hl 0 rfl) ?_
  refine lv_iload_n hx hb dL_law_441 rfl (lv_at hl 3 rfl) ?_
  refine lv_iconst (v := 1) hx hb dL_law_442 (by decide) ?_
  refine lv_iadd hx hb dL_law_443 ?_
  refine wg_topi (y := nI (i + 1)) (by rw [show (1 : Int32) = nI 1 from rfl, nI_add]) ?_
  refine va_sld hx hb hsc hbl hbA hS (vp_in_nI (n := i + 1) (by omega) (by omega)) dL_law_444 ?_
  refine wg_topi (y := xs (i + 1)) (by rw [nI_clamp (by omega)]) ?_
  refine wg_cl_ hS (wg_rV (As := [.int (xs (i + 1))]) (rest := [.long r_436]) F hP hS (c_X8_digest l E A C S (xs (i + 1)) hM hI) ok_X8_digest tb_670 rfl rfl ⟨Nat.le_of_ble_eq_true rfl, Nat.le_of_ble_eq_true rfl⟩ mo rfl rfl rfl hl.1 rfl (Nat.le_of_ble_eq_true rfl) dL_law_445 ⟨by show _ ≤ 600000; omega, by show _ ≤ 7302250; omega⟩) (fun r_445 A1 C_445 H locs w_445 hP hS => ?_)
  obtain ⟨w_445, rfl, rfl⟩ := w_445
  refine W.lcmp hx hb dL_law_448 ?_
  refine lv_if_eq (tgt := 1195) hx hb dL_law_449 (by decide) (fun c_449 => ?_) (fun c_449 => ?_)
  · refine W.widen (k := i + 8 + 100) (n := i + 8 + 3000) (by omega) (by omega) ?_
    exact kk A C S _ _ _ hX hM hI hP hS hl
  · exact absurd ((lg_cmp_eq _ _).mpr (w_436.trans w_445.symm)) c_449
set_option maxHeartbeats 4000000 in
set_option maxRecDepth 100000 in
theorem law_certified : lw_case 454 := by
  intro p l e s m below meth c E b L xs hL C0 hE F A C S i H locs ls hX hM hI hi hP hS hl kk
  have hx := F.1
  have hb := F.2.1
  have hml := F.2.2.1
  have hown := F.2.2.2.1
  have hts := F.2.2.2.2.1
  obtain ⟨-, -, -, -, -, -, hsc, hbl, -, -⟩ := C0
  have hbA : ¬ wg_A E b := by show ¬ E.2.2.1 ≤ b; rw [hE]; exact Nat.not_le.mpr hbl
  have x0 : C 0 = some (.inr (7, [.ref (A 1), .int (nI (lc_ns (st_B S))), .ref (A 2), .ref (A 4), .ref (A 5), .ref (A 6), .ref (A 7), .ref (A 8), .ref (A 11)])) := hX.1
  have mo : C 1000 = some (.inr (8, [.int (nI (lc_ns (st_B S))), .ref (A 1001), .int (nI (lc_nh (st_B S))), .ref (A 1003), .ref (A 1004), .ref (A 1005), .ref (A 1006), .ref (A 1007), .ref (A 1008), .ref (A 1009), .ref (A 1010), .ref (A 1011), .ref (A 1012), .ref (A 1013), .ref (A 1014), .ref (A 1015), .ref (A 1016), .ref (A 1017), .ref (A 1018), .int (nI (st_pa S)), .int (nI (st_pb S)), .long (st_va S), .long (st_vb S), .int (nI (st_ct S)), .ref (A 1024), .ref (A 1025), .ref (A 1026), .ref (A 1027), .ref (A 1028)])) := hM.1
  refine lv_aload_n hx hb dL_law_454 rfl (lv_at hl 1 rfl) ?_
  refine lv_aload_n hx hb dL_law_455 rfl (lv_at hl 0 rfl) ?_
  refine lv_iload_n hx hb dL_law_456 rfl (lv_at hl 3 rfl) ?_
  refine lv_iconst (v := 1) hx hb dL_law_457 (by decide) ?_
  refine lv_iadd hx hb dL_law_458 ?_
  refine wg_topi (y := nI (i + 1)) (by rw [show (1 : Int32) = nI 1 from rfl, nI_add]) ?_
  refine va_sld hx hb hsc hbl hbA hS (vp_in_nI (n := i + 1) (by omega) (by omega)) dL_law_459 ?_
  refine wg_topi (y := xs (i + 1)) (by rw [nI_clamp (by omega)]) ?_
  refine wg_ci hS (wg_rV (As := [.int (xs (i + 1))]) (rest := []) F hP hS (c_X7_certified l E A C S (xs (i + 1)) hX hI) ok_X7_certified tb_307 rfl rfl ⟨Nat.le_of_ble_eq_true rfl, Nat.le_of_ble_eq_true rfl⟩ x0 rfl rfl rfl hl.1 rfl (Nat.le_of_ble_eq_true rfl) dL_law_460 ⟨by show _ ≤ 600000; omega, by show _ ≤ 7302250; omega⟩) (fun r_460 A1 C_460 H locs w_460 hP hS => ?_)
  obtain ⟨w_460, rfl, rfl⟩ := w_460
  refine lv_aload_n hx hb dL_law_463 rfl (lv_at hl 2 rfl) ?_
  refine lv_aload_n hx hb dL_law_464 rfl (lv_at hl 0 rfl) ?_
  refine lv_iload_n hx hb dL_law_465 rfl (lv_at hl 3 rfl) ?_
  refine lv_iconst (v := 1) hx hb dL_law_466 (by decide) ?_
  refine lv_iadd hx hb dL_law_467 ?_
  refine wg_topi (y := nI (i + 1)) (by rw [show (1 : Int32) = nI 1 from rfl, nI_add]) ?_
  refine va_sld hx hb hsc hbl hbA hS (vp_in_nI (n := i + 1) (by omega) (by omega)) dL_law_468 ?_
  refine wg_topi (y := xs (i + 1)) (by rw [nI_clamp (by omega)]) ?_
  refine wg_ci hS (wg_rV (As := [.int (xs (i + 1))]) (rest := [.int r_460]) F hP hS (c_X8_certified l E A C S (xs (i + 1)) hM hI) ok_X8_certified tb_678 rfl rfl ⟨Nat.le_of_ble_eq_true rfl, Nat.le_of_ble_eq_true rfl⟩ mo rfl rfl rfl hl.1 rfl (Nat.le_of_ble_eq_true rfl) dL_law_469 ⟨by show _ ≤ 600000; omega, by show _ ≤ 7302250; omega⟩) (fun r_469 A1 C_469 H locs w_469 hP hS => ?_)
  obtain ⟨w_469, rfl, rfl⟩ := w_469
  refine lv_icmp_eq (tgt := 1195) hx hb dL_law_472 (by decide) (fun c_472 => ?_) (fun c_472 => ?_)
  · refine W.widen (k := i + 8 + 100) (n := i + 8 + 3000) (by omega) (by omega) ?_
    exact kk A C S _ _ _ hX hM hI hP hS hl
  · exact absurd (w_460.trans w_469.symm) c_472
set_option maxHeartbeats 4000000 in
set_option maxRecDepth 100000 in
theorem law_overlaps : lw_case 477 := by
  intro p l e s m below meth c E b L xs hL C0 hE F A C S i H locs ls hX hM hI hi hP hS hl kk
  have hx := F.1
  have hb := F.2.1
  have hml := F.2.2.1
  have hown := F.2.2.2.1
  have hts := F.2.2.2.2.1
  obtain ⟨-, -, -, -, -, -, hsc, hbl, -, -⟩ := C0
  have hbA : ¬ wg_A E b := by show ¬ E.2.2.1 ≤ b; rw [hE]; exact Nat.not_le.mpr hbl
  have x0 : C 0 = some (.inr (7, [.ref (A 1), .int (nI (lc_ns (st_B S))), .ref (A 2), .ref (A 4), .ref (A 5), .ref (A 6), .ref (A 7), .ref (A 8), .ref (A 11)])) := hX.1
  have mo : C 1000 = some (.inr (8, [.int (nI (lc_ns (st_B S))), .ref (A 1001), .int (nI (lc_nh (st_B S))), .ref (A 1003), .ref (A 1004), .ref (A 1005), .ref (A 1006), .ref (A 1007), .ref (A 1008), .ref (A 1009), .ref (A 1010), .ref (A 1011), .ref (A 1012), .ref (A 1013), .ref (A 1014), .ref (A 1015), .ref (A 1016), .ref (A 1017), .ref (A 1018), .int (nI (st_pa S)), .int (nI (st_pb S)), .long (st_va S), .long (st_vb S), .int (nI (st_ct S)), .ref (A 1024), .ref (A 1025), .ref (A 1026), .ref (A 1027), .ref (A 1028)])) := hM.1
  refine lv_aload_n hx hb dL_law_477 rfl (lv_at hl 1 rfl) ?_
  refine lv_aload_n hx hb dL_law_478 rfl (lv_at hl 0 rfl) ?_
  refine lv_iload_n hx hb dL_law_479 rfl (lv_at hl 3 rfl) ?_
  refine lv_iconst (v := 1) hx hb dL_law_480 (by decide) ?_
  refine lv_iadd hx hb dL_law_481 ?_
  refine wg_topi (y := nI (i + 1)) (by rw [show (1 : Int32) = nI 1 from rfl, nI_add]) ?_
  refine va_sld hx hb hsc hbl hbA hS (vp_in_nI (n := i + 1) (by omega) (by omega)) dL_law_482 ?_
  refine wg_topi (y := xs (i + 1)) (by rw [nI_clamp (by omega)]) ?_
  refine lv_aload_n hx hb dL_law_483 rfl (lv_at hl 0 rfl) ?_
  refine lv_iload_n hx hb dL_law_484 rfl (lv_at hl 3 rfl) ?_
  refine lv_iconst (v := 2) hx hb dL_law_485 (by decide) ?_
  refine lv_iadd hx hb dL_law_486 ?_
  refine wg_topi (y := nI (i + 2)) (by rw [show (2 : Int32) = nI 2 from rfl, nI_add]) ?_
  refine va_sld hx hb hsc hbl hbA hS (vp_in_nI (n := i + 2) (by omega) (by omega)) dL_law_487 ?_
  refine wg_topi (y := xs (i + 2)) (by rw [nI_clamp (by omega)]) ?_
  refine wg_ci hS (wg_rV (As := [.int (xs (i + 1)), .int (xs (i + 2))]) (rest := []) F hP hS (c_X7_overlaps l E A C S (xs (i + 1)) (xs (i + 2)) hX hI) ok_X7_overlaps tb_318 rfl rfl ⟨Nat.le_of_ble_eq_true rfl, Nat.le_of_ble_eq_true rfl⟩ x0 rfl rfl rfl hl.1 rfl (Nat.le_of_ble_eq_true rfl) dL_law_488 ⟨by show _ ≤ 600000; omega, by show _ ≤ 7302250; omega⟩) (fun r_488 A1 C_488 H locs w_488 hP hS => ?_)
  obtain ⟨w_488, rfl, rfl⟩ := w_488
  refine lv_aload_n hx hb dL_law_491 rfl (lv_at hl 2 rfl) ?_
  refine lv_aload_n hx hb dL_law_492 rfl (lv_at hl 0 rfl) ?_
  refine lv_iload_n hx hb dL_law_493 rfl (lv_at hl 3 rfl) ?_
  refine lv_iconst (v := 1) hx hb dL_law_494 (by decide) ?_
  refine lv_iadd hx hb dL_law_495 ?_
  refine wg_topi (y := nI (i + 1)) (by rw [show (1 : Int32) = nI 1 from rfl, nI_add]) ?_
  refine va_sld hx hb hsc hbl hbA hS (vp_in_nI (n := i + 1) (by omega) (by omega)) dL_law_496 ?_
  refine wg_topi (y := xs (i + 1)) (by rw [nI_clamp (by omega)]) ?_
  refine lv_aload_n hx hb dL_law_497 rfl (lv_at hl 0 rfl) ?_
  refine lv_iload_n hx hb dL_law_498 rfl (lv_at hl 3 rfl) ?_
  refine lv_iconst (v := 2) hx hb dL_law_499 (by decide) ?_
  refine lv_iadd hx hb dL_law_500 ?_
  refine wg_topi (y := nI (i + 2)) (by rw [show (2 : Int32) = nI 2 from rfl, nI_add]) ?_
  refine va_sld hx hb hsc hbl hbA hS (vp_in_nI (n := i + 2) (by omega) (by omega)) dL_law_501 ?_
  refine wg_topi (y := xs (i + 2)) (by rw [nI_clamp (by omega)]) ?_
  refine wg_ci hS (wg_rV (As := [.int (xs (i + 1)), .int (xs (i + 2))]) (rest := [.int r_488]) F hP hS (c_X8_overlaps l E A C S (xs (i + 1)) (xs (i + 2)) hM hI) ok_X8_overlaps tb_690 rfl rfl ⟨Nat.le_of_ble_eq_true rfl, Nat.le_of_ble_eq_true rfl⟩ mo rfl rfl rfl hl.1 rfl (Nat.le_of_ble_eq_true rfl) dL_law_502 ⟨by show _ ≤ 600000; omega, by show _ ≤ 7302250; omega⟩) (fun r_502 A1 C_502 H locs w_502 hP hS => ?_)
  obtain ⟨w_502, rfl, rfl⟩ := w_502
  refine lv_icmp_eq (tgt := 1195) hx hb dL_law_505 (by decide) (fun c_505 => ?_) (fun c_505 => ?_)
  · refine W.widen (k := i + 8 + 100) (n := i + 8 + 3000) (by omega) (by omega) ?_
    exact kk A C S _ _ _ hX hM hI hP hS hl
  · exact absurd (w_488.trans w_502.symm) c_505
set_option maxHeartbeats 4000000 in
set_option maxRecDepth 100000 in
theorem law_start : lw_case 510 := by
  intro p l e s m below meth c E b L xs hL C0 hE F A C S i H locs ls hX hM hI hi hP hS hl kk
  have hx := F.1
  have hb := F.2.1
  have hml := F.2.2.1
  have hown := F.2.2.2.1
  have hts := F.2.2.2.2.1
  obtain ⟨-, -, -, -, -, -, hsc, hbl, -, -⟩ := C0
  have hbA : ¬ wg_A E b := by show ¬ E.2.2.1 ≤ b; rw [hE]; exact Nat.not_le.mpr hbl
  have x0 : C 0 = some (.inr (7, [.ref (A 1), .int (nI (lc_ns (st_B S))), .ref (A 2), .ref (A 4), .ref (A 5), .ref (A 6), .ref (A 7), .ref (A 8), .ref (A 11)])) := hX.1
  have mo : C 1000 = some (.inr (8, [.int (nI (lc_ns (st_B S))), .ref (A 1001), .int (nI (lc_nh (st_B S))), .ref (A 1003), .ref (A 1004), .ref (A 1005), .ref (A 1006), .ref (A 1007), .ref (A 1008), .ref (A 1009), .ref (A 1010), .ref (A 1011), .ref (A 1012), .ref (A 1013), .ref (A 1014), .ref (A 1015), .ref (A 1016), .ref (A 1017), .ref (A 1018), .int (nI (st_pa S)), .int (nI (st_pb S)), .long (st_va S), .long (st_vb S), .int (nI (st_ct S)), .ref (A 1024), .ref (A 1025), .ref (A 1026), .ref (A 1027), .ref (A 1028)])) := hM.1
  refine lv_aload_n hx hb dL_law_510 rfl (lv_at hl 1 rfl) ?_
  refine lv_aload_n hx hb dL_law_511 rfl (lv_at hl 0 rfl) ?_
  refine lv_iload_n hx hb dL_law_512 rfl (lv_at hl 3 rfl) ?_
  refine lv_iconst (v := 1) hx hb dL_law_513 (by decide) ?_
  refine lv_iadd hx hb dL_law_514 ?_
  refine wg_topi (y := nI (i + 1)) (by rw [show (1 : Int32) = nI 1 from rfl, nI_add]) ?_
  refine va_sld hx hb hsc hbl hbA hS (vp_in_nI (n := i + 1) (by omega) (by omega)) dL_law_515 ?_
  refine wg_topi (y := xs (i + 1)) (by rw [nI_clamp (by omega)]) ?_
  refine lv_aload_n hx hb dL_law_516 rfl (lv_at hl 0 rfl) ?_
  refine lv_iload_n hx hb dL_law_517 rfl (lv_at hl 3 rfl) ?_
  refine lv_iconst (v := 2) hx hb dL_law_518 (by decide) ?_
  refine lv_iadd hx hb dL_law_519 ?_
  refine wg_topi (y := nI (i + 2)) (by rw [show (2 : Int32) = nI 2 from rfl, nI_add]) ?_
  refine va_sld hx hb hsc hbl hbA hS (vp_in_nI (n := i + 2) (by omega) (by omega)) dL_law_520 ?_
  refine wg_topi (y := xs (i + 2)) (by rw [nI_clamp (by omega)]) ?_
  refine wg_ci hS (wg_rV (As := [.int (xs (i + 1)), .int (xs (i + 2))]) (rest := []) F hP hS (c_X7_start l E A C S (xs (i + 1)) (xs (i + 2)) hX hI) ok_X7_start tb_326 rfl rfl ⟨Nat.le_of_ble_eq_true rfl, Nat.le_of_ble_eq_true rfl⟩ x0 rfl rfl rfl hl.1 rfl (Nat.le_of_ble_eq_true rfl) dL_law_521 ⟨by show _ ≤ 600000; omega, by show _ ≤ 7302250; omega⟩) (fun r_521 A1 C_521 H locs w_521 hP hS => ?_)
  obtain ⟨rfl, w_521, hX1, hk1⟩ := w_521
  have hM1 : lm E A C_521 S := lm_at hM hk1
  have mo1 : C_521 1000 = some (.inr (8, [.int (nI (lc_ns (st_B S))), .ref (A 1001), .int (nI (lc_nh (st_B S))), .ref (A 1003), .ref (A 1004), .ref (A 1005), .ref (A 1006), .ref (A 1007), .ref (A 1008), .ref (A 1009), .ref (A 1010), .ref (A 1011), .ref (A 1012), .ref (A 1013), .ref (A 1014), .ref (A 1015), .ref (A 1016), .ref (A 1017), .ref (A 1018), .int (nI (st_pa S)), .int (nI (st_pb S)), .long (st_va S), .long (st_vb S), .int (nI (st_ct S)), .ref (A 1024), .ref (A 1025), .ref (A 1026), .ref (A 1027), .ref (A 1028)])) := hM1.1
  refine lv_aload_n hx hb dL_law_524 rfl (lv_at hl 2 rfl) ?_
  refine lv_aload_n hx hb dL_law_525 rfl (lv_at hl 0 rfl) ?_
  refine lv_iload_n hx hb dL_law_526 rfl (lv_at hl 3 rfl) ?_
  refine lv_iconst (v := 1) hx hb dL_law_527 (by decide) ?_
  refine lv_iadd hx hb dL_law_528 ?_
  refine wg_topi (y := nI (i + 1)) (by rw [show (1 : Int32) = nI 1 from rfl, nI_add]) ?_
  refine va_sld hx hb hsc hbl hbA hS (vp_in_nI (n := i + 1) (by omega) (by omega)) dL_law_529 ?_
  refine wg_topi (y := xs (i + 1)) (by rw [nI_clamp (by omega)]) ?_
  refine lv_aload_n hx hb dL_law_530 rfl (lv_at hl 0 rfl) ?_
  refine lv_iload_n hx hb dL_law_531 rfl (lv_at hl 3 rfl) ?_
  refine lv_iconst (v := 2) hx hb dL_law_532 (by decide) ?_
  refine lv_iadd hx hb dL_law_533 ?_
  refine wg_topi (y := nI (i + 2)) (by rw [show (2 : Int32) = nI 2 from rfl, nI_add]) ?_
  refine va_sld hx hb hsc hbl hbA hS (vp_in_nI (n := i + 2) (by omega) (by omega)) dL_law_534 ?_
  refine wg_topi (y := xs (i + 2)) (by rw [nI_clamp (by omega)]) ?_
  refine wg_ci hS (wg_rV (As := [.int (xs (i + 1)), .int (xs (i + 2))]) (rest := [.int r_521]) F hP hS (c_X8_start l E A C_521 S (xs (i + 1)) (xs (i + 2)) hM1 hI) ok_X8_start tb_698 rfl rfl ⟨Nat.le_of_ble_eq_true rfl, Nat.le_of_ble_eq_true rfl⟩ mo1 rfl rfl rfl hl.1 rfl (Nat.le_of_ble_eq_true rfl) dL_law_535 ⟨by show _ ≤ 600000; omega, by show _ ≤ 7302250; omega⟩) (fun r_535 A1 C_535 H locs w_535 hP hS => ?_)
  obtain ⟨rfl, w_535, hM2, hk2⟩ := w_535
  have hX2 : lx E A C_535 ((op_start S (xs (i + 1)) (xs (i + 2))).2) := lx_at hX1 hk2
  refine lv_icmp_eq (tgt := 1195) hx hb dL_law_538 (by decide) (fun c_538 => ?_) (fun c_538 => ?_)
  · refine W.widen (k := i + 8 + 100) (n := i + 8 + 3000) (by omega) (by omega) ?_
    exact kk A C_535 ((op_start S (xs (i + 1)) (xs (i + 2))).2) _ _ _ hX2 hM2 (op_start_inv hI) hP hS hl
  · exact absurd (w_521.trans w_535.symm) c_538
set_option maxHeartbeats 4000000 in
set_option maxRecDepth 100000 in
theorem law_follow : lw_case 543 := by
  intro p l e s m below meth c E b L xs hL C0 hE F A C S i H locs ls hX hM hI hi hP hS hl kk
  have hx := F.1
  have hb := F.2.1
  have hml := F.2.2.1
  have hown := F.2.2.2.1
  have hts := F.2.2.2.2.1
  obtain ⟨-, -, -, -, -, -, hsc, hbl, -, -⟩ := C0
  have hbA : ¬ wg_A E b := by show ¬ E.2.2.1 ≤ b; rw [hE]; exact Nat.not_le.mpr hbl
  have x0 : C 0 = some (.inr (7, [.ref (A 1), .int (nI (lc_ns (st_B S))), .ref (A 2), .ref (A 4), .ref (A 5), .ref (A 6), .ref (A 7), .ref (A 8), .ref (A 11)])) := hX.1
  have mo : C 1000 = some (.inr (8, [.int (nI (lc_ns (st_B S))), .ref (A 1001), .int (nI (lc_nh (st_B S))), .ref (A 1003), .ref (A 1004), .ref (A 1005), .ref (A 1006), .ref (A 1007), .ref (A 1008), .ref (A 1009), .ref (A 1010), .ref (A 1011), .ref (A 1012), .ref (A 1013), .ref (A 1014), .ref (A 1015), .ref (A 1016), .ref (A 1017), .ref (A 1018), .int (nI (st_pa S)), .int (nI (st_pb S)), .long (st_va S), .long (st_vb S), .int (nI (st_ct S)), .ref (A 1024), .ref (A 1025), .ref (A 1026), .ref (A 1027), .ref (A 1028)])) := hM.1
  refine lv_aload_n hx hb dL_law_543 rfl (lv_at hl 1 rfl) ?_
  refine lv_aload_n hx hb dL_law_544 rfl (lv_at hl 0 rfl) ?_
  refine lv_iload_n hx hb dL_law_545 rfl (lv_at hl 3 rfl) ?_
  refine lv_iconst (v := 1) hx hb dL_law_546 (by decide) ?_
  refine lv_iadd hx hb dL_law_547 ?_
  refine wg_topi (y := nI (i + 1)) (by rw [show (1 : Int32) = nI 1 from rfl, nI_add]) ?_
  refine va_sld hx hb hsc hbl hbA hS (vp_in_nI (n := i + 1) (by omega) (by omega)) dL_law_548 ?_
  refine wg_topi (y := xs (i + 1)) (by rw [nI_clamp (by omega)]) ?_
  refine lv_aload_n hx hb dL_law_549 rfl (lv_at hl 0 rfl) ?_
  refine lv_iload_n hx hb dL_law_550 rfl (lv_at hl 3 rfl) ?_
  refine lv_iconst (v := 2) hx hb dL_law_551 (by decide) ?_
  refine lv_iadd hx hb dL_law_552 ?_
  refine wg_topi (y := nI (i + 2)) (by rw [show (2 : Int32) = nI 2 from rfl, nI_add]) ?_
  refine va_sld hx hb hsc hbl hbA hS (vp_in_nI (n := i + 2) (by omega) (by omega)) dL_law_553 ?_
  refine wg_topi (y := xs (i + 2)) (by rw [nI_clamp (by omega)]) ?_
  refine wg_ci hS (wg_rV (As := [.int (xs (i + 1)), .int (xs (i + 2))]) (rest := []) F hP hS (c_X7_follow l E A C S (xs (i + 1)) (xs (i + 2)) hX hI) ok_X7_follow tb_346 rfl rfl ⟨Nat.le_of_ble_eq_true rfl, Nat.le_of_ble_eq_true rfl⟩ x0 rfl rfl rfl hl.1 rfl (Nat.le_of_ble_eq_true rfl) dL_law_554 ⟨by show _ ≤ 600000; omega, by show _ ≤ 7302250; omega⟩) (fun r_554 A1 C_554 H locs w_554 hP hS => ?_)
  obtain ⟨rfl, w_554, hX1, hk1⟩ := w_554
  have hM1 : lm E A C_554 S := lm_at hM hk1
  have mo1 : C_554 1000 = some (.inr (8, [.int (nI (lc_ns (st_B S))), .ref (A 1001), .int (nI (lc_nh (st_B S))), .ref (A 1003), .ref (A 1004), .ref (A 1005), .ref (A 1006), .ref (A 1007), .ref (A 1008), .ref (A 1009), .ref (A 1010), .ref (A 1011), .ref (A 1012), .ref (A 1013), .ref (A 1014), .ref (A 1015), .ref (A 1016), .ref (A 1017), .ref (A 1018), .int (nI (st_pa S)), .int (nI (st_pb S)), .long (st_va S), .long (st_vb S), .int (nI (st_ct S)), .ref (A 1024), .ref (A 1025), .ref (A 1026), .ref (A 1027), .ref (A 1028)])) := hM1.1
  refine lv_aload_n hx hb dL_law_557 rfl (lv_at hl 2 rfl) ?_
  refine lv_aload_n hx hb dL_law_558 rfl (lv_at hl 0 rfl) ?_
  refine lv_iload_n hx hb dL_law_559 rfl (lv_at hl 3 rfl) ?_
  refine lv_iconst (v := 1) hx hb dL_law_560 (by decide) ?_
  refine lv_iadd hx hb dL_law_561 ?_
  refine wg_topi (y := nI (i + 1)) (by rw [show (1 : Int32) = nI 1 from rfl, nI_add]) ?_
  refine va_sld hx hb hsc hbl hbA hS (vp_in_nI (n := i + 1) (by omega) (by omega)) dL_law_562 ?_
  refine wg_topi (y := xs (i + 1)) (by rw [nI_clamp (by omega)]) ?_
  refine lv_aload_n hx hb dL_law_563 rfl (lv_at hl 0 rfl) ?_
  refine lv_iload_n hx hb dL_law_564 rfl (lv_at hl 3 rfl) ?_
  refine lv_iconst (v := 2) hx hb dL_law_565 (by decide) ?_
  refine lv_iadd hx hb dL_law_566 ?_
  refine wg_topi (y := nI (i + 2)) (by rw [show (2 : Int32) = nI 2 from rfl, nI_add]) ?_
  refine va_sld hx hb hsc hbl hbA hS (vp_in_nI (n := i + 2) (by omega) (by omega)) dL_law_567 ?_
  refine wg_topi (y := xs (i + 2)) (by rw [nI_clamp (by omega)]) ?_
  refine wg_ci hS (wg_rV (As := [.int (xs (i + 1)), .int (xs (i + 2))]) (rest := [.int r_554]) F hP hS (c_X8_follow l E A C_554 S (xs (i + 1)) (xs (i + 2)) hM1 hI) ok_X8_follow tb_705 rfl rfl ⟨Nat.le_of_ble_eq_true rfl, Nat.le_of_ble_eq_true rfl⟩ mo1 rfl rfl rfl hl.1 rfl (Nat.le_of_ble_eq_true rfl) dL_law_568 ⟨by show _ ≤ 600000; omega, by show _ ≤ 7302250; omega⟩) (fun r_568 A1 C_568 H locs w_568 hP hS => ?_)
  obtain ⟨rfl, w_568, hM2, hk2⟩ := w_568
  have hX2 : lx E A C_568 ((op_follow S (xs (i + 1)) (xs (i + 2))).2) := lx_at hX1 hk2
  refine lv_icmp_eq (tgt := 1195) hx hb dL_law_571 (by decide) (fun c_571 => ?_) (fun c_571 => ?_)
  · refine W.widen (k := i + 8 + 100) (n := i + 8 + 3000) (by omega) (by omega) ?_
    exact kk A C_568 ((op_follow S (xs (i + 1)) (xs (i + 2))).2) _ _ _ hX2 hM2 (op_follow_inv hI) hP hS hl
  · exact absurd (w_554.trans w_568.symm) c_571
set_option maxHeartbeats 4000000 in
set_option maxRecDepth 100000 in
theorem law_give : lw_case 576 := by
  intro p l e s m below meth c E b L xs hL C0 hE F A C S i H locs ls hX hM hI hi hP hS hl kk
  have hx := F.1
  have hb := F.2.1
  have hml := F.2.2.1
  have hown := F.2.2.2.1
  have hts := F.2.2.2.2.1
  obtain ⟨-, -, -, -, -, -, hsc, hbl, -, -⟩ := C0
  have hbA : ¬ wg_A E b := by show ¬ E.2.2.1 ≤ b; rw [hE]; exact Nat.not_le.mpr hbl
  have x0 : C 0 = some (.inr (7, [.ref (A 1), .int (nI (lc_ns (st_B S))), .ref (A 2), .ref (A 4), .ref (A 5), .ref (A 6), .ref (A 7), .ref (A 8), .ref (A 11)])) := hX.1
  have mo : C 1000 = some (.inr (8, [.int (nI (lc_ns (st_B S))), .ref (A 1001), .int (nI (lc_nh (st_B S))), .ref (A 1003), .ref (A 1004), .ref (A 1005), .ref (A 1006), .ref (A 1007), .ref (A 1008), .ref (A 1009), .ref (A 1010), .ref (A 1011), .ref (A 1012), .ref (A 1013), .ref (A 1014), .ref (A 1015), .ref (A 1016), .ref (A 1017), .ref (A 1018), .int (nI (st_pa S)), .int (nI (st_pb S)), .long (st_va S), .long (st_vb S), .int (nI (st_ct S)), .ref (A 1024), .ref (A 1025), .ref (A 1026), .ref (A 1027), .ref (A 1028)])) := hM.1
  refine lv_aload_n hx hb dL_law_576 rfl (lv_at hl 1 rfl) ?_
  refine lv_aload_n hx hb dL_law_577 rfl (lv_at hl 0 rfl) ?_
  refine lv_iload_n hx hb dL_law_578 rfl (lv_at hl 3 rfl) ?_
  refine lv_iconst (v := 1) hx hb dL_law_579 (by decide) ?_
  refine lv_iadd hx hb dL_law_580 ?_
  refine wg_topi (y := nI (i + 1)) (by rw [show (1 : Int32) = nI 1 from rfl, nI_add]) ?_
  refine va_sld hx hb hsc hbl hbA hS (vp_in_nI (n := i + 1) (by omega) (by omega)) dL_law_581 ?_
  refine wg_topi (y := xs (i + 1)) (by rw [nI_clamp (by omega)]) ?_
  refine lv_aload_n hx hb dL_law_582 rfl (lv_at hl 0 rfl) ?_
  refine lv_iload_n hx hb dL_law_583 rfl (lv_at hl 3 rfl) ?_
  refine lv_iconst (v := 2) hx hb dL_law_584 (by decide) ?_
  refine lv_iadd hx hb dL_law_585 ?_
  refine wg_topi (y := nI (i + 2)) (by rw [show (2 : Int32) = nI 2 from rfl, nI_add]) ?_
  refine va_sld hx hb hsc hbl hbA hS (vp_in_nI (n := i + 2) (by omega) (by omega)) dL_law_586 ?_
  refine wg_topi (y := xs (i + 2)) (by rw [nI_clamp (by omega)]) ?_
  refine wg_ci hS (wg_rV (As := [.int (xs (i + 1)), .int (xs (i + 2))]) (rest := []) F hP hS (c_X7_give l E A C S (xs (i + 1)) (xs (i + 2)) hX hI) ok_X7_give tb_379 rfl rfl ⟨Nat.le_of_ble_eq_true rfl, Nat.le_of_ble_eq_true rfl⟩ x0 rfl rfl rfl hl.1 rfl (Nat.le_of_ble_eq_true rfl) dL_law_587 ⟨by show _ ≤ 600000; omega, by show _ ≤ 7302250; omega⟩) (fun r_587 A1 C_587 H locs w_587 hP hS => ?_)
  obtain ⟨rfl, w_587, hX1, hk1⟩ := w_587
  have hM1 : lm E A C_587 S := lm_at hM hk1
  have mo1 : C_587 1000 = some (.inr (8, [.int (nI (lc_ns (st_B S))), .ref (A 1001), .int (nI (lc_nh (st_B S))), .ref (A 1003), .ref (A 1004), .ref (A 1005), .ref (A 1006), .ref (A 1007), .ref (A 1008), .ref (A 1009), .ref (A 1010), .ref (A 1011), .ref (A 1012), .ref (A 1013), .ref (A 1014), .ref (A 1015), .ref (A 1016), .ref (A 1017), .ref (A 1018), .int (nI (st_pa S)), .int (nI (st_pb S)), .long (st_va S), .long (st_vb S), .int (nI (st_ct S)), .ref (A 1024), .ref (A 1025), .ref (A 1026), .ref (A 1027), .ref (A 1028)])) := hM1.1
  refine lv_aload_n hx hb dL_law_590 rfl (lv_at hl 2 rfl) ?_
  refine lv_aload_n hx hb dL_law_591 rfl (lv_at hl 0 rfl) ?_
  refine lv_iload_n hx hb dL_law_592 rfl (lv_at hl 3 rfl) ?_
  refine lv_iconst (v := 1) hx hb dL_law_593 (by decide) ?_
  refine lv_iadd hx hb dL_law_594 ?_
  refine wg_topi (y := nI (i + 1)) (by rw [show (1 : Int32) = nI 1 from rfl, nI_add]) ?_
  refine va_sld hx hb hsc hbl hbA hS (vp_in_nI (n := i + 1) (by omega) (by omega)) dL_law_595 ?_
  refine wg_topi (y := xs (i + 1)) (by rw [nI_clamp (by omega)]) ?_
  refine lv_aload_n hx hb dL_law_596 rfl (lv_at hl 0 rfl) ?_
  refine lv_iload_n hx hb dL_law_597 rfl (lv_at hl 3 rfl) ?_
  refine lv_iconst (v := 2) hx hb dL_law_598 (by decide) ?_
  refine lv_iadd hx hb dL_law_599 ?_
  refine wg_topi (y := nI (i + 2)) (by rw [show (2 : Int32) = nI 2 from rfl, nI_add]) ?_
  refine va_sld hx hb hsc hbl hbA hS (vp_in_nI (n := i + 2) (by omega) (by omega)) dL_law_600 ?_
  refine wg_topi (y := xs (i + 2)) (by rw [nI_clamp (by omega)]) ?_
  refine wg_ci hS (wg_rV (As := [.int (xs (i + 1)), .int (xs (i + 2))]) (rest := [.int r_587]) F hP hS (c_X8_give l E A C_587 S (xs (i + 1)) (xs (i + 2)) hM1 hI) ok_X8_give tb_725 rfl rfl ⟨Nat.le_of_ble_eq_true rfl, Nat.le_of_ble_eq_true rfl⟩ mo1 rfl rfl rfl hl.1 rfl (Nat.le_of_ble_eq_true rfl) dL_law_601 ⟨by show _ ≤ 600000; omega, by show _ ≤ 7302250; omega⟩) (fun r_601 A1 C_601 H locs w_601 hP hS => ?_)
  obtain ⟨rfl, w_601, hM2, hk2⟩ := w_601
  have hX2 : lx E A C_601 ((op_give S (xs (i + 1)) (xs (i + 2))).2) := lx_at hX1 hk2
  refine lv_icmp_eq (tgt := 1195) hx hb dL_law_604 (by decide) (fun c_604 => ?_) (fun c_604 => ?_)
  · refine W.widen (k := i + 8 + 100) (n := i + 8 + 3000) (by omega) (by omega) ?_
    exact kk A C_601 ((op_give S (xs (i + 1)) (xs (i + 2))).2) _ _ _ hX2 hM2 (op_give_inv hI) hP hS hl
  · exact absurd (w_587.trans w_601.symm) c_604
set_option maxHeartbeats 4000000 in
set_option maxRecDepth 100000 in
theorem law_seek : lw_case 609 := by
  intro p l e s m below meth c E b L xs hL C0 hE F A C S i H locs ls hX hM hI hi hP hS hl kk
  have hx := F.1
  have hb := F.2.1
  have hml := F.2.2.1
  have hown := F.2.2.2.1
  have hts := F.2.2.2.2.1
  obtain ⟨-, -, -, -, -, -, hsc, hbl, -, -⟩ := C0
  have hbA : ¬ wg_A E b := by show ¬ E.2.2.1 ≤ b; rw [hE]; exact Nat.not_le.mpr hbl
  have x0 : C 0 = some (.inr (7, [.ref (A 1), .int (nI (lc_ns (st_B S))), .ref (A 2), .ref (A 4), .ref (A 5), .ref (A 6), .ref (A 7), .ref (A 8), .ref (A 11)])) := hX.1
  have mo : C 1000 = some (.inr (8, [.int (nI (lc_ns (st_B S))), .ref (A 1001), .int (nI (lc_nh (st_B S))), .ref (A 1003), .ref (A 1004), .ref (A 1005), .ref (A 1006), .ref (A 1007), .ref (A 1008), .ref (A 1009), .ref (A 1010), .ref (A 1011), .ref (A 1012), .ref (A 1013), .ref (A 1014), .ref (A 1015), .ref (A 1016), .ref (A 1017), .ref (A 1018), .int (nI (st_pa S)), .int (nI (st_pb S)), .long (st_va S), .long (st_vb S), .int (nI (st_ct S)), .ref (A 1024), .ref (A 1025), .ref (A 1026), .ref (A 1027), .ref (A 1028)])) := hM.1
  refine lv_aload_n hx hb dL_law_609 rfl (lv_at hl 1 rfl) ?_
  refine lv_aload_n hx hb dL_law_610 rfl (lv_at hl 0 rfl) ?_
  refine lv_iload_n hx hb dL_law_611 rfl (lv_at hl 3 rfl) ?_
  refine lv_iconst (v := 1) hx hb dL_law_612 (by decide) ?_
  refine lv_iadd hx hb dL_law_613 ?_
  refine wg_topi (y := nI (i + 1)) (by rw [show (1 : Int32) = nI 1 from rfl, nI_add]) ?_
  refine va_sld hx hb hsc hbl hbA hS (vp_in_nI (n := i + 1) (by omega) (by omega)) dL_law_614 ?_
  refine wg_topi (y := xs (i + 1)) (by rw [nI_clamp (by omega)]) ?_
  refine lv_aload_n hx hb dL_law_615 rfl (lv_at hl 0 rfl) ?_
  refine lv_iload_n hx hb dL_law_616 rfl (lv_at hl 3 rfl) ?_
  refine lv_iconst (v := 2) hx hb dL_law_617 (by decide) ?_
  refine lv_iadd hx hb dL_law_618 ?_
  refine wg_topi (y := nI (i + 2)) (by rw [show (2 : Int32) = nI 2 from rfl, nI_add]) ?_
  refine va_sld hx hb hsc hbl hbA hS (vp_in_nI (n := i + 2) (by omega) (by omega)) dL_law_619 ?_
  refine wg_topi (y := xs (i + 2)) (by rw [nI_clamp (by omega)]) ?_
  refine lv_aload_n hx hb dL_law_620 rfl (lv_at hl 0 rfl) ?_
  refine lv_iload_n hx hb dL_law_621 rfl (lv_at hl 3 rfl) ?_
  refine lv_iconst (v := 3) hx hb dL_law_622 (by decide) ?_
  refine lv_iadd hx hb dL_law_623 ?_
  refine wg_topi (y := nI (i + 3)) (by rw [show (3 : Int32) = nI 3 from rfl, nI_add]) ?_
  refine va_sld hx hb hsc hbl hbA hS (vp_in_nI (n := i + 3) (by omega) (by omega)) dL_law_624 ?_
  refine wg_topi (y := xs (i + 3)) (by rw [nI_clamp (by omega)]) ?_
  refine wg_ci hS (wg_rV (As := [.int (xs (i + 1)), .int (xs (i + 2)), .int (xs (i + 3))]) (rest := []) F hP hS (c_X7_seek l E A C S (xs (i + 1)) (xs (i + 2)) (xs (i + 3)) hX hI) ok_X7_seek tb_398 rfl rfl ⟨Nat.le_of_ble_eq_true rfl, Nat.le_of_ble_eq_true rfl⟩ x0 rfl rfl rfl hl.1 rfl (Nat.le_of_ble_eq_true rfl) dL_law_625 ⟨by show _ ≤ 600000; omega, by show _ ≤ 7302250; omega⟩) (fun r_625 A1 C_625 H locs w_625 hP hS => ?_)
  obtain ⟨rfl, w_625, hX1, hk1⟩ := w_625
  have hM1 : lm E A C_625 S := lm_at hM hk1
  have mo1 : C_625 1000 = some (.inr (8, [.int (nI (lc_ns (st_B S))), .ref (A 1001), .int (nI (lc_nh (st_B S))), .ref (A 1003), .ref (A 1004), .ref (A 1005), .ref (A 1006), .ref (A 1007), .ref (A 1008), .ref (A 1009), .ref (A 1010), .ref (A 1011), .ref (A 1012), .ref (A 1013), .ref (A 1014), .ref (A 1015), .ref (A 1016), .ref (A 1017), .ref (A 1018), .int (nI (st_pa S)), .int (nI (st_pb S)), .long (st_va S), .long (st_vb S), .int (nI (st_ct S)), .ref (A 1024), .ref (A 1025), .ref (A 1026), .ref (A 1027), .ref (A 1028)])) := hM1.1
  refine lv_aload_n hx hb dL_law_628 rfl (lv_at hl 2 rfl) ?_
  refine lv_aload_n hx hb dL_law_629 rfl (lv_at hl 0 rfl) ?_
  refine lv_iload_n hx hb dL_law_630 rfl (lv_at hl 3 rfl) ?_
  refine lv_iconst (v := 1) hx hb dL_law_631 (by decide) ?_
  refine lv_iadd hx hb dL_law_632 ?_
  refine wg_topi (y := nI (i + 1)) (by rw [show (1 : Int32) = nI 1 from rfl, nI_add]) ?_
  refine va_sld hx hb hsc hbl hbA hS (vp_in_nI (n := i + 1) (by omega) (by omega)) dL_law_633 ?_
  refine wg_topi (y := xs (i + 1)) (by rw [nI_clamp (by omega)]) ?_
  refine lv_aload_n hx hb dL_law_634 rfl (lv_at hl 0 rfl) ?_
  refine lv_iload_n hx hb dL_law_635 rfl (lv_at hl 3 rfl) ?_
  refine lv_iconst (v := 2) hx hb dL_law_636 (by decide) ?_
  refine lv_iadd hx hb dL_law_637 ?_
  refine wg_topi (y := nI (i + 2)) (by rw [show (2 : Int32) = nI 2 from rfl, nI_add]) ?_
  refine va_sld hx hb hsc hbl hbA hS (vp_in_nI (n := i + 2) (by omega) (by omega)) dL_law_638 ?_
  refine wg_topi (y := xs (i + 2)) (by rw [nI_clamp (by omega)]) ?_
  refine lv_aload_n hx hb dL_law_639 rfl (lv_at hl 0 rfl) ?_
  refine lv_iload_n hx hb dL_law_640 rfl (lv_at hl 3 rfl) ?_
  refine lv_iconst (v := 3) hx hb dL_law_641 (by decide) ?_
  refine lv_iadd hx hb dL_law_642 ?_
  refine wg_topi (y := nI (i + 3)) (by rw [show (3 : Int32) = nI 3 from rfl, nI_add]) ?_
  refine va_sld hx hb hsc hbl hbA hS (vp_in_nI (n := i + 3) (by omega) (by omega)) dL_law_643 ?_
  refine wg_topi (y := xs (i + 3)) (by rw [nI_clamp (by omega)]) ?_
  refine wg_ci hS (wg_rV (As := [.int (xs (i + 1)), .int (xs (i + 2)), .int (xs (i + 3))]) (rest := [.int r_625]) F hP hS (c_X8_seek l E A C_625 S (xs (i + 1)) (xs (i + 2)) (xs (i + 3)) hM1 hI) ok_X8_seek tb_733 rfl rfl ⟨Nat.le_of_ble_eq_true rfl, Nat.le_of_ble_eq_true rfl⟩ mo1 rfl rfl rfl hl.1 rfl (Nat.le_of_ble_eq_true rfl) dL_law_644 ⟨by show _ ≤ 600000; omega, by show _ ≤ 7302250; omega⟩) (fun r_644 A1 C_644 H locs w_644 hP hS => ?_)
  obtain ⟨rfl, w_644, hM2, hk2⟩ := w_644
  have hX2 : lx E A C_644 ((op_seek S (xs (i + 1)) (xs (i + 2)) (xs (i + 3))).2) := lx_at hX1 hk2
  refine lv_icmp_eq (tgt := 1195) hx hb dL_law_647 (by decide) (fun c_647 => ?_) (fun c_647 => ?_)
  · refine W.widen (k := i + 8 + 100) (n := i + 8 + 3000) (by omega) (by omega) ?_
    exact kk A C_644 ((op_seek S (xs (i + 1)) (xs (i + 2)) (xs (i + 3))).2) _ _ _ hX2 hM2 (op_seek_inv hI) hP hS hl
  · exact absurd (w_625.trans w_644.symm) c_647
set_option maxHeartbeats 4000000 in
set_option maxRecDepth 100000 in
theorem law_stored : lw_case 652 := by
  intro p l e s m below meth c E b L xs hL C0 hE F A C S i H locs ls hX hM hI hi hP hS hl kk
  have hx := F.1
  have hb := F.2.1
  have hml := F.2.2.1
  have hown := F.2.2.2.1
  have hts := F.2.2.2.2.1
  obtain ⟨-, -, -, -, -, -, hsc, hbl, -, -⟩ := C0
  have hbA : ¬ wg_A E b := by show ¬ E.2.2.1 ≤ b; rw [hE]; exact Nat.not_le.mpr hbl
  have x0 : C 0 = some (.inr (7, [.ref (A 1), .int (nI (lc_ns (st_B S))), .ref (A 2), .ref (A 4), .ref (A 5), .ref (A 6), .ref (A 7), .ref (A 8), .ref (A 11)])) := hX.1
  have mo : C 1000 = some (.inr (8, [.int (nI (lc_ns (st_B S))), .ref (A 1001), .int (nI (lc_nh (st_B S))), .ref (A 1003), .ref (A 1004), .ref (A 1005), .ref (A 1006), .ref (A 1007), .ref (A 1008), .ref (A 1009), .ref (A 1010), .ref (A 1011), .ref (A 1012), .ref (A 1013), .ref (A 1014), .ref (A 1015), .ref (A 1016), .ref (A 1017), .ref (A 1018), .int (nI (st_pa S)), .int (nI (st_pb S)), .long (st_va S), .long (st_vb S), .int (nI (st_ct S)), .ref (A 1024), .ref (A 1025), .ref (A 1026), .ref (A 1027), .ref (A 1028)])) := hM.1
  refine lv_aload_n hx hb dL_law_652 rfl (lv_at hl 1 rfl) ?_
  refine lv_aload_n hx hb dL_law_653 rfl (lv_at hl 0 rfl) ?_
  refine lv_iload_n hx hb dL_law_654 rfl (lv_at hl 3 rfl) ?_
  refine lv_iconst (v := 1) hx hb dL_law_655 (by decide) ?_
  refine lv_iadd hx hb dL_law_656 ?_
  refine wg_topi (y := nI (i + 1)) (by rw [show (1 : Int32) = nI 1 from rfl, nI_add]) ?_
  refine va_sld hx hb hsc hbl hbA hS (vp_in_nI (n := i + 1) (by omega) (by omega)) dL_law_657 ?_
  refine wg_topi (y := xs (i + 1)) (by rw [nI_clamp (by omega)]) ?_
  refine lv_aload_n hx hb dL_law_658 rfl (lv_at hl 0 rfl) ?_
  refine lv_iload_n hx hb dL_law_659 rfl (lv_at hl 3 rfl) ?_
  refine lv_iconst (v := 2) hx hb dL_law_660 (by decide) ?_
  refine lv_iadd hx hb dL_law_661 ?_
  refine wg_topi (y := nI (i + 2)) (by rw [show (2 : Int32) = nI 2 from rfl, nI_add]) ?_
  refine va_sld hx hb hsc hbl hbA hS (vp_in_nI (n := i + 2) (by omega) (by omega)) dL_law_662 ?_
  refine wg_topi (y := xs (i + 2)) (by rw [nI_clamp (by omega)]) ?_
  refine wg_ci hS (wg_rV (As := [.int (xs (i + 1)), .int (xs (i + 2))]) (rest := []) F hP hS (c_X7_stored l E A C S (xs (i + 1)) (xs (i + 2)) hX hI) ok_X7_stored tb_411 rfl rfl ⟨Nat.le_of_ble_eq_true rfl, Nat.le_of_ble_eq_true rfl⟩ x0 rfl rfl rfl hl.1 rfl (Nat.le_of_ble_eq_true rfl) dL_law_663 ⟨by show _ ≤ 600000; omega, by show _ ≤ 7302250; omega⟩) (fun r_663 A1 C_663 H locs w_663 hP hS => ?_)
  obtain ⟨w_663, rfl, rfl⟩ := w_663
  refine lv_aload_n hx hb dL_law_666 rfl (lv_at hl 2 rfl) ?_
  refine lv_aload_n hx hb dL_law_667 rfl (lv_at hl 0 rfl) ?_
  refine lv_iload_n hx hb dL_law_668 rfl (lv_at hl 3 rfl) ?_
  refine lv_iconst (v := 1) hx hb dL_law_669 (by decide) ?_
  refine lv_iadd hx hb dL_law_670 ?_
  refine wg_topi (y := nI (i + 1)) (by rw [show (1 : Int32) = nI 1 from rfl, nI_add]) ?_
  refine va_sld hx hb hsc hbl hbA hS (vp_in_nI (n := i + 1) (by omega) (by omega)) dL_law_671 ?_
  refine wg_topi (y := xs (i + 1)) (by rw [nI_clamp (by omega)]) ?_
  refine lv_aload_n hx hb dL_law_672 rfl (lv_at hl 0 rfl) ?_
  refine lv_iload_n hx hb dL_law_673 rfl (lv_at hl 3 rfl) ?_
  refine lv_iconst (v := 2) hx hb dL_law_674 (by decide) ?_
  refine lv_iadd hx hb dL_law_675 ?_
  refine wg_topi (y := nI (i + 2)) (by rw [show (2 : Int32) = nI 2 from rfl, nI_add]) ?_
  refine va_sld hx hb hsc hbl hbA hS (vp_in_nI (n := i + 2) (by omega) (by omega)) dL_law_676 ?_
  refine wg_topi (y := xs (i + 2)) (by rw [nI_clamp (by omega)]) ?_
  refine wg_ci hS (wg_rV (As := [.int (xs (i + 1)), .int (xs (i + 2))]) (rest := [.int r_663]) F hP hS (c_X8_stored l E A C S (xs (i + 1)) (xs (i + 2)) hM hI) ok_X8_stored tb_741 rfl rfl ⟨Nat.le_of_ble_eq_true rfl, Nat.le_of_ble_eq_true rfl⟩ mo rfl rfl rfl hl.1 rfl (Nat.le_of_ble_eq_true rfl) dL_law_677 ⟨by show _ ≤ 600000; omega, by show _ ≤ 7302250; omega⟩) (fun r_677 A1 C_677 H locs w_677 hP hS => ?_)
  obtain ⟨w_677, rfl, rfl⟩ := w_677
  refine lv_icmp_eq (tgt := 1195) hx hb dL_law_680 (by decide) (fun c_680 => ?_) (fun c_680 => ?_)
  · refine W.widen (k := i + 8 + 100) (n := i + 8 + 3000) (by omega) (by omega) ?_
    exact kk A C S _ _ _ hX hM hI hP hS hl
  · exact absurd (w_663.trans w_677.symm) c_680
set_option maxHeartbeats 4000000 in
set_option maxRecDepth 100000 in
theorem law_client : lw_case 685 := by
  intro p l e s m below meth c E b L xs hL C0 hE F A C S i H locs ls hX hM hI hi hP hS hl kk
  have hx := F.1
  have hb := F.2.1
  have hml := F.2.2.1
  have hown := F.2.2.2.1
  have hts := F.2.2.2.2.1
  obtain ⟨-, -, -, -, -, -, hsc, hbl, -, -⟩ := C0
  have hbA : ¬ wg_A E b := by show ¬ E.2.2.1 ≤ b; rw [hE]; exact Nat.not_le.mpr hbl
  have x0 : C 0 = some (.inr (7, [.ref (A 1), .int (nI (lc_ns (st_B S))), .ref (A 2), .ref (A 4), .ref (A 5), .ref (A 6), .ref (A 7), .ref (A 8), .ref (A 11)])) := hX.1
  have mo : C 1000 = some (.inr (8, [.int (nI (lc_ns (st_B S))), .ref (A 1001), .int (nI (lc_nh (st_B S))), .ref (A 1003), .ref (A 1004), .ref (A 1005), .ref (A 1006), .ref (A 1007), .ref (A 1008), .ref (A 1009), .ref (A 1010), .ref (A 1011), .ref (A 1012), .ref (A 1013), .ref (A 1014), .ref (A 1015), .ref (A 1016), .ref (A 1017), .ref (A 1018), .int (nI (st_pa S)), .int (nI (st_pb S)), .long (st_va S), .long (st_vb S), .int (nI (st_ct S)), .ref (A 1024), .ref (A 1025), .ref (A 1026), .ref (A 1027), .ref (A 1028)])) := hM.1
  refine lv_aload_n hx hb dL_law_685 rfl (lv_at hl 1 rfl) ?_
  refine lv_aload_n hx hb dL_law_686 rfl (lv_at hl 0 rfl) ?_
  refine lv_iload_n hx hb dL_law_687 rfl (lv_at hl 3 rfl) ?_
  refine lv_iconst (v := 1) hx hb dL_law_688 (by decide) ?_
  refine lv_iadd hx hb dL_law_689 ?_
  refine wg_topi (y := nI (i + 1)) (by rw [show (1 : Int32) = nI 1 from rfl, nI_add]) ?_
  refine va_sld hx hb hsc hbl hbA hS (vp_in_nI (n := i + 1) (by omega) (by omega)) dL_law_690 ?_
  refine wg_topi (y := xs (i + 1)) (by rw [nI_clamp (by omega)]) ?_
  refine lv_aload_n hx hb dL_law_691 rfl (lv_at hl 0 rfl) ?_
  refine lv_iload_n hx hb dL_law_692 rfl (lv_at hl 3 rfl) ?_
  refine lv_iconst (v := 2) hx hb dL_law_693 (by decide) ?_
  refine lv_iadd hx hb dL_law_694 ?_
  refine wg_topi (y := nI (i + 2)) (by rw [show (2 : Int32) = nI 2 from rfl, nI_add]) ?_
  refine va_sld hx hb hsc hbl hbA hS (vp_in_nI (n := i + 2) (by omega) (by omega)) dL_law_695 ?_
  refine wg_topi (y := xs (i + 2)) (by rw [nI_clamp (by omega)]) ?_
  refine wg_ci hS (wg_rV (As := [.int (xs (i + 1)), .int (xs (i + 2))]) (rest := []) F hP hS (c_X7_client l E A C S (xs (i + 1)) (xs (i + 2)) hX hI) ok_X7_client tb_415 rfl rfl ⟨Nat.le_of_ble_eq_true rfl, Nat.le_of_ble_eq_true rfl⟩ x0 rfl rfl rfl hl.1 rfl (Nat.le_of_ble_eq_true rfl) dL_law_696 ⟨by show _ ≤ 600000; omega, by show _ ≤ 7302250; omega⟩) (fun r_696 A1 C_696 H locs w_696 hP hS => ?_)
  obtain ⟨w_696, rfl, rfl⟩ := w_696
  refine lv_aload_n hx hb dL_law_699 rfl (lv_at hl 2 rfl) ?_
  refine lv_aload_n hx hb dL_law_700 rfl (lv_at hl 0 rfl) ?_
  refine lv_iload_n hx hb dL_law_701 rfl (lv_at hl 3 rfl) ?_
  refine lv_iconst (v := 1) hx hb dL_law_702 (by decide) ?_
  refine lv_iadd hx hb dL_law_703 ?_
  refine wg_topi (y := nI (i + 1)) (by rw [show (1 : Int32) = nI 1 from rfl, nI_add]) ?_
  refine va_sld hx hb hsc hbl hbA hS (vp_in_nI (n := i + 1) (by omega) (by omega)) dL_law_704 ?_
  refine wg_topi (y := xs (i + 1)) (by rw [nI_clamp (by omega)]) ?_
  refine lv_aload_n hx hb dL_law_705 rfl (lv_at hl 0 rfl) ?_
  refine lv_iload_n hx hb dL_law_706 rfl (lv_at hl 3 rfl) ?_
  refine lv_iconst (v := 2) hx hb dL_law_707 (by decide) ?_
  refine lv_iadd hx hb dL_law_708 ?_
  refine wg_topi (y := nI (i + 2)) (by rw [show (2 : Int32) = nI 2 from rfl, nI_add]) ?_
  refine va_sld hx hb hsc hbl hbA hS (vp_in_nI (n := i + 2) (by omega) (by omega)) dL_law_709 ?_
  refine wg_topi (y := xs (i + 2)) (by rw [nI_clamp (by omega)]) ?_
  refine wg_ci hS (wg_rV (As := [.int (xs (i + 1)), .int (xs (i + 2))]) (rest := [.int r_696]) F hP hS (c_X8_client l E A C S (xs (i + 1)) (xs (i + 2)) hM hI) ok_X8_client tb_745 rfl rfl ⟨Nat.le_of_ble_eq_true rfl, Nat.le_of_ble_eq_true rfl⟩ mo rfl rfl rfl hl.1 rfl (Nat.le_of_ble_eq_true rfl) dL_law_710 ⟨by show _ ≤ 600000; omega, by show _ ≤ 7302250; omega⟩) (fun r_710 A1 C_710 H locs w_710 hP hS => ?_)
  obtain ⟨w_710, rfl, rfl⟩ := w_710
  refine lv_icmp_eq (tgt := 1195) hx hb dL_law_713 (by decide) (fun c_713 => ?_) (fun c_713 => ?_)
  · refine W.widen (k := i + 8 + 100) (n := i + 8 + 3000) (by omega) (by omega) ?_
    exact kk A C S _ _ _ hX hM hI hP hS hl
  · exact absurd (w_696.trans w_710.symm) c_713
set_option maxHeartbeats 4000000 in
set_option maxRecDepth 100000 in
theorem law_compare : lw_case 718 := by
  intro p l e s m below meth c E b L xs hL C0 hE F A C S i H locs ls hX hM hI hi hP hS hl kk
  have hx := F.1
  have hb := F.2.1
  have hml := F.2.2.1
  have hown := F.2.2.2.1
  have hts := F.2.2.2.2.1
  obtain ⟨-, -, -, -, -, -, hsc, hbl, -, -⟩ := C0
  have hbA : ¬ wg_A E b := by show ¬ E.2.2.1 ≤ b; rw [hE]; exact Nat.not_le.mpr hbl
  have x0 : C 0 = some (.inr (7, [.ref (A 1), .int (nI (lc_ns (st_B S))), .ref (A 2), .ref (A 4), .ref (A 5), .ref (A 6), .ref (A 7), .ref (A 8), .ref (A 11)])) := hX.1
  have mo : C 1000 = some (.inr (8, [.int (nI (lc_ns (st_B S))), .ref (A 1001), .int (nI (lc_nh (st_B S))), .ref (A 1003), .ref (A 1004), .ref (A 1005), .ref (A 1006), .ref (A 1007), .ref (A 1008), .ref (A 1009), .ref (A 1010), .ref (A 1011), .ref (A 1012), .ref (A 1013), .ref (A 1014), .ref (A 1015), .ref (A 1016), .ref (A 1017), .ref (A 1018), .int (nI (st_pa S)), .int (nI (st_pb S)), .long (st_va S), .long (st_vb S), .int (nI (st_ct S)), .ref (A 1024), .ref (A 1025), .ref (A 1026), .ref (A 1027), .ref (A 1028)])) := hM.1
  refine lv_aload_n hx hb dL_law_718 rfl (lv_at hl 1 rfl) ?_
  refine lv_aload_n hx hb dL_law_719 rfl (lv_at hl 0 rfl) ?_
  refine lv_iload_n hx hb dL_law_720 rfl (lv_at hl 3 rfl) ?_
  refine lv_iconst (v := 1) hx hb dL_law_721 (by decide) ?_
  refine lv_iadd hx hb dL_law_722 ?_
  refine wg_topi (y := nI (i + 1)) (by rw [show (1 : Int32) = nI 1 from rfl, nI_add]) ?_
  refine va_sld hx hb hsc hbl hbA hS (vp_in_nI (n := i + 1) (by omega) (by omega)) dL_law_723 ?_
  refine wg_topi (y := xs (i + 1)) (by rw [nI_clamp (by omega)]) ?_
  refine lv_aload_n hx hb dL_law_724 rfl (lv_at hl 0 rfl) ?_
  refine lv_iload_n hx hb dL_law_725 rfl (lv_at hl 3 rfl) ?_
  refine lv_iconst (v := 2) hx hb dL_law_726 (by decide) ?_
  refine lv_iadd hx hb dL_law_727 ?_
  refine wg_topi (y := nI (i + 2)) (by rw [show (2 : Int32) = nI 2 from rfl, nI_add]) ?_
  refine va_sld hx hb hsc hbl hbA hS (vp_in_nI (n := i + 2) (by omega) (by omega)) dL_law_728 ?_
  refine wg_topi (y := xs (i + 2)) (by rw [nI_clamp (by omega)]) ?_
  refine wg_ci hS (wg_rV (As := [.int (xs (i + 1)), .int (xs (i + 2))]) (rest := []) F hP hS (c_X7_compare l E A C S (xs (i + 1)) (xs (i + 2)) hX hI) ok_X7_compare tb_419 rfl rfl ⟨Nat.le_of_ble_eq_true rfl, Nat.le_of_ble_eq_true rfl⟩ x0 rfl rfl rfl hl.1 rfl (Nat.le_of_ble_eq_true rfl) dL_law_729 ⟨by show _ ≤ 600000; omega, by show _ ≤ 7302250; omega⟩) (fun r_729 A1 C_729 H locs w_729 hP hS => ?_)
  obtain ⟨w_729, rfl, rfl⟩ := w_729
  refine lv_aload_n hx hb dL_law_732 rfl (lv_at hl 2 rfl) ?_
  refine lv_aload_n hx hb dL_law_733 rfl (lv_at hl 0 rfl) ?_
  refine lv_iload_n hx hb dL_law_734 rfl (lv_at hl 3 rfl) ?_
  refine lv_iconst (v := 1) hx hb dL_law_735 (by decide) ?_
  refine lv_iadd hx hb dL_law_736 ?_
  refine wg_topi (y := nI (i + 1)) (by rw [show (1 : Int32) = nI 1 from rfl, nI_add]) ?_
  refine va_sld hx hb hsc hbl hbA hS (vp_in_nI (n := i + 1) (by omega) (by omega)) dL_law_737 ?_
  refine wg_topi (y := xs (i + 1)) (by rw [nI_clamp (by omega)]) ?_
  refine lv_aload_n hx hb dL_law_738 rfl (lv_at hl 0 rfl) ?_
  refine lv_iload_n hx hb dL_law_739 rfl (lv_at hl 3 rfl) ?_
  refine lv_iconst (v := 2) hx hb dL_law_740 (by decide) ?_
  refine lv_iadd hx hb dL_law_741 ?_
  refine wg_topi (y := nI (i + 2)) (by rw [show (2 : Int32) = nI 2 from rfl, nI_add]) ?_
  refine va_sld hx hb hsc hbl hbA hS (vp_in_nI (n := i + 2) (by omega) (by omega)) dL_law_742 ?_
  refine wg_topi (y := xs (i + 2)) (by rw [nI_clamp (by omega)]) ?_
  refine wg_ci hS (wg_rV (As := [.int (xs (i + 1)), .int (xs (i + 2))]) (rest := [.int r_729]) F hP hS (c_X8_compare l E A C S (xs (i + 1)) (xs (i + 2)) hM hI) ok_X8_compare tb_749 rfl rfl ⟨Nat.le_of_ble_eq_true rfl, Nat.le_of_ble_eq_true rfl⟩ mo rfl rfl rfl hl.1 rfl (Nat.le_of_ble_eq_true rfl) dL_law_743 ⟨by show _ ≤ 600000; omega, by show _ ≤ 7302250; omega⟩) (fun r_743 A1 C_743 H locs w_743 hP hS => ?_)
  obtain ⟨w_743, rfl, rfl⟩ := w_743
  refine lv_icmp_eq (tgt := 1195) hx hb dL_law_746 (by decide) (fun c_746 => ?_) (fun c_746 => ?_)
  · refine W.widen (k := i + 8 + 100) (n := i + 8 + 3000) (by omega) (by omega) ?_
    exact kk A C S _ _ _ hX hM hI hP hS hl
  · exact absurd (w_729.trans w_743.symm) c_746
set_option maxHeartbeats 4000000 in
set_option maxRecDepth 100000 in
theorem law_blame : lw_case 751 := by
  intro p l e s m below meth c E b L xs hL C0 hE F A C S i H locs ls hX hM hI hi hP hS hl kk
  have hx := F.1
  have hb := F.2.1
  have hml := F.2.2.1
  have hown := F.2.2.2.1
  have hts := F.2.2.2.2.1
  obtain ⟨-, -, -, -, -, -, hsc, hbl, -, -⟩ := C0
  have hbA : ¬ wg_A E b := by show ¬ E.2.2.1 ≤ b; rw [hE]; exact Nat.not_le.mpr hbl
  have x0 : C 0 = some (.inr (7, [.ref (A 1), .int (nI (lc_ns (st_B S))), .ref (A 2), .ref (A 4), .ref (A 5), .ref (A 6), .ref (A 7), .ref (A 8), .ref (A 11)])) := hX.1
  have mo : C 1000 = some (.inr (8, [.int (nI (lc_ns (st_B S))), .ref (A 1001), .int (nI (lc_nh (st_B S))), .ref (A 1003), .ref (A 1004), .ref (A 1005), .ref (A 1006), .ref (A 1007), .ref (A 1008), .ref (A 1009), .ref (A 1010), .ref (A 1011), .ref (A 1012), .ref (A 1013), .ref (A 1014), .ref (A 1015), .ref (A 1016), .ref (A 1017), .ref (A 1018), .int (nI (st_pa S)), .int (nI (st_pb S)), .long (st_va S), .long (st_vb S), .int (nI (st_ct S)), .ref (A 1024), .ref (A 1025), .ref (A 1026), .ref (A 1027), .ref (A 1028)])) := hM.1
  refine lv_aload_n hx hb dL_law_751 rfl (lv_at hl 1 rfl) ?_
  refine lv_aload_n hx hb dL_law_752 rfl (lv_at hl 0 rfl) ?_
  refine lv_iload_n hx hb dL_law_753 rfl (lv_at hl 3 rfl) ?_
  refine lv_iconst (v := 1) hx hb dL_law_754 (by decide) ?_
  refine lv_iadd hx hb dL_law_755 ?_
  refine wg_topi (y := nI (i + 1)) (by rw [show (1 : Int32) = nI 1 from rfl, nI_add]) ?_
  refine va_sld hx hb hsc hbl hbA hS (vp_in_nI (n := i + 1) (by omega) (by omega)) dL_law_756 ?_
  refine wg_topi (y := xs (i + 1)) (by rw [nI_clamp (by omega)]) ?_
  refine lv_aload_n hx hb dL_law_757 rfl (lv_at hl 0 rfl) ?_
  refine lv_iload_n hx hb dL_law_758 rfl (lv_at hl 3 rfl) ?_
  refine lv_iconst (v := 2) hx hb dL_law_759 (by decide) ?_
  refine lv_iadd hx hb dL_law_760 ?_
  refine wg_topi (y := nI (i + 2)) (by rw [show (2 : Int32) = nI 2 from rfl, nI_add]) ?_
  refine va_sld hx hb hsc hbl hbA hS (vp_in_nI (n := i + 2) (by omega) (by omega)) dL_law_761 ?_
  refine wg_topi (y := xs (i + 2)) (by rw [nI_clamp (by omega)]) ?_
  refine lv_aload_n hx hb dL_law_762 rfl (lv_at hl 0 rfl) ?_
  refine lv_iload_n hx hb dL_law_763 rfl (lv_at hl 3 rfl) ?_
  refine lv_iconst (v := 3) hx hb dL_law_764 (by decide) ?_
  refine lv_iadd hx hb dL_law_765 ?_
  refine wg_topi (y := nI (i + 3)) (by rw [show (3 : Int32) = nI 3 from rfl, nI_add]) ?_
  refine va_sld hx hb hsc hbl hbA hS (vp_in_nI (n := i + 3) (by omega) (by omega)) dL_law_766 ?_
  refine wg_topi (y := xs (i + 3)) (by rw [nI_clamp (by omega)]) ?_
  refine wg_ci hS (wg_rV (As := [.int (xs (i + 1)), .int (xs (i + 2)), .int (xs (i + 3))]) (rest := []) F hP hS (c_X7_blame l E A C S (xs (i + 1)) (xs (i + 2)) (xs (i + 3)) hX hI) ok_X7_blame tb_431 rfl rfl ⟨Nat.le_of_ble_eq_true rfl, Nat.le_of_ble_eq_true rfl⟩ x0 rfl rfl rfl hl.1 rfl (Nat.le_of_ble_eq_true rfl) dL_law_767 ⟨by show _ ≤ 600000; omega, by show _ ≤ 7302250; omega⟩) (fun r_767 A1 C_767 H locs w_767 hP hS => ?_)
  obtain ⟨w_767, rfl, rfl⟩ := w_767
  refine lv_aload_n hx hb dL_law_770 rfl (lv_at hl 2 rfl) ?_
  refine lv_aload_n hx hb dL_law_771 rfl (lv_at hl 0 rfl) ?_
  refine lv_iload_n hx hb dL_law_772 rfl (lv_at hl 3 rfl) ?_
  refine lv_iconst (v := 1) hx hb dL_law_773 (by decide) ?_
  refine lv_iadd hx hb dL_law_774 ?_
  refine wg_topi (y := nI (i + 1)) (by rw [show (1 : Int32) = nI 1 from rfl, nI_add]) ?_
  refine va_sld hx hb hsc hbl hbA hS (vp_in_nI (n := i + 1) (by omega) (by omega)) dL_law_775 ?_
  refine wg_topi (y := xs (i + 1)) (by rw [nI_clamp (by omega)]) ?_
  refine lv_aload_n hx hb dL_law_776 rfl (lv_at hl 0 rfl) ?_
  refine lv_iload_n hx hb dL_law_777 rfl (lv_at hl 3 rfl) ?_
  refine lv_iconst (v := 2) hx hb dL_law_778 (by decide) ?_
  refine lv_iadd hx hb dL_law_779 ?_
  refine wg_topi (y := nI (i + 2)) (by rw [show (2 : Int32) = nI 2 from rfl, nI_add]) ?_
  refine va_sld hx hb hsc hbl hbA hS (vp_in_nI (n := i + 2) (by omega) (by omega)) dL_law_780 ?_
  refine wg_topi (y := xs (i + 2)) (by rw [nI_clamp (by omega)]) ?_
  refine lv_aload_n hx hb dL_law_781 rfl (lv_at hl 0 rfl) ?_
  refine lv_iload_n hx hb dL_law_782 rfl (lv_at hl 3 rfl) ?_
  refine lv_iconst (v := 3) hx hb dL_law_783 (by decide) ?_
  refine lv_iadd hx hb dL_law_784 ?_
  refine wg_topi (y := nI (i + 3)) (by rw [show (3 : Int32) = nI 3 from rfl, nI_add]) ?_
  refine va_sld hx hb hsc hbl hbA hS (vp_in_nI (n := i + 3) (by omega) (by omega)) dL_law_785 ?_
  refine wg_topi (y := xs (i + 3)) (by rw [nI_clamp (by omega)]) ?_
  refine wg_ci hS (wg_rV (As := [.int (xs (i + 1)), .int (xs (i + 2)), .int (xs (i + 3))]) (rest := [.int r_767]) F hP hS (c_X8_blame l E A C S (xs (i + 1)) (xs (i + 2)) (xs (i + 3)) hM hI) ok_X8_blame tb_753 rfl rfl ⟨Nat.le_of_ble_eq_true rfl, Nat.le_of_ble_eq_true rfl⟩ mo rfl rfl rfl hl.1 rfl (Nat.le_of_ble_eq_true rfl) dL_law_786 ⟨by show _ ≤ 600000; omega, by show _ ≤ 7302250; omega⟩) (fun r_786 A1 C_786 H locs w_786 hP hS => ?_)
  obtain ⟨w_786, rfl, rfl⟩ := w_786
  refine lv_icmp_eq (tgt := 1195) hx hb dL_law_789 (by decide) (fun c_789 => ?_) (fun c_789 => ?_)
  · refine W.widen (k := i + 8 + 100) (n := i + 8 + 3000) (by omega) (by omega) ?_
    exact kk A C S _ _ _ hX hM hI hP hS hl
  · exact absurd (w_767.trans w_786.symm) c_789
set_option maxHeartbeats 4000000 in
set_option maxRecDepth 100000 in
theorem law_leaf : lw_case 794 := by
  intro p l e s m below meth c E b L xs hL C0 hE F A C S i H locs ls hX hM hI hi hP hS hl kk
  have hx := F.1
  have hb := F.2.1
  have hml := F.2.2.1
  have hown := F.2.2.2.1
  have hts := F.2.2.2.2.1
  obtain ⟨-, -, -, -, -, -, hsc, hbl, -, -⟩ := C0
  have hbA : ¬ wg_A E b := by show ¬ E.2.2.1 ≤ b; rw [hE]; exact Nat.not_le.mpr hbl
  have x0 : C 0 = some (.inr (7, [.ref (A 1), .int (nI (lc_ns (st_B S))), .ref (A 2), .ref (A 4), .ref (A 5), .ref (A 6), .ref (A 7), .ref (A 8), .ref (A 11)])) := hX.1
  have mo : C 1000 = some (.inr (8, [.int (nI (lc_ns (st_B S))), .ref (A 1001), .int (nI (lc_nh (st_B S))), .ref (A 1003), .ref (A 1004), .ref (A 1005), .ref (A 1006), .ref (A 1007), .ref (A 1008), .ref (A 1009), .ref (A 1010), .ref (A 1011), .ref (A 1012), .ref (A 1013), .ref (A 1014), .ref (A 1015), .ref (A 1016), .ref (A 1017), .ref (A 1018), .int (nI (st_pa S)), .int (nI (st_pb S)), .long (st_va S), .long (st_vb S), .int (nI (st_ct S)), .ref (A 1024), .ref (A 1025), .ref (A 1026), .ref (A 1027), .ref (A 1028)])) := hM.1
  refine lv_aload_n hx hb dL_law_794 rfl (lv_at hl 1 rfl) ?_
  refine lv_aload_n hx hb dL_law_795 rfl (lv_at hl 0 rfl) ?_
  refine lv_iload_n hx hb dL_law_796 rfl (lv_at hl 3 rfl) ?_
  refine lv_iconst (v := 1) hx hb dL_law_797 (by decide) ?_
  refine lv_iadd hx hb dL_law_798 ?_
  refine wg_topi (y := nI (i + 1)) (by rw [show (1 : Int32) = nI 1 from rfl, nI_add]) ?_
  refine va_sld hx hb hsc hbl hbA hS (vp_in_nI (n := i + 1) (by omega) (by omega)) dL_law_799 ?_
  refine wg_topi (y := xs (i + 1)) (by rw [nI_clamp (by omega)]) ?_
  refine lv_aload_n hx hb dL_law_800 rfl (lv_at hl 0 rfl) ?_
  refine lv_iload_n hx hb dL_law_801 rfl (lv_at hl 3 rfl) ?_
  refine lv_iconst (v := 2) hx hb dL_law_802 (by decide) ?_
  refine lv_iadd hx hb dL_law_803 ?_
  refine wg_topi (y := nI (i + 2)) (by rw [show (2 : Int32) = nI 2 from rfl, nI_add]) ?_
  refine va_sld hx hb hsc hbl hbA hS (vp_in_nI (n := i + 2) (by omega) (by omega)) dL_law_804 ?_
  refine wg_topi (y := xs (i + 2)) (by rw [nI_clamp (by omega)]) ?_
  refine lv_i2l (v := (xs (i + 2)).toInt64) hx hb dL_law_805 rfl ?_
  refine lv_bipush (v := 32) hx hb dL_law_806 (by decide) ?_
  refine lv_lshl (v := ((xs (i + 2)).toInt64) <<< ((32 : Int32).toInt64 &&& 63)) hx hb dL_law_808 rfl ?_
  refine lv_aload_n hx hb dL_law_809 rfl (lv_at hl 0 rfl) ?_
  refine lv_iload_n hx hb dL_law_810 rfl (lv_at hl 3 rfl) ?_
  refine lv_iconst (v := 3) hx hb dL_law_811 (by decide) ?_
  refine lv_iadd hx hb dL_law_812 ?_
  refine wg_topi (y := nI (i + 3)) (by rw [show (3 : Int32) = nI 3 from rfl, nI_add]) ?_
  refine va_sld hx hb hsc hbl hbA hS (vp_in_nI (n := i + 3) (by omega) (by omega)) dL_law_813 ?_
  refine wg_topi (y := xs (i + 3)) (by rw [nI_clamp (by omega)]) ?_
  refine lv_i2l (v := (xs (i + 3)).toInt64) hx hb dL_law_814 rfl ?_
  refine lv_ldc2 (v := 4294967295) hx hb hown (hts _ tb_807) dL_law_815 ?_
  refine lv_land hx hb dL_law_818 ?_
  refine lv_lor hx hb dL_law_819 ?_
  refine wg_cl_ hS (wg_rV (As := [.int (xs (i + 1)), .long ((((xs (i + 2)).toInt64) <<< ((32 : Int32).toInt64 &&& 63)) ||| (((xs (i + 3)).toInt64) &&& 4294967295))]) (rest := []) F hP hS (c_X7_leaf l E A C S (xs (i + 1)) ((((xs (i + 2)).toInt64) <<< ((32 : Int32).toInt64 &&& 63)) ||| (((xs (i + 3)).toInt64) &&& 4294967295)) hX hI) ok_X7_leaf tb_439 rfl rfl ⟨Nat.le_of_ble_eq_true rfl, Nat.le_of_ble_eq_true rfl⟩ x0 rfl rfl rfl hl.1 rfl (Nat.le_of_ble_eq_true rfl) dL_law_820 ⟨by show _ ≤ 600000; omega, by show _ ≤ 7302250; omega⟩) (fun r_820 A1 C_820 H locs w_820 hP hS => ?_)
  obtain ⟨rfl, w_820, hX1, hk1⟩ := w_820
  have hM1 : lm E A C_820 S := lm_at hM hk1
  have mo1 : C_820 1000 = some (.inr (8, [.int (nI (lc_ns (st_B S))), .ref (A 1001), .int (nI (lc_nh (st_B S))), .ref (A 1003), .ref (A 1004), .ref (A 1005), .ref (A 1006), .ref (A 1007), .ref (A 1008), .ref (A 1009), .ref (A 1010), .ref (A 1011), .ref (A 1012), .ref (A 1013), .ref (A 1014), .ref (A 1015), .ref (A 1016), .ref (A 1017), .ref (A 1018), .int (nI (st_pa S)), .int (nI (st_pb S)), .long (st_va S), .long (st_vb S), .int (nI (st_ct S)), .ref (A 1024), .ref (A 1025), .ref (A 1026), .ref (A 1027), .ref (A 1028)])) := hM1.1
  refine lv_aload_n hx hb dL_law_823 rfl (lv_at hl 2 rfl) ?_
  refine lv_aload_n hx hb dL_law_824 rfl (lv_at hl 0 rfl) ?_
  refine lv_iload_n hx hb dL_law_825 rfl (lv_at hl 3 rfl) ?_
  refine lv_iconst (v := 1) hx hb dL_law_826 (by decide) ?_
  refine lv_iadd hx hb dL_law_827 ?_
  refine wg_topi (y := nI (i + 1)) (by rw [show (1 : Int32) = nI 1 from rfl, nI_add]) ?_
  refine va_sld hx hb hsc hbl hbA hS (vp_in_nI (n := i + 1) (by omega) (by omega)) dL_law_828 ?_
  refine wg_topi (y := xs (i + 1)) (by rw [nI_clamp (by omega)]) ?_
  refine lv_aload_n hx hb dL_law_829 rfl (lv_at hl 0 rfl) ?_
  refine lv_iload_n hx hb dL_law_830 rfl (lv_at hl 3 rfl) ?_
  refine lv_iconst (v := 2) hx hb dL_law_831 (by decide) ?_
  refine lv_iadd hx hb dL_law_832 ?_
  refine wg_topi (y := nI (i + 2)) (by rw [show (2 : Int32) = nI 2 from rfl, nI_add]) ?_
  refine va_sld hx hb hsc hbl hbA hS (vp_in_nI (n := i + 2) (by omega) (by omega)) dL_law_833 ?_
  refine wg_topi (y := xs (i + 2)) (by rw [nI_clamp (by omega)]) ?_
  refine lv_i2l (v := (xs (i + 2)).toInt64) hx hb dL_law_834 rfl ?_
  refine lv_bipush (v := 32) hx hb dL_law_835 (by decide) ?_
  refine lv_lshl (v := ((xs (i + 2)).toInt64) <<< ((32 : Int32).toInt64 &&& 63)) hx hb dL_law_837 rfl ?_
  refine lv_aload_n hx hb dL_law_838 rfl (lv_at hl 0 rfl) ?_
  refine lv_iload_n hx hb dL_law_839 rfl (lv_at hl 3 rfl) ?_
  refine lv_iconst (v := 3) hx hb dL_law_840 (by decide) ?_
  refine lv_iadd hx hb dL_law_841 ?_
  refine wg_topi (y := nI (i + 3)) (by rw [show (3 : Int32) = nI 3 from rfl, nI_add]) ?_
  refine va_sld hx hb hsc hbl hbA hS (vp_in_nI (n := i + 3) (by omega) (by omega)) dL_law_842 ?_
  refine wg_topi (y := xs (i + 3)) (by rw [nI_clamp (by omega)]) ?_
  refine lv_i2l (v := (xs (i + 3)).toInt64) hx hb dL_law_843 rfl ?_
  refine lv_ldc2 (v := 4294967295) hx hb hown (hts _ tb_807) dL_law_844 ?_
  refine lv_land hx hb dL_law_847 ?_
  refine lv_lor hx hb dL_law_848 ?_
  refine wg_cl_ hS (wg_rV (As := [.int (xs (i + 1)), .long ((((xs (i + 2)).toInt64) <<< ((32 : Int32).toInt64 &&& 63)) ||| (((xs (i + 3)).toInt64) &&& 4294967295))]) (rest := [.long r_820]) F hP hS (c_X8_leaf l E A C_820 S (xs (i + 1)) ((((xs (i + 2)).toInt64) <<< ((32 : Int32).toInt64 &&& 63)) ||| (((xs (i + 3)).toInt64) &&& 4294967295)) hM1 hI) ok_X8_leaf tb_758 rfl rfl ⟨Nat.le_of_ble_eq_true rfl, Nat.le_of_ble_eq_true rfl⟩ mo1 rfl rfl rfl hl.1 rfl (Nat.le_of_ble_eq_true rfl) dL_law_849 ⟨by show _ ≤ 600000; omega, by show _ ≤ 7302250; omega⟩) (fun r_849 A1 C_849 H locs w_849 hP hS => ?_)
  obtain ⟨rfl, w_849, hM2, hk2⟩ := w_849
  have hX2 : lx E A C_849 ((op_leaf S (xs (i + 1)) ((((xs (i + 2)).toInt64) <<< ((32 : Int32).toInt64 &&& 63)) ||| (((xs (i + 3)).toInt64) &&& 4294967295))).2) := lx_at hX1 hk2
  refine W.lcmp hx hb dL_law_852 ?_
  refine lv_if_eq (tgt := 1195) hx hb dL_law_853 (by decide) (fun c_853 => ?_) (fun c_853 => ?_)
  · refine W.widen (k := i + 8 + 100) (n := i + 8 + 3000) (by omega) (by omega) ?_
    exact kk A C_849 ((op_leaf S (xs (i + 1)) ((((xs (i + 2)).toInt64) <<< ((32 : Int32).toInt64 &&& 63)) ||| (((xs (i + 3)).toInt64) &&& 4294967295))).2) _ _ _ hX2 hM2 (op_leaf_inv hI) hP hS hl
  · exact absurd ((lg_cmp_eq _ _).mpr (w_820.trans w_849.symm)) c_853
set_option maxHeartbeats 4000000 in
set_option maxRecDepth 100000 in
theorem law_tree : lw_case 858 := by
  intro p l e s m below meth c E b L xs hL C0 hE F A C S i H locs ls hX hM hI hi hP hS hl kk
  have hx := F.1
  have hb := F.2.1
  have hml := F.2.2.1
  have hown := F.2.2.2.1
  have hts := F.2.2.2.2.1
  obtain ⟨-, -, -, -, -, -, hsc, hbl, -, -⟩ := C0
  have hbA : ¬ wg_A E b := by show ¬ E.2.2.1 ≤ b; rw [hE]; exact Nat.not_le.mpr hbl
  have x0 : C 0 = some (.inr (7, [.ref (A 1), .int (nI (lc_ns (st_B S))), .ref (A 2), .ref (A 4), .ref (A 5), .ref (A 6), .ref (A 7), .ref (A 8), .ref (A 11)])) := hX.1
  have mo : C 1000 = some (.inr (8, [.int (nI (lc_ns (st_B S))), .ref (A 1001), .int (nI (lc_nh (st_B S))), .ref (A 1003), .ref (A 1004), .ref (A 1005), .ref (A 1006), .ref (A 1007), .ref (A 1008), .ref (A 1009), .ref (A 1010), .ref (A 1011), .ref (A 1012), .ref (A 1013), .ref (A 1014), .ref (A 1015), .ref (A 1016), .ref (A 1017), .ref (A 1018), .int (nI (st_pa S)), .int (nI (st_pb S)), .long (st_va S), .long (st_vb S), .int (nI (st_ct S)), .ref (A 1024), .ref (A 1025), .ref (A 1026), .ref (A 1027), .ref (A 1028)])) := hM.1
  refine lv_aload_n hx hb dL_law_858 rfl (lv_at hl 1 rfl) ?_
  refine lv_aload_n hx hb dL_law_859 rfl (lv_at hl 0 rfl) ?_
  refine lv_iload_n hx hb dL_law_860 rfl (lv_at hl 3 rfl) ?_
  refine lv_iconst (v := 1) hx hb dL_law_861 (by decide) ?_
  refine lv_iadd hx hb dL_law_862 ?_
  refine wg_topi (y := nI (i + 1)) (by rw [show (1 : Int32) = nI 1 from rfl, nI_add]) ?_
  refine va_sld hx hb hsc hbl hbA hS (vp_in_nI (n := i + 1) (by omega) (by omega)) dL_law_863 ?_
  refine wg_topi (y := xs (i + 1)) (by rw [nI_clamp (by omega)]) ?_
  refine wg_cl_ hS (wg_rV (As := [.int (xs (i + 1))]) (rest := []) F hP hS (c_X7_tree l E A C S (xs (i + 1)) hX hI) ok_X7_tree tb_447 rfl rfl ⟨Nat.le_of_ble_eq_true rfl, Nat.le_of_ble_eq_true rfl⟩ x0 rfl rfl rfl hl.1 rfl (Nat.le_of_ble_eq_true rfl) dL_law_864 ⟨by show _ ≤ 600000; omega, by show _ ≤ 7302250; omega⟩) (fun r_864 A1 C_864 H locs w_864 hP hS => ?_)
  obtain ⟨w_864, rfl, rfl⟩ := w_864
  refine lv_aload_n hx hb dL_law_867 rfl (lv_at hl 2 rfl) ?_
  refine lv_aload_n hx hb dL_law_868 rfl (lv_at hl 0 rfl) ?_
  refine lv_iload_n hx hb dL_law_869 rfl (lv_at hl 3 rfl) ?_
  refine lv_iconst (v := 1) hx hb dL_law_870 (by decide) ?_
  refine lv_iadd hx hb dL_law_871 ?_
  refine wg_topi (y := nI (i + 1)) (by rw [show (1 : Int32) = nI 1 from rfl, nI_add]) ?_
  refine va_sld hx hb hsc hbl hbA hS (vp_in_nI (n := i + 1) (by omega) (by omega)) dL_law_872 ?_
  refine wg_topi (y := xs (i + 1)) (by rw [nI_clamp (by omega)]) ?_
  refine wg_cl_ hS (wg_rV (As := [.int (xs (i + 1))]) (rest := [.long r_864]) F hP hS (c_X8_tree l E A C S (xs (i + 1)) hM hI) ok_X8_tree tb_762 rfl rfl ⟨Nat.le_of_ble_eq_true rfl, Nat.le_of_ble_eq_true rfl⟩ mo rfl rfl rfl hl.1 rfl (Nat.le_of_ble_eq_true rfl) dL_law_873 ⟨by show _ ≤ 600000; omega, by show _ ≤ 7302250; omega⟩) (fun r_873 A1 C_873 H locs w_873 hP hS => ?_)
  obtain ⟨rfl, w_873, hM2, hk2⟩ := w_873
  have hX2 : lx E A C_873 S := lx_at hX hk2
  refine W.lcmp hx hb dL_law_876 ?_
  refine lv_if_eq (tgt := 1195) hx hb dL_law_877 (by decide) (fun c_877 => ?_) (fun c_877 => ?_)
  · refine W.widen (k := i + 8 + 100) (n := i + 8 + 3000) (by omega) (by omega) ?_
    exact kk A C_873 S _ _ _ hX2 hM2 hI hP hS hl
  · exact absurd ((lg_cmp_eq _ _).mpr (w_864.trans w_873.symm)) c_877
set_option maxHeartbeats 4000000 in
set_option maxRecDepth 100000 in
theorem law_prove : lw_case 882 := by
  intro p l e s m below meth c E b L xs hL C0 hE F A C S i H locs ls hX hM hI hi hP hS hl kk
  have hx := F.1
  have hb := F.2.1
  have hml := F.2.2.1
  have hown := F.2.2.2.1
  have hts := F.2.2.2.2.1
  obtain ⟨-, -, -, -, -, -, hsc, hbl, -, -⟩ := C0
  have hbA : ¬ wg_A E b := by show ¬ E.2.2.1 ≤ b; rw [hE]; exact Nat.not_le.mpr hbl
  have x0 : C 0 = some (.inr (7, [.ref (A 1), .int (nI (lc_ns (st_B S))), .ref (A 2), .ref (A 4), .ref (A 5), .ref (A 6), .ref (A 7), .ref (A 8), .ref (A 11)])) := hX.1
  have mo : C 1000 = some (.inr (8, [.int (nI (lc_ns (st_B S))), .ref (A 1001), .int (nI (lc_nh (st_B S))), .ref (A 1003), .ref (A 1004), .ref (A 1005), .ref (A 1006), .ref (A 1007), .ref (A 1008), .ref (A 1009), .ref (A 1010), .ref (A 1011), .ref (A 1012), .ref (A 1013), .ref (A 1014), .ref (A 1015), .ref (A 1016), .ref (A 1017), .ref (A 1018), .int (nI (st_pa S)), .int (nI (st_pb S)), .long (st_va S), .long (st_vb S), .int (nI (st_ct S)), .ref (A 1024), .ref (A 1025), .ref (A 1026), .ref (A 1027), .ref (A 1028)])) := hM.1
  refine lv_aload_n hx hb dL_law_882 rfl (lv_at hl 1 rfl) ?_
  refine lv_aload_n hx hb dL_law_883 rfl (lv_at hl 0 rfl) ?_
  refine lv_iload_n hx hb dL_law_884 rfl (lv_at hl 3 rfl) ?_
  refine lv_iconst (v := 1) hx hb dL_law_885 (by decide) ?_
  refine lv_iadd hx hb dL_law_886 ?_
  refine wg_topi (y := nI (i + 1)) (by rw [show (1 : Int32) = nI 1 from rfl, nI_add]) ?_
  refine va_sld hx hb hsc hbl hbA hS (vp_in_nI (n := i + 1) (by omega) (by omega)) dL_law_887 ?_
  refine wg_topi (y := xs (i + 1)) (by rw [nI_clamp (by omega)]) ?_
  refine lv_aload_n hx hb dL_law_888 rfl (lv_at hl 0 rfl) ?_
  refine lv_iload_n hx hb dL_law_889 rfl (lv_at hl 3 rfl) ?_
  refine lv_iconst (v := 2) hx hb dL_law_890 (by decide) ?_
  refine lv_iadd hx hb dL_law_891 ?_
  refine wg_topi (y := nI (i + 2)) (by rw [show (2 : Int32) = nI 2 from rfl, nI_add]) ?_
  refine va_sld hx hb hsc hbl hbA hS (vp_in_nI (n := i + 2) (by omega) (by omega)) dL_law_892 ?_
  refine wg_topi (y := xs (i + 2)) (by rw [nI_clamp (by omega)]) ?_
  refine wg_ci hS (wg_rV (As := [.int (xs (i + 1)), .int (xs (i + 2))]) (rest := []) F hP hS (c_X7_prove l E A C S (xs (i + 1)) (xs (i + 2)) hX hI) ok_X7_prove tb_452 rfl rfl ⟨Nat.le_of_ble_eq_true rfl, Nat.le_of_ble_eq_true rfl⟩ x0 rfl rfl rfl hl.1 rfl (Nat.le_of_ble_eq_true rfl) dL_law_893 ⟨by show _ ≤ 600000; omega, by show _ ≤ 7302250; omega⟩) (fun r_893 A1 C_893 H locs w_893 hP hS => ?_)
  obtain ⟨rfl, w_893, hX1, hk1⟩ := w_893
  have hM1 : lm E A C_893 S := lm_at hM hk1
  have mo1 : C_893 1000 = some (.inr (8, [.int (nI (lc_ns (st_B S))), .ref (A 1001), .int (nI (lc_nh (st_B S))), .ref (A 1003), .ref (A 1004), .ref (A 1005), .ref (A 1006), .ref (A 1007), .ref (A 1008), .ref (A 1009), .ref (A 1010), .ref (A 1011), .ref (A 1012), .ref (A 1013), .ref (A 1014), .ref (A 1015), .ref (A 1016), .ref (A 1017), .ref (A 1018), .int (nI (st_pa S)), .int (nI (st_pb S)), .long (st_va S), .long (st_vb S), .int (nI (st_ct S)), .ref (A 1024), .ref (A 1025), .ref (A 1026), .ref (A 1027), .ref (A 1028)])) := hM1.1
  refine lv_aload_n hx hb dL_law_896 rfl (lv_at hl 2 rfl) ?_
  refine lv_aload_n hx hb dL_law_897 rfl (lv_at hl 0 rfl) ?_
  refine lv_iload_n hx hb dL_law_898 rfl (lv_at hl 3 rfl) ?_
  refine lv_iconst (v := 1) hx hb dL_law_899 (by decide) ?_
  refine lv_iadd hx hb dL_law_900 ?_
  refine wg_topi (y := nI (i + 1)) (by rw [show (1 : Int32) = nI 1 from rfl, nI_add]) ?_
  refine va_sld hx hb hsc hbl hbA hS (vp_in_nI (n := i + 1) (by omega) (by omega)) dL_law_901 ?_
  refine wg_topi (y := xs (i + 1)) (by rw [nI_clamp (by omega)]) ?_
  refine lv_aload_n hx hb dL_law_902 rfl (lv_at hl 0 rfl) ?_
  refine lv_iload_n hx hb dL_law_903 rfl (lv_at hl 3 rfl) ?_
  refine lv_iconst (v := 2) hx hb dL_law_904 (by decide) ?_
  refine lv_iadd hx hb dL_law_905 ?_
  refine wg_topi (y := nI (i + 2)) (by rw [show (2 : Int32) = nI 2 from rfl, nI_add]) ?_
  refine va_sld hx hb hsc hbl hbA hS (vp_in_nI (n := i + 2) (by omega) (by omega)) dL_law_906 ?_
  refine wg_topi (y := xs (i + 2)) (by rw [nI_clamp (by omega)]) ?_
  refine wg_ci hS (wg_rV (As := [.int (xs (i + 1)), .int (xs (i + 2))]) (rest := [.int r_893]) F hP hS (c_X8_prove l E A C_893 S (xs (i + 1)) (xs (i + 2)) hM1 hI) ok_X8_prove tb_767 rfl rfl ⟨Nat.le_of_ble_eq_true rfl, Nat.le_of_ble_eq_true rfl⟩ mo1 rfl rfl rfl hl.1 rfl (Nat.le_of_ble_eq_true rfl) dL_law_907 ⟨by show _ ≤ 600000; omega, by show _ ≤ 7302250; omega⟩) (fun r_907 A1 C_907 H locs w_907 hP hS => ?_)
  obtain ⟨rfl, w_907, hM2, hk2⟩ := w_907
  have hX2 : lx E A C_907 ((op_prove S (xs (i + 1)) (xs (i + 2))).2) := lx_at hX1 hk2
  refine lv_icmp_eq (tgt := 1195) hx hb dL_law_910 (by decide) (fun c_910 => ?_) (fun c_910 => ?_)
  · refine W.widen (k := i + 8 + 100) (n := i + 8 + 3000) (by omega) (by omega) ?_
    exact kk A C_907 ((op_prove S (xs (i + 1)) (xs (i + 2))).2) _ _ _ hX2 hM2 (op_prove_inv hI) hP hS hl
  · exact absurd (w_893.trans w_907.symm) c_910
set_option maxHeartbeats 4000000 in
set_option maxRecDepth 100000 in
theorem law_proof : lw_case 915 := by
  intro p l e s m below meth c E b L xs hL C0 hE F A C S i H locs ls hX hM hI hi hP hS hl kk
  have hx := F.1
  have hb := F.2.1
  have hml := F.2.2.1
  have hown := F.2.2.2.1
  have hts := F.2.2.2.2.1
  obtain ⟨-, -, -, -, -, -, hsc, hbl, -, -⟩ := C0
  have hbA : ¬ wg_A E b := by show ¬ E.2.2.1 ≤ b; rw [hE]; exact Nat.not_le.mpr hbl
  have x0 : C 0 = some (.inr (7, [.ref (A 1), .int (nI (lc_ns (st_B S))), .ref (A 2), .ref (A 4), .ref (A 5), .ref (A 6), .ref (A 7), .ref (A 8), .ref (A 11)])) := hX.1
  have mo : C 1000 = some (.inr (8, [.int (nI (lc_ns (st_B S))), .ref (A 1001), .int (nI (lc_nh (st_B S))), .ref (A 1003), .ref (A 1004), .ref (A 1005), .ref (A 1006), .ref (A 1007), .ref (A 1008), .ref (A 1009), .ref (A 1010), .ref (A 1011), .ref (A 1012), .ref (A 1013), .ref (A 1014), .ref (A 1015), .ref (A 1016), .ref (A 1017), .ref (A 1018), .int (nI (st_pa S)), .int (nI (st_pb S)), .long (st_va S), .long (st_vb S), .int (nI (st_ct S)), .ref (A 1024), .ref (A 1025), .ref (A 1026), .ref (A 1027), .ref (A 1028)])) := hM.1
  refine lv_aload_n hx hb dL_law_915 rfl (lv_at hl 1 rfl) ?_
  refine lv_aload_n hx hb dL_law_916 rfl (lv_at hl 0 rfl) ?_
  refine lv_iload_n hx hb dL_law_917 rfl (lv_at hl 3 rfl) ?_
  refine lv_iconst (v := 1) hx hb dL_law_918 (by decide) ?_
  refine lv_iadd hx hb dL_law_919 ?_
  refine wg_topi (y := nI (i + 1)) (by rw [show (1 : Int32) = nI 1 from rfl, nI_add]) ?_
  refine va_sld hx hb hsc hbl hbA hS (vp_in_nI (n := i + 1) (by omega) (by omega)) dL_law_920 ?_
  refine wg_topi (y := xs (i + 1)) (by rw [nI_clamp (by omega)]) ?_
  refine wg_cl_ hS (wg_rV (As := [.int (xs (i + 1))]) (rest := []) F hP hS (c_X7_proof l E A C S (xs (i + 1)) hX hI) ok_X7_proof tb_457 rfl rfl ⟨Nat.le_of_ble_eq_true rfl, Nat.le_of_ble_eq_true rfl⟩ x0 rfl rfl rfl hl.1 rfl (Nat.le_of_ble_eq_true rfl) dL_law_921 ⟨by show _ ≤ 600000; omega, by show _ ≤ 7302250; omega⟩) (fun r_921 A1 C_921 H locs w_921 hP hS => ?_)
  obtain ⟨w_921, rfl, rfl⟩ := w_921
  refine lv_aload_n hx hb dL_law_924 rfl (lv_at hl 2 rfl) ?_
  refine lv_aload_n hx hb dL_law_925 rfl (lv_at hl 0 rfl) ?_
  refine lv_iload_n hx hb dL_law_926 rfl (lv_at hl 3 rfl) ?_
  refine lv_iconst (v := 1) hx hb dL_law_927 (by decide) ?_
  refine lv_iadd hx hb dL_law_928 ?_
  refine wg_topi (y := nI (i + 1)) (by rw [show (1 : Int32) = nI 1 from rfl, nI_add]) ?_
  refine va_sld hx hb hsc hbl hbA hS (vp_in_nI (n := i + 1) (by omega) (by omega)) dL_law_929 ?_
  refine wg_topi (y := xs (i + 1)) (by rw [nI_clamp (by omega)]) ?_
  refine wg_cl_ hS (wg_rV (As := [.int (xs (i + 1))]) (rest := [.long r_921]) F hP hS (c_X8_proof l E A C S (xs (i + 1)) hM hI) ok_X8_proof tb_768 rfl rfl ⟨Nat.le_of_ble_eq_true rfl, Nat.le_of_ble_eq_true rfl⟩ mo rfl rfl rfl hl.1 rfl (Nat.le_of_ble_eq_true rfl) dL_law_930 ⟨by show _ ≤ 600000; omega, by show _ ≤ 7302250; omega⟩) (fun r_930 A1 C_930 H locs w_930 hP hS => ?_)
  obtain ⟨w_930, rfl, rfl⟩ := w_930
  refine W.lcmp hx hb dL_law_933 ?_
  refine lv_if_eq (tgt := 1195) hx hb dL_law_934 (by decide) (fun c_934 => ?_) (fun c_934 => ?_)
  · refine W.widen (k := i + 8 + 100) (n := i + 8 + 3000) (by omega) (by omega) ?_
    exact kk A C S _ _ _ hX hM hI hP hS hl
  · exact absurd ((lg_cmp_eq _ _).mpr (w_921.trans w_930.symm)) c_934
set_option maxHeartbeats 4000000 in
set_option maxRecDepth 100000 in
theorem law_alter : lw_case 939 := by
  intro p l e s m below meth c E b L xs hL C0 hE F A C S i H locs ls hX hM hI hi hP hS hl kk
  have hx := F.1
  have hb := F.2.1
  have hml := F.2.2.1
  have hown := F.2.2.2.1
  have hts := F.2.2.2.2.1
  obtain ⟨-, -, -, -, -, -, hsc, hbl, -, -⟩ := C0
  have hbA : ¬ wg_A E b := by show ¬ E.2.2.1 ≤ b; rw [hE]; exact Nat.not_le.mpr hbl
  have x0 : C 0 = some (.inr (7, [.ref (A 1), .int (nI (lc_ns (st_B S))), .ref (A 2), .ref (A 4), .ref (A 5), .ref (A 6), .ref (A 7), .ref (A 8), .ref (A 11)])) := hX.1
  have mo : C 1000 = some (.inr (8, [.int (nI (lc_ns (st_B S))), .ref (A 1001), .int (nI (lc_nh (st_B S))), .ref (A 1003), .ref (A 1004), .ref (A 1005), .ref (A 1006), .ref (A 1007), .ref (A 1008), .ref (A 1009), .ref (A 1010), .ref (A 1011), .ref (A 1012), .ref (A 1013), .ref (A 1014), .ref (A 1015), .ref (A 1016), .ref (A 1017), .ref (A 1018), .int (nI (st_pa S)), .int (nI (st_pb S)), .long (st_va S), .long (st_vb S), .int (nI (st_ct S)), .ref (A 1024), .ref (A 1025), .ref (A 1026), .ref (A 1027), .ref (A 1028)])) := hM.1
  refine lv_aload_n hx hb dL_law_939 rfl (lv_at hl 1 rfl) ?_
  refine lv_aload_n hx hb dL_law_940 rfl (lv_at hl 0 rfl) ?_
  refine lv_iload_n hx hb dL_law_941 rfl (lv_at hl 3 rfl) ?_
  refine lv_iconst (v := 1) hx hb dL_law_942 (by decide) ?_
  refine lv_iadd hx hb dL_law_943 ?_
  refine wg_topi (y := nI (i + 1)) (by rw [show (1 : Int32) = nI 1 from rfl, nI_add]) ?_
  refine va_sld hx hb hsc hbl hbA hS (vp_in_nI (n := i + 1) (by omega) (by omega)) dL_law_944 ?_
  refine wg_topi (y := xs (i + 1)) (by rw [nI_clamp (by omega)]) ?_
  refine lv_aload_n hx hb dL_law_945 rfl (lv_at hl 0 rfl) ?_
  refine lv_iload_n hx hb dL_law_946 rfl (lv_at hl 3 rfl) ?_
  refine lv_iconst (v := 2) hx hb dL_law_947 (by decide) ?_
  refine lv_iadd hx hb dL_law_948 ?_
  refine wg_topi (y := nI (i + 2)) (by rw [show (2 : Int32) = nI 2 from rfl, nI_add]) ?_
  refine va_sld hx hb hsc hbl hbA hS (vp_in_nI (n := i + 2) (by omega) (by omega)) dL_law_949 ?_
  refine wg_topi (y := xs (i + 2)) (by rw [nI_clamp (by omega)]) ?_
  refine lv_i2l (v := (xs (i + 2)).toInt64) hx hb dL_law_950 rfl ?_
  refine lv_bipush (v := 32) hx hb dL_law_951 (by decide) ?_
  refine lv_lshl (v := ((xs (i + 2)).toInt64) <<< ((32 : Int32).toInt64 &&& 63)) hx hb dL_law_953 rfl ?_
  refine lv_aload_n hx hb dL_law_954 rfl (lv_at hl 0 rfl) ?_
  refine lv_iload_n hx hb dL_law_955 rfl (lv_at hl 3 rfl) ?_
  refine lv_iconst (v := 3) hx hb dL_law_956 (by decide) ?_
  refine lv_iadd hx hb dL_law_957 ?_
  refine wg_topi (y := nI (i + 3)) (by rw [show (3 : Int32) = nI 3 from rfl, nI_add]) ?_
  refine va_sld hx hb hsc hbl hbA hS (vp_in_nI (n := i + 3) (by omega) (by omega)) dL_law_958 ?_
  refine wg_topi (y := xs (i + 3)) (by rw [nI_clamp (by omega)]) ?_
  refine lv_i2l (v := (xs (i + 3)).toInt64) hx hb dL_law_959 rfl ?_
  refine lv_ldc2 (v := 4294967295) hx hb hown (hts _ tb_807) dL_law_960 ?_
  refine lv_land hx hb dL_law_963 ?_
  refine lv_lor hx hb dL_law_964 ?_
  refine wg_ci hS (wg_rV (As := [.int (xs (i + 1)), .long ((((xs (i + 2)).toInt64) <<< ((32 : Int32).toInt64 &&& 63)) ||| (((xs (i + 3)).toInt64) &&& 4294967295))]) (rest := []) F hP hS (c_X7_alter l E A C S (xs (i + 1)) ((((xs (i + 2)).toInt64) <<< ((32 : Int32).toInt64 &&& 63)) ||| (((xs (i + 3)).toInt64) &&& 4294967295)) hX hI) ok_X7_alter tb_469 rfl rfl ⟨Nat.le_of_ble_eq_true rfl, Nat.le_of_ble_eq_true rfl⟩ x0 rfl rfl rfl hl.1 rfl (Nat.le_of_ble_eq_true rfl) dL_law_965 ⟨by show _ ≤ 600000; omega, by show _ ≤ 7302250; omega⟩) (fun r_965 A1 C_965 H locs w_965 hP hS => ?_)
  obtain ⟨rfl, w_965, hX1, hk1⟩ := w_965
  have hM1 : lm E A C_965 S := lm_at hM hk1
  have mo1 : C_965 1000 = some (.inr (8, [.int (nI (lc_ns (st_B S))), .ref (A 1001), .int (nI (lc_nh (st_B S))), .ref (A 1003), .ref (A 1004), .ref (A 1005), .ref (A 1006), .ref (A 1007), .ref (A 1008), .ref (A 1009), .ref (A 1010), .ref (A 1011), .ref (A 1012), .ref (A 1013), .ref (A 1014), .ref (A 1015), .ref (A 1016), .ref (A 1017), .ref (A 1018), .int (nI (st_pa S)), .int (nI (st_pb S)), .long (st_va S), .long (st_vb S), .int (nI (st_ct S)), .ref (A 1024), .ref (A 1025), .ref (A 1026), .ref (A 1027), .ref (A 1028)])) := hM1.1
  refine lv_aload_n hx hb dL_law_968 rfl (lv_at hl 2 rfl) ?_
  refine lv_aload_n hx hb dL_law_969 rfl (lv_at hl 0 rfl) ?_
  refine lv_iload_n hx hb dL_law_970 rfl (lv_at hl 3 rfl) ?_
  refine lv_iconst (v := 1) hx hb dL_law_971 (by decide) ?_
  refine lv_iadd hx hb dL_law_972 ?_
  refine wg_topi (y := nI (i + 1)) (by rw [show (1 : Int32) = nI 1 from rfl, nI_add]) ?_
  refine va_sld hx hb hsc hbl hbA hS (vp_in_nI (n := i + 1) (by omega) (by omega)) dL_law_973 ?_
  refine wg_topi (y := xs (i + 1)) (by rw [nI_clamp (by omega)]) ?_
  refine lv_aload_n hx hb dL_law_974 rfl (lv_at hl 0 rfl) ?_
  refine lv_iload_n hx hb dL_law_975 rfl (lv_at hl 3 rfl) ?_
  refine lv_iconst (v := 2) hx hb dL_law_976 (by decide) ?_
  refine lv_iadd hx hb dL_law_977 ?_
  refine wg_topi (y := nI (i + 2)) (by rw [show (2 : Int32) = nI 2 from rfl, nI_add]) ?_
  refine va_sld hx hb hsc hbl hbA hS (vp_in_nI (n := i + 2) (by omega) (by omega)) dL_law_978 ?_
  refine wg_topi (y := xs (i + 2)) (by rw [nI_clamp (by omega)]) ?_
  refine lv_i2l (v := (xs (i + 2)).toInt64) hx hb dL_law_979 rfl ?_
  refine lv_bipush (v := 32) hx hb dL_law_980 (by decide) ?_
  refine lv_lshl (v := ((xs (i + 2)).toInt64) <<< ((32 : Int32).toInt64 &&& 63)) hx hb dL_law_982 rfl ?_
  refine lv_aload_n hx hb dL_law_983 rfl (lv_at hl 0 rfl) ?_
  refine lv_iload_n hx hb dL_law_984 rfl (lv_at hl 3 rfl) ?_
  refine lv_iconst (v := 3) hx hb dL_law_985 (by decide) ?_
  refine lv_iadd hx hb dL_law_986 ?_
  refine wg_topi (y := nI (i + 3)) (by rw [show (3 : Int32) = nI 3 from rfl, nI_add]) ?_
  refine va_sld hx hb hsc hbl hbA hS (vp_in_nI (n := i + 3) (by omega) (by omega)) dL_law_987 ?_
  refine wg_topi (y := xs (i + 3)) (by rw [nI_clamp (by omega)]) ?_
  refine lv_i2l (v := (xs (i + 3)).toInt64) hx hb dL_law_988 rfl ?_
  refine lv_ldc2 (v := 4294967295) hx hb hown (hts _ tb_807) dL_law_989 ?_
  refine lv_land hx hb dL_law_992 ?_
  refine lv_lor hx hb dL_law_993 ?_
  refine wg_ci hS (wg_rV (As := [.int (xs (i + 1)), .long ((((xs (i + 2)).toInt64) <<< ((32 : Int32).toInt64 &&& 63)) ||| (((xs (i + 3)).toInt64) &&& 4294967295))]) (rest := [.int r_965]) F hP hS (c_X8_alter l E A C_965 S (xs (i + 1)) ((((xs (i + 2)).toInt64) <<< ((32 : Int32).toInt64 &&& 63)) ||| (((xs (i + 3)).toInt64) &&& 4294967295)) hM1 hI) ok_X8_alter tb_773 rfl rfl ⟨Nat.le_of_ble_eq_true rfl, Nat.le_of_ble_eq_true rfl⟩ mo1 rfl rfl rfl hl.1 rfl (Nat.le_of_ble_eq_true rfl) dL_law_994 ⟨by show _ ≤ 600000; omega, by show _ ≤ 7302250; omega⟩) (fun r_994 A1 C_994 H locs w_994 hP hS => ?_)
  obtain ⟨rfl, w_994, hM2, hk2⟩ := w_994
  have hX2 : lx E A C_994 ((op_alter S (xs (i + 1)) ((((xs (i + 2)).toInt64) <<< ((32 : Int32).toInt64 &&& 63)) ||| (((xs (i + 3)).toInt64) &&& 4294967295))).2) := lx_at hX1 hk2
  refine lv_icmp_eq (tgt := 1195) hx hb dL_law_997 (by decide) (fun c_997 => ?_) (fun c_997 => ?_)
  · refine W.widen (k := i + 8 + 100) (n := i + 8 + 3000) (by omega) (by omega) ?_
    exact kk A C_994 ((op_alter S (xs (i + 1)) ((((xs (i + 2)).toInt64) <<< ((32 : Int32).toInt64 &&& 63)) ||| (((xs (i + 3)).toInt64) &&& 4294967295))).2) _ _ _ hX2 hM2 (op_alter_inv hI) hP hS hl
  · exact absurd (w_965.trans w_994.symm) c_997
set_option maxHeartbeats 4000000 in
set_option maxRecDepth 100000 in
theorem law_fraud : lw_case 1002 := by
  intro p l e s m below meth c E b L xs hL C0 hE F A C S i H locs ls hX hM hI hi hP hS hl kk
  have hx := F.1
  have hb := F.2.1
  have hml := F.2.2.1
  have hown := F.2.2.2.1
  have hts := F.2.2.2.2.1
  obtain ⟨-, -, -, -, -, -, hsc, hbl, -, -⟩ := C0
  have hbA : ¬ wg_A E b := by show ¬ E.2.2.1 ≤ b; rw [hE]; exact Nat.not_le.mpr hbl
  have x0 : C 0 = some (.inr (7, [.ref (A 1), .int (nI (lc_ns (st_B S))), .ref (A 2), .ref (A 4), .ref (A 5), .ref (A 6), .ref (A 7), .ref (A 8), .ref (A 11)])) := hX.1
  have mo : C 1000 = some (.inr (8, [.int (nI (lc_ns (st_B S))), .ref (A 1001), .int (nI (lc_nh (st_B S))), .ref (A 1003), .ref (A 1004), .ref (A 1005), .ref (A 1006), .ref (A 1007), .ref (A 1008), .ref (A 1009), .ref (A 1010), .ref (A 1011), .ref (A 1012), .ref (A 1013), .ref (A 1014), .ref (A 1015), .ref (A 1016), .ref (A 1017), .ref (A 1018), .int (nI (st_pa S)), .int (nI (st_pb S)), .long (st_va S), .long (st_vb S), .int (nI (st_ct S)), .ref (A 1024), .ref (A 1025), .ref (A 1026), .ref (A 1027), .ref (A 1028)])) := hM.1
  refine lv_aload_n hx hb dL_law_1002 rfl (lv_at hl 1 rfl) ?_
  refine lv_aload_n hx hb dL_law_1003 rfl (lv_at hl 0 rfl) ?_
  refine lv_iload_n hx hb dL_law_1004 rfl (lv_at hl 3 rfl) ?_
  refine lv_iconst (v := 1) hx hb dL_law_1005 (by decide) ?_
  refine lv_iadd hx hb dL_law_1006 ?_
  refine wg_topi (y := nI (i + 1)) (by rw [show (1 : Int32) = nI 1 from rfl, nI_add]) ?_
  refine va_sld hx hb hsc hbl hbA hS (vp_in_nI (n := i + 1) (by omega) (by omega)) dL_law_1007 ?_
  refine wg_topi (y := xs (i + 1)) (by rw [nI_clamp (by omega)]) ?_
  refine lv_aload_n hx hb dL_law_1008 rfl (lv_at hl 0 rfl) ?_
  refine lv_iload_n hx hb dL_law_1009 rfl (lv_at hl 3 rfl) ?_
  refine lv_iconst (v := 2) hx hb dL_law_1010 (by decide) ?_
  refine lv_iadd hx hb dL_law_1011 ?_
  refine wg_topi (y := nI (i + 2)) (by rw [show (2 : Int32) = nI 2 from rfl, nI_add]) ?_
  refine va_sld hx hb hsc hbl hbA hS (vp_in_nI (n := i + 2) (by omega) (by omega)) dL_law_1012 ?_
  refine wg_topi (y := xs (i + 2)) (by rw [nI_clamp (by omega)]) ?_
  refine lv_aload_n hx hb dL_law_1013 rfl (lv_at hl 0 rfl) ?_
  refine lv_iload_n hx hb dL_law_1014 rfl (lv_at hl 3 rfl) ?_
  refine lv_iconst (v := 3) hx hb dL_law_1015 (by decide) ?_
  refine lv_iadd hx hb dL_law_1016 ?_
  refine wg_topi (y := nI (i + 3)) (by rw [show (3 : Int32) = nI 3 from rfl, nI_add]) ?_
  refine va_sld hx hb hsc hbl hbA hS (vp_in_nI (n := i + 3) (by omega) (by omega)) dL_law_1017 ?_
  refine wg_topi (y := xs (i + 3)) (by rw [nI_clamp (by omega)]) ?_
  refine lv_i2l (v := (xs (i + 3)).toInt64) hx hb dL_law_1018 rfl ?_
  refine lv_bipush (v := 32) hx hb dL_law_1019 (by decide) ?_
  refine lv_lshl (v := ((xs (i + 3)).toInt64) <<< ((32 : Int32).toInt64 &&& 63)) hx hb dL_law_1021 rfl ?_
  refine lv_aload_n hx hb dL_law_1022 rfl (lv_at hl 0 rfl) ?_
  refine lv_iload_n hx hb dL_law_1023 rfl (lv_at hl 3 rfl) ?_
  refine lv_iconst (v := 4) hx hb dL_law_1024 (by decide) ?_
  refine lv_iadd hx hb dL_law_1025 ?_
  refine wg_topi (y := nI (i + 4)) (by rw [show (4 : Int32) = nI 4 from rfl, nI_add]) ?_
  refine va_sld hx hb hsc hbl hbA hS (vp_in_nI (n := i + 4) (by omega) (by omega)) dL_law_1026 ?_
  refine wg_topi (y := xs (i + 4)) (by rw [nI_clamp (by omega)]) ?_
  refine lv_i2l (v := (xs (i + 4)).toInt64) hx hb dL_law_1027 rfl ?_
  refine lv_ldc2 (v := 4294967295) hx hb hown (hts _ tb_807) dL_law_1028 ?_
  refine lv_land hx hb dL_law_1031 ?_
  refine lv_lor hx hb dL_law_1032 ?_
  refine wg_ci hS (wg_rV (As := [.int (xs (i + 1)), .int (xs (i + 2)), .long ((((xs (i + 3)).toInt64) <<< ((32 : Int32).toInt64 &&& 63)) ||| (((xs (i + 4)).toInt64) &&& 4294967295))]) (rest := []) F hP hS (c_X7_fraud l E A C S (xs (i + 1)) (xs (i + 2)) ((((xs (i + 3)).toInt64) <<< ((32 : Int32).toInt64 &&& 63)) ||| (((xs (i + 4)).toInt64) &&& 4294967295)) hX hI) ok_X7_fraud tb_477 rfl rfl ⟨Nat.le_of_ble_eq_true rfl, Nat.le_of_ble_eq_true rfl⟩ x0 rfl rfl rfl hl.1 rfl (Nat.le_of_ble_eq_true rfl) dL_law_1033 ⟨by show _ ≤ 600000; omega, by show _ ≤ 7302250; omega⟩) (fun r_1033 A1 C_1033 H locs w_1033 hP hS => ?_)
  obtain ⟨rfl, w_1033, hX1, hk1⟩ := w_1033
  have hM1 : lm E A C_1033 S := lm_at hM hk1
  have mo1 : C_1033 1000 = some (.inr (8, [.int (nI (lc_ns (st_B S))), .ref (A 1001), .int (nI (lc_nh (st_B S))), .ref (A 1003), .ref (A 1004), .ref (A 1005), .ref (A 1006), .ref (A 1007), .ref (A 1008), .ref (A 1009), .ref (A 1010), .ref (A 1011), .ref (A 1012), .ref (A 1013), .ref (A 1014), .ref (A 1015), .ref (A 1016), .ref (A 1017), .ref (A 1018), .int (nI (st_pa S)), .int (nI (st_pb S)), .long (st_va S), .long (st_vb S), .int (nI (st_ct S)), .ref (A 1024), .ref (A 1025), .ref (A 1026), .ref (A 1027), .ref (A 1028)])) := hM1.1
  refine lv_aload_n hx hb dL_law_1036 rfl (lv_at hl 2 rfl) ?_
  refine lv_aload_n hx hb dL_law_1037 rfl (lv_at hl 0 rfl) ?_
  refine lv_iload_n hx hb dL_law_1038 rfl (lv_at hl 3 rfl) ?_
  refine lv_iconst (v := 1) hx hb dL_law_1039 (by decide) ?_
  refine lv_iadd hx hb dL_law_1040 ?_
  refine wg_topi (y := nI (i + 1)) (by rw [show (1 : Int32) = nI 1 from rfl, nI_add]) ?_
  refine va_sld hx hb hsc hbl hbA hS (vp_in_nI (n := i + 1) (by omega) (by omega)) dL_law_1041 ?_
  refine wg_topi (y := xs (i + 1)) (by rw [nI_clamp (by omega)]) ?_
  refine lv_aload_n hx hb dL_law_1042 rfl (lv_at hl 0 rfl) ?_
  refine lv_iload_n hx hb dL_law_1043 rfl (lv_at hl 3 rfl) ?_
  refine lv_iconst (v := 2) hx hb dL_law_1044 (by decide) ?_
  refine lv_iadd hx hb dL_law_1045 ?_
  refine wg_topi (y := nI (i + 2)) (by rw [show (2 : Int32) = nI 2 from rfl, nI_add]) ?_
  refine va_sld hx hb hsc hbl hbA hS (vp_in_nI (n := i + 2) (by omega) (by omega)) dL_law_1046 ?_
  refine wg_topi (y := xs (i + 2)) (by rw [nI_clamp (by omega)]) ?_
  refine lv_aload_n hx hb dL_law_1047 rfl (lv_at hl 0 rfl) ?_
  refine lv_iload_n hx hb dL_law_1048 rfl (lv_at hl 3 rfl) ?_
  refine lv_iconst (v := 3) hx hb dL_law_1049 (by decide) ?_
  refine lv_iadd hx hb dL_law_1050 ?_
  refine wg_topi (y := nI (i + 3)) (by rw [show (3 : Int32) = nI 3 from rfl, nI_add]) ?_
  refine va_sld hx hb hsc hbl hbA hS (vp_in_nI (n := i + 3) (by omega) (by omega)) dL_law_1051 ?_
  refine wg_topi (y := xs (i + 3)) (by rw [nI_clamp (by omega)]) ?_
  refine lv_i2l (v := (xs (i + 3)).toInt64) hx hb dL_law_1052 rfl ?_
  refine lv_bipush (v := 32) hx hb dL_law_1053 (by decide) ?_
  refine lv_lshl (v := ((xs (i + 3)).toInt64) <<< ((32 : Int32).toInt64 &&& 63)) hx hb dL_law_1055 rfl ?_
  refine lv_aload_n hx hb dL_law_1056 rfl (lv_at hl 0 rfl) ?_
  refine lv_iload_n hx hb dL_law_1057 rfl (lv_at hl 3 rfl) ?_
  refine lv_iconst (v := 4) hx hb dL_law_1058 (by decide) ?_
  refine lv_iadd hx hb dL_law_1059 ?_
  refine wg_topi (y := nI (i + 4)) (by rw [show (4 : Int32) = nI 4 from rfl, nI_add]) ?_
  refine va_sld hx hb hsc hbl hbA hS (vp_in_nI (n := i + 4) (by omega) (by omega)) dL_law_1060 ?_
  refine wg_topi (y := xs (i + 4)) (by rw [nI_clamp (by omega)]) ?_
  refine lv_i2l (v := (xs (i + 4)).toInt64) hx hb dL_law_1061 rfl ?_
  refine lv_ldc2 (v := 4294967295) hx hb hown (hts _ tb_807) dL_law_1062 ?_
  refine lv_land hx hb dL_law_1065 ?_
  refine lv_lor hx hb dL_law_1066 ?_
  refine wg_ci hS (wg_rV (As := [.int (xs (i + 1)), .int (xs (i + 2)), .long ((((xs (i + 3)).toInt64) <<< ((32 : Int32).toInt64 &&& 63)) ||| (((xs (i + 4)).toInt64) &&& 4294967295))]) (rest := [.int r_1033]) F hP hS (c_X8_fraud l E A C_1033 S (xs (i + 1)) (xs (i + 2)) ((((xs (i + 3)).toInt64) <<< ((32 : Int32).toInt64 &&& 63)) ||| (((xs (i + 4)).toInt64) &&& 4294967295)) hM1 hI) ok_X8_fraud tb_777 rfl rfl ⟨Nat.le_of_ble_eq_true rfl, Nat.le_of_ble_eq_true rfl⟩ mo1 rfl rfl rfl hl.1 rfl (Nat.le_of_ble_eq_true rfl) dL_law_1067 ⟨by show _ ≤ 600000; omega, by show _ ≤ 7302250; omega⟩) (fun r_1067 A1 C_1067 H locs w_1067 hP hS => ?_)
  obtain ⟨rfl, w_1067, hM2, hk2⟩ := w_1067
  have hX2 : lx E A C_1067 S := lx_at hX1 hk2
  refine lv_icmp_eq (tgt := 1195) hx hb dL_law_1070 (by decide) (fun c_1070 => ?_) (fun c_1070 => ?_)
  · refine W.widen (k := i + 8 + 100) (n := i + 8 + 3000) (by omega) (by omega) ?_
    exact kk A C_1067 S _ _ _ hX2 hM2 hI hP hS hl
  · exact absurd (w_1033.trans w_1067.symm) c_1070
set_option maxHeartbeats 4000000 in
set_option maxRecDepth 100000 in
theorem law_chance : lw_case 1075 := by
  intro p l e s m below meth c E b L xs hL C0 hE F A C S i H locs ls hX hM hI hi hP hS hl kk
  have hx := F.1
  have hb := F.2.1
  have hml := F.2.2.1
  have hown := F.2.2.2.1
  have hts := F.2.2.2.2.1
  obtain ⟨-, -, -, -, -, -, hsc, hbl, -, -⟩ := C0
  have hbA : ¬ wg_A E b := by show ¬ E.2.2.1 ≤ b; rw [hE]; exact Nat.not_le.mpr hbl
  have x0 : C 0 = some (.inr (7, [.ref (A 1), .int (nI (lc_ns (st_B S))), .ref (A 2), .ref (A 4), .ref (A 5), .ref (A 6), .ref (A 7), .ref (A 8), .ref (A 11)])) := hX.1
  have mo : C 1000 = some (.inr (8, [.int (nI (lc_ns (st_B S))), .ref (A 1001), .int (nI (lc_nh (st_B S))), .ref (A 1003), .ref (A 1004), .ref (A 1005), .ref (A 1006), .ref (A 1007), .ref (A 1008), .ref (A 1009), .ref (A 1010), .ref (A 1011), .ref (A 1012), .ref (A 1013), .ref (A 1014), .ref (A 1015), .ref (A 1016), .ref (A 1017), .ref (A 1018), .int (nI (st_pa S)), .int (nI (st_pb S)), .long (st_va S), .long (st_vb S), .int (nI (st_ct S)), .ref (A 1024), .ref (A 1025), .ref (A 1026), .ref (A 1027), .ref (A 1028)])) := hM.1
  refine lv_aload_n hx hb dL_law_1075 rfl (lv_at hl 1 rfl) ?_
  refine lv_aload_n hx hb dL_law_1076 rfl (lv_at hl 0 rfl) ?_
  refine lv_iload_n hx hb dL_law_1077 rfl (lv_at hl 3 rfl) ?_
  refine lv_iconst (v := 1) hx hb dL_law_1078 (by decide) ?_
  refine lv_iadd hx hb dL_law_1079 ?_
  refine wg_topi (y := nI (i + 1)) (by rw [show (1 : Int32) = nI 1 from rfl, nI_add]) ?_
  refine va_sld hx hb hsc hbl hbA hS (vp_in_nI (n := i + 1) (by omega) (by omega)) dL_law_1080 ?_
  refine wg_topi (y := xs (i + 1)) (by rw [nI_clamp (by omega)]) ?_
  refine lv_aload_n hx hb dL_law_1081 rfl (lv_at hl 0 rfl) ?_
  refine lv_iload_n hx hb dL_law_1082 rfl (lv_at hl 3 rfl) ?_
  refine lv_iconst (v := 2) hx hb dL_law_1083 (by decide) ?_
  refine lv_iadd hx hb dL_law_1084 ?_
  refine wg_topi (y := nI (i + 2)) (by rw [show (2 : Int32) = nI 2 from rfl, nI_add]) ?_
  refine va_sld hx hb hsc hbl hbA hS (vp_in_nI (n := i + 2) (by omega) (by omega)) dL_law_1085 ?_
  refine wg_topi (y := xs (i + 2)) (by rw [nI_clamp (by omega)]) ?_
  refine lv_aload_n hx hb dL_law_1086 rfl (lv_at hl 0 rfl) ?_
  refine lv_iload_n hx hb dL_law_1087 rfl (lv_at hl 3 rfl) ?_
  refine lv_iconst (v := 3) hx hb dL_law_1088 (by decide) ?_
  refine lv_iadd hx hb dL_law_1089 ?_
  refine wg_topi (y := nI (i + 3)) (by rw [show (3 : Int32) = nI 3 from rfl, nI_add]) ?_
  refine va_sld hx hb hsc hbl hbA hS (vp_in_nI (n := i + 3) (by omega) (by omega)) dL_law_1090 ?_
  refine wg_topi (y := xs (i + 3)) (by rw [nI_clamp (by omega)]) ?_
  refine lv_aload_n hx hb dL_law_1091 rfl (lv_at hl 0 rfl) ?_
  refine lv_iload_n hx hb dL_law_1092 rfl (lv_at hl 3 rfl) ?_
  refine lv_iconst (v := 4) hx hb dL_law_1093 (by decide) ?_
  refine lv_iadd hx hb dL_law_1094 ?_
  refine wg_topi (y := nI (i + 4)) (by rw [show (4 : Int32) = nI 4 from rfl, nI_add]) ?_
  refine va_sld hx hb hsc hbl hbA hS (vp_in_nI (n := i + 4) (by omega) (by omega)) dL_law_1095 ?_
  refine wg_topi (y := xs (i + 4)) (by rw [nI_clamp (by omega)]) ?_
  refine wg_cl_ hS (wg_rV (As := [.int (xs (i + 1)), .int (xs (i + 2)), .int (xs (i + 3)), .int (xs (i + 4))]) (rest := []) F hP hS (c_X7_chance l E A C (xs (i + 1)) (xs (i + 2)) (xs (i + 3)) (xs (i + 4))) ok_X7_chance tb_496 rfl rfl ⟨Nat.le_of_ble_eq_true rfl, Nat.le_of_ble_eq_true rfl⟩ x0 rfl rfl rfl hl.1 rfl (Nat.le_of_ble_eq_true rfl) dL_law_1096 ⟨by show _ ≤ 600000; omega, by show _ ≤ 7302250; omega⟩) (fun r_1096 A1 C_1096 H locs w_1096 hP hS => ?_)
  obtain ⟨w_1096, rfl, rfl⟩ := w_1096
  refine lv_aload_n hx hb dL_law_1099 rfl (lv_at hl 2 rfl) ?_
  refine lv_aload_n hx hb dL_law_1100 rfl (lv_at hl 0 rfl) ?_
  refine lv_iload_n hx hb dL_law_1101 rfl (lv_at hl 3 rfl) ?_
  refine lv_iconst (v := 1) hx hb dL_law_1102 (by decide) ?_
  refine lv_iadd hx hb dL_law_1103 ?_
  refine wg_topi (y := nI (i + 1)) (by rw [show (1 : Int32) = nI 1 from rfl, nI_add]) ?_
  refine va_sld hx hb hsc hbl hbA hS (vp_in_nI (n := i + 1) (by omega) (by omega)) dL_law_1104 ?_
  refine wg_topi (y := xs (i + 1)) (by rw [nI_clamp (by omega)]) ?_
  refine lv_aload_n hx hb dL_law_1105 rfl (lv_at hl 0 rfl) ?_
  refine lv_iload_n hx hb dL_law_1106 rfl (lv_at hl 3 rfl) ?_
  refine lv_iconst (v := 2) hx hb dL_law_1107 (by decide) ?_
  refine lv_iadd hx hb dL_law_1108 ?_
  refine wg_topi (y := nI (i + 2)) (by rw [show (2 : Int32) = nI 2 from rfl, nI_add]) ?_
  refine va_sld hx hb hsc hbl hbA hS (vp_in_nI (n := i + 2) (by omega) (by omega)) dL_law_1109 ?_
  refine wg_topi (y := xs (i + 2)) (by rw [nI_clamp (by omega)]) ?_
  refine lv_aload_n hx hb dL_law_1110 rfl (lv_at hl 0 rfl) ?_
  refine lv_iload_n hx hb dL_law_1111 rfl (lv_at hl 3 rfl) ?_
  refine lv_iconst (v := 3) hx hb dL_law_1112 (by decide) ?_
  refine lv_iadd hx hb dL_law_1113 ?_
  refine wg_topi (y := nI (i + 3)) (by rw [show (3 : Int32) = nI 3 from rfl, nI_add]) ?_
  refine va_sld hx hb hsc hbl hbA hS (vp_in_nI (n := i + 3) (by omega) (by omega)) dL_law_1114 ?_
  refine wg_topi (y := xs (i + 3)) (by rw [nI_clamp (by omega)]) ?_
  refine lv_aload_n hx hb dL_law_1115 rfl (lv_at hl 0 rfl) ?_
  refine lv_iload_n hx hb dL_law_1116 rfl (lv_at hl 3 rfl) ?_
  refine lv_iconst (v := 4) hx hb dL_law_1117 (by decide) ?_
  refine lv_iadd hx hb dL_law_1118 ?_
  refine wg_topi (y := nI (i + 4)) (by rw [show (4 : Int32) = nI 4 from rfl, nI_add]) ?_
  refine va_sld hx hb hsc hbl hbA hS (vp_in_nI (n := i + 4) (by omega) (by omega)) dL_law_1119 ?_
  refine wg_topi (y := xs (i + 4)) (by rw [nI_clamp (by omega)]) ?_
  refine wg_cl_ hS (wg_rV (As := [.int (xs (i + 1)), .int (xs (i + 2)), .int (xs (i + 3)), .int (xs (i + 4))]) (rest := [.long r_1096]) F hP hS (c_X8_chance l E A C (xs (i + 1)) (xs (i + 2)) (xs (i + 3)) (xs (i + 4))) ok_X8_chance tb_785 rfl rfl ⟨Nat.le_of_ble_eq_true rfl, Nat.le_of_ble_eq_true rfl⟩ mo rfl rfl rfl hl.1 rfl (Nat.le_of_ble_eq_true rfl) dL_law_1120 ⟨by show _ ≤ 600000; omega, by show _ ≤ 7302250; omega⟩) (fun r_1120 A1 C_1120 H locs w_1120 hP hS => ?_)
  obtain ⟨w_1120, rfl, rfl⟩ := w_1120
  refine W.lcmp hx hb dL_law_1123 ?_
  refine lv_if_eq (tgt := 1195) hx hb dL_law_1124 (by decide) (fun c_1124 => ?_) (fun c_1124 => ?_)
  · refine W.widen (k := i + 8 + 100) (n := i + 8 + 3000) (by omega) (by omega) ?_
    exact kk A C S _ _ _ hX hM hI hP hS hl
  · exact absurd ((lg_cmp_eq _ _).mpr (w_1096.trans w_1120.symm)) c_1124
set_option maxHeartbeats 4000000 in
set_option maxRecDepth 100000 in
theorem law_samples : lw_case 1129 := by
  intro p l e s m below meth c E b L xs hL C0 hE F A C S i H locs ls hX hM hI hi hP hS hl kk
  have hx := F.1
  have hb := F.2.1
  have hml := F.2.2.1
  have hown := F.2.2.2.1
  have hts := F.2.2.2.2.1
  obtain ⟨-, -, -, -, -, -, hsc, hbl, -, -⟩ := C0
  have hbA : ¬ wg_A E b := by show ¬ E.2.2.1 ≤ b; rw [hE]; exact Nat.not_le.mpr hbl
  have x0 : C 0 = some (.inr (7, [.ref (A 1), .int (nI (lc_ns (st_B S))), .ref (A 2), .ref (A 4), .ref (A 5), .ref (A 6), .ref (A 7), .ref (A 8), .ref (A 11)])) := hX.1
  have mo : C 1000 = some (.inr (8, [.int (nI (lc_ns (st_B S))), .ref (A 1001), .int (nI (lc_nh (st_B S))), .ref (A 1003), .ref (A 1004), .ref (A 1005), .ref (A 1006), .ref (A 1007), .ref (A 1008), .ref (A 1009), .ref (A 1010), .ref (A 1011), .ref (A 1012), .ref (A 1013), .ref (A 1014), .ref (A 1015), .ref (A 1016), .ref (A 1017), .ref (A 1018), .int (nI (st_pa S)), .int (nI (st_pb S)), .long (st_va S), .long (st_vb S), .int (nI (st_ct S)), .ref (A 1024), .ref (A 1025), .ref (A 1026), .ref (A 1027), .ref (A 1028)])) := hM.1
  refine lv_aload_n hx hb dL_law_1129 rfl (lv_at hl 1 rfl) ?_
  refine lv_aload_n hx hb dL_law_1130 rfl (lv_at hl 0 rfl) ?_
  refine lv_iload_n hx hb dL_law_1131 rfl (lv_at hl 3 rfl) ?_
  refine lv_iconst (v := 1) hx hb dL_law_1132 (by decide) ?_
  refine lv_iadd hx hb dL_law_1133 ?_
  refine wg_topi (y := nI (i + 1)) (by rw [show (1 : Int32) = nI 1 from rfl, nI_add]) ?_
  refine va_sld hx hb hsc hbl hbA hS (vp_in_nI (n := i + 1) (by omega) (by omega)) dL_law_1134 ?_
  refine wg_topi (y := xs (i + 1)) (by rw [nI_clamp (by omega)]) ?_
  refine lv_aload_n hx hb dL_law_1135 rfl (lv_at hl 0 rfl) ?_
  refine lv_iload_n hx hb dL_law_1136 rfl (lv_at hl 3 rfl) ?_
  refine lv_iconst (v := 2) hx hb dL_law_1137 (by decide) ?_
  refine lv_iadd hx hb dL_law_1138 ?_
  refine wg_topi (y := nI (i + 2)) (by rw [show (2 : Int32) = nI 2 from rfl, nI_add]) ?_
  refine va_sld hx hb hsc hbl hbA hS (vp_in_nI (n := i + 2) (by omega) (by omega)) dL_law_1139 ?_
  refine wg_topi (y := xs (i + 2)) (by rw [nI_clamp (by omega)]) ?_
  refine lv_aload_n hx hb dL_law_1140 rfl (lv_at hl 0 rfl) ?_
  refine lv_iload_n hx hb dL_law_1141 rfl (lv_at hl 3 rfl) ?_
  refine lv_iconst (v := 3) hx hb dL_law_1142 (by decide) ?_
  refine lv_iadd hx hb dL_law_1143 ?_
  refine wg_topi (y := nI (i + 3)) (by rw [show (3 : Int32) = nI 3 from rfl, nI_add]) ?_
  refine va_sld hx hb hsc hbl hbA hS (vp_in_nI (n := i + 3) (by omega) (by omega)) dL_law_1144 ?_
  refine wg_topi (y := xs (i + 3)) (by rw [nI_clamp (by omega)]) ?_
  refine wg_ci hS (wg_rV (As := [.int (xs (i + 1)), .int (xs (i + 2)), .int (xs (i + 3))]) (rest := []) F hP hS (c_X7_samples l E A C (xs (i + 1)) (xs (i + 2)) (xs (i + 3))) ok_X7_samples tb_513 rfl rfl ⟨Nat.le_of_ble_eq_true rfl, Nat.le_of_ble_eq_true rfl⟩ x0 rfl rfl rfl hl.1 rfl (Nat.le_of_ble_eq_true rfl) dL_law_1145 ⟨by show _ ≤ 600000; omega, by show _ ≤ 7302250; omega⟩) (fun r_1145 A1 C_1145 H locs w_1145 hP hS => ?_)
  obtain ⟨w_1145, rfl, rfl⟩ := w_1145
  refine lv_aload_n hx hb dL_law_1148 rfl (lv_at hl 2 rfl) ?_
  refine lv_aload_n hx hb dL_law_1149 rfl (lv_at hl 0 rfl) ?_
  refine lv_iload_n hx hb dL_law_1150 rfl (lv_at hl 3 rfl) ?_
  refine lv_iconst (v := 1) hx hb dL_law_1151 (by decide) ?_
  refine lv_iadd hx hb dL_law_1152 ?_
  refine wg_topi (y := nI (i + 1)) (by rw [show (1 : Int32) = nI 1 from rfl, nI_add]) ?_
  refine va_sld hx hb hsc hbl hbA hS (vp_in_nI (n := i + 1) (by omega) (by omega)) dL_law_1153 ?_
  refine wg_topi (y := xs (i + 1)) (by rw [nI_clamp (by omega)]) ?_
  refine lv_aload_n hx hb dL_law_1154 rfl (lv_at hl 0 rfl) ?_
  refine lv_iload_n hx hb dL_law_1155 rfl (lv_at hl 3 rfl) ?_
  refine lv_iconst (v := 2) hx hb dL_law_1156 (by decide) ?_
  refine lv_iadd hx hb dL_law_1157 ?_
  refine wg_topi (y := nI (i + 2)) (by rw [show (2 : Int32) = nI 2 from rfl, nI_add]) ?_
  refine va_sld hx hb hsc hbl hbA hS (vp_in_nI (n := i + 2) (by omega) (by omega)) dL_law_1158 ?_
  refine wg_topi (y := xs (i + 2)) (by rw [nI_clamp (by omega)]) ?_
  refine lv_aload_n hx hb dL_law_1159 rfl (lv_at hl 0 rfl) ?_
  refine lv_iload_n hx hb dL_law_1160 rfl (lv_at hl 3 rfl) ?_
  refine lv_iconst (v := 3) hx hb dL_law_1161 (by decide) ?_
  refine lv_iadd hx hb dL_law_1162 ?_
  refine wg_topi (y := nI (i + 3)) (by rw [show (3 : Int32) = nI 3 from rfl, nI_add]) ?_
  refine va_sld hx hb hsc hbl hbA hS (vp_in_nI (n := i + 3) (by omega) (by omega)) dL_law_1163 ?_
  refine wg_topi (y := xs (i + 3)) (by rw [nI_clamp (by omega)]) ?_
  refine wg_ci hS (wg_rV (As := [.int (xs (i + 1)), .int (xs (i + 2)), .int (xs (i + 3))]) (rest := [.int r_1145]) F hP hS (c_X8_samples l E A C (xs (i + 1)) (xs (i + 2)) (xs (i + 3))) ok_X8_samples tb_797 rfl rfl ⟨Nat.le_of_ble_eq_true rfl, Nat.le_of_ble_eq_true rfl⟩ mo rfl rfl rfl hl.1 rfl (Nat.le_of_ble_eq_true rfl) dL_law_1164 ⟨by show _ ≤ 600000; omega, by show _ ≤ 7302250; omega⟩) (fun r_1164 A1 C_1164 H locs w_1164 hP hS => ?_)
  obtain ⟨w_1164, rfl, rfl⟩ := w_1164
  refine lv_icmp_eq (tgt := 1195) hx hb dL_law_1167 (by decide) (fun c_1167 => ?_) (fun c_1167 => ?_)
  · refine W.widen (k := i + 8 + 100) (n := i + 8 + 3000) (by omega) (by omega) ?_
    exact kk A C S _ _ _ hX hM hI hP hS hl
  · exact absurd (w_1145.trans w_1164.symm) c_1167
set_option maxHeartbeats 4000000 in
set_option maxRecDepth 100000 in
theorem law_told : lw_case 1172 := by
  intro p l e s m below meth c E b L xs hL C0 hE F A C S i H locs ls hX hM hI hi hP hS hl kk
  have hx := F.1
  have hb := F.2.1
  have hml := F.2.2.1
  have hown := F.2.2.2.1
  have hts := F.2.2.2.2.1
  obtain ⟨-, -, -, -, -, -, hsc, hbl, -, -⟩ := C0
  have hbA : ¬ wg_A E b := by show ¬ E.2.2.1 ≤ b; rw [hE]; exact Nat.not_le.mpr hbl
  have x0 : C 0 = some (.inr (7, [.ref (A 1), .int (nI (lc_ns (st_B S))), .ref (A 2), .ref (A 4), .ref (A 5), .ref (A 6), .ref (A 7), .ref (A 8), .ref (A 11)])) := hX.1
  have mo : C 1000 = some (.inr (8, [.int (nI (lc_ns (st_B S))), .ref (A 1001), .int (nI (lc_nh (st_B S))), .ref (A 1003), .ref (A 1004), .ref (A 1005), .ref (A 1006), .ref (A 1007), .ref (A 1008), .ref (A 1009), .ref (A 1010), .ref (A 1011), .ref (A 1012), .ref (A 1013), .ref (A 1014), .ref (A 1015), .ref (A 1016), .ref (A 1017), .ref (A 1018), .int (nI (st_pa S)), .int (nI (st_pb S)), .long (st_va S), .long (st_vb S), .int (nI (st_ct S)), .ref (A 1024), .ref (A 1025), .ref (A 1026), .ref (A 1027), .ref (A 1028)])) := hM.1
  refine lv_aload_n hx hb dL_law_1172 rfl (lv_at hl 1 rfl) ?_
  refine lv_aload_n hx hb dL_law_1173 rfl (lv_at hl 0 rfl) ?_
  refine lv_iload_n hx hb dL_law_1174 rfl (lv_at hl 3 rfl) ?_
  refine lv_iconst (v := 1) hx hb dL_law_1175 (by decide) ?_
  refine lv_iadd hx hb dL_law_1176 ?_
  refine wg_topi (y := nI (i + 1)) (by rw [show (1 : Int32) = nI 1 from rfl, nI_add]) ?_
  refine va_sld hx hb hsc hbl hbA hS (vp_in_nI (n := i + 1) (by omega) (by omega)) dL_law_1177 ?_
  refine wg_topi (y := xs (i + 1)) (by rw [nI_clamp (by omega)]) ?_
  refine wg_ci hS (wg_rV (As := [.int (xs (i + 1))]) (rest := []) F hP hS (c_X7_told l E A C S (xs (i + 1)) hX hI) ok_X7_told tb_517 rfl rfl ⟨Nat.le_of_ble_eq_true rfl, Nat.le_of_ble_eq_true rfl⟩ x0 rfl rfl rfl hl.1 rfl (Nat.le_of_ble_eq_true rfl) dL_law_1178 ⟨by show _ ≤ 600000; omega, by show _ ≤ 7302250; omega⟩) (fun r_1178 A1 C_1178 H locs w_1178 hP hS => ?_)
  obtain ⟨w_1178, rfl, rfl⟩ := w_1178
  refine lv_aload_n hx hb dL_law_1181 rfl (lv_at hl 2 rfl) ?_
  refine lv_aload_n hx hb dL_law_1182 rfl (lv_at hl 0 rfl) ?_
  refine lv_iload_n hx hb dL_law_1183 rfl (lv_at hl 3 rfl) ?_
  refine lv_iconst (v := 1) hx hb dL_law_1184 (by decide) ?_
  refine lv_iadd hx hb dL_law_1185 ?_
  refine wg_topi (y := nI (i + 1)) (by rw [show (1 : Int32) = nI 1 from rfl, nI_add]) ?_
  refine va_sld hx hb hsc hbl hbA hS (vp_in_nI (n := i + 1) (by omega) (by omega)) dL_law_1186 ?_
  refine wg_topi (y := xs (i + 1)) (by rw [nI_clamp (by omega)]) ?_
  refine wg_ci hS (wg_rV (As := [.int (xs (i + 1))]) (rest := [.int r_1178]) F hP hS (c_X8_told l E A C S (xs (i + 1)) hM hI) ok_X8_told tb_802 rfl rfl ⟨Nat.le_of_ble_eq_true rfl, Nat.le_of_ble_eq_true rfl⟩ mo rfl rfl rfl hl.1 rfl (Nat.le_of_ble_eq_true rfl) dL_law_1187 ⟨by show _ ≤ 600000; omega, by show _ ≤ 7302250; omega⟩) (fun r_1187 A1 C_1187 H locs w_1187 hP hS => ?_)
  obtain ⟨w_1187, rfl, rfl⟩ := w_1187
  refine lv_icmp_eq (tgt := 1195) hx hb dL_law_1190 (by decide) (fun c_1190 => ?_) (fun c_1190 => ?_)
  · refine W.widen (k := i + 8 + 100) (n := i + 8 + 3000) (by omega) (by omega) ?_
    exact kk A C S _ _ _ hX hM hI hP hS hl
  · exact absurd (w_1178.trans w_1187.symm) c_1190
