set_option maxHeartbeats 4000000 in
set_option maxRecDepth 100000 in
theorem c_X8_isFour (l : Launch) (E : wg_E) (A : Nat → Nat) (C : wg_C) (k : Int32)   : Met l yX8_isFour (wg_ws yX8_isFour cX8_isFour 1 (some .boolean)) (wg_rm 1 0 0) (wg_Pc E A C [.int k]) (wg_Qi E (fun r A1 C1 => r = (if 0 ≤ k.toInt ∧ k.toInt < (4 : Nat) then 1 else 0) ∧ A = A1 ∧ C = C1)) 0 0 (wg_A E) := by
  refine wg_met (by decide) (Nat.le_of_ble_eq_true rfl) ?_
  intro p e s m below meth c ls F hr hlk hnm hP hS hl
  have F : wg_F p m c cX8_isFour 1 s ([.int k] : List Value).toArray "LightChecksModel" E := F
  have hx := F.1
  have hb := F.2.1
  have hml := F.2.2.1
  have hown := F.2.2.2.1
  have hts := F.2.2.2.2.1
  have hl : lv_has ls 1 [(0, .int k)] := hl
  refine lv_iload_n hx hb dX8_isFour_0 rfl (lv_at hl 0 rfl) ?_
  refine lv_i2l (v := k.toInt64) hx hb dX8_isFour_1 rfl ?_
  refine lv_lconst (v := 0) hx hb dX8_isFour_2 (by decide) ?_
  refine lv_ldc2 (v := 3) hx hb hown (hts _ tb_547) dX8_isFour_3 ?_
  refine wg_ci hS (wg_rS (As := [.long k.toInt64, .long 0, .long 3]) (rest := []) F hP hS (c_X8_in l E A C _ _ _) ok_X8_in tb_532 rfl rfl ⟨Nat.le_of_ble_eq_true rfl, Nat.le_of_ble_eq_true rfl⟩ rfl hl.1 rfl (Nat.le_of_ble_eq_true rfl) dX8_isFour_6 ⟨Nat.le_of_ble_eq_true rfl, Nat.le_of_ble_eq_true rfl⟩) (fun r_6 A1 C_6 H locs w_6 hP hS => ?_)
  obtain ⟨w_6, rfl, rfl⟩ := w_6
  simp only [lc_i2l, show (1 : Int64).toInt = 1 from by decide, show (0 : Int64).toInt = 0 from by decide, show (60 : Int64).toInt = 60 from by decide, show (1000000 : Int64).toInt = 1000000 from by decide, show (100000 : Int64).toInt = 100000 from by decide, show (3 : Int64).toInt = 3 from by decide, show (9 : Int64).toInt = 9 from by decide, show (7 : Int64).toInt = 7 from by decide, show (15 : Int64).toInt = 15 from by decide] at w_6
  exact wg_zret F hP hS hr hlk (by rw [w_6]; split <;> decide) ⟨by rw [w_6]; exact lc_ifc (by omega), rfl, rfl⟩ dX8_isFour_9
set_option maxHeartbeats 4000000 in
set_option maxRecDepth 100000 in
theorem c_X8_isSet (l : Launch) (E : wg_E) (A : Nat → Nat) (C : wg_C) (S : lc_S) (k : Int32) (hM : lm E A C S) (hI : lc_inv S)  : Met l yX8_isSet (wg_ws yX8_isSet cX8_isSet 2 (some .boolean)) (wg_rm 1 0 0) (wg_Pc E A C [.ref (A 1000), .int k]) (wg_Qi E (fun r A1 C1 => r = (if 0 ≤ k.toInt ∧ k.toInt < (lc_ns (st_B S)) then 1 else 0) ∧ A = A1 ∧ C = C1)) 0 0 (wg_A E) := by
  refine wg_met (by decide) (Nat.le_of_ble_eq_true rfl) ?_
  intro p e s m below meth c ls F hr hlk hnm hP hS hl
  have F : wg_F p m c cX8_isSet 2 s ([.ref (A 1000), .int k] : List Value).toArray "LightChecksModel" E := F
  have hx := F.1
  have hb := F.2.1
  have hml := F.2.2.1
  have hown := F.2.2.2.1
  have hts := F.2.2.2.2.1
  have hl : lv_has ls 2 [(0, .ref (A 1000)), (1, .int k)] := hl
  obtain ⟨mo, ⟨g1, m1, r1⟩, ⟨g3, m3, r3⟩, ⟨g4, m4, r4⟩, ⟨g5, m5, r5⟩, ⟨g6, m6, r6⟩, ⟨g7, m7, r7⟩, ⟨g8, m8, r8⟩, ⟨g9, m9, r9⟩, ⟨g10, m10, r10⟩, ⟨g11, m11, r11⟩, ⟨g12, m12, r12⟩, ⟨g13, m13, r13⟩, ⟨g14, m14, r14⟩, ⟨g15, m15, r15⟩, ⟨g16, m16, r16⟩, ⟨g17, m17, r17⟩, ⟨g18, m18, r18⟩, ⟨g24, m24, r24⟩, ⟨g25, m25, r25⟩, ⟨g26, m26, r26⟩, ⟨g27, m27⟩, ⟨g28, m28, r28⟩⟩ := id hM
  obtain ⟨iok, ⟨itm, itm3a, itm3b⟩, icl, igv, ipa, ipb, ipab⟩ := id hI
  have ins := iok.1
  have inh := iok.2.1
  refine lv_iload_n hx hb dX8_isSet_0 rfl (lv_at hl 1 rfl) ?_
  refine lv_i2l (v := k.toInt64) hx hb dX8_isSet_1 rfl ?_
  refine lv_lconst (v := 0) hx hb dX8_isSet_2 (by decide) ?_
  refine lv_aload_n hx hb dX8_isSet_3 rfl (lv_at hl 0 rfl) ?_
  refine wg_get F hP mo rfl iw_X8 0 (by decide) tb_549 rfl rfl dX8_isSet_4 ?_
  refine lv_iconst (v := 1) hx hb dX8_isSet_7 (by decide) ?_
  refine lv_isub hx hb dX8_isSet_8 ?_
  refine lv_i2l (v := ((nI (lc_ns (st_B S))) - 1).toInt64) hx hb dX8_isSet_9 rfl ?_
  refine wg_ci hS (wg_rS (As := [.long k.toInt64, .long 0, .long (((nI (lc_ns (st_B S))) - 1).toInt64)]) (rest := []) F hP hS (c_X8_in l E A C _ _ _) ok_X8_in tb_532 rfl rfl ⟨Nat.le_of_ble_eq_true rfl, Nat.le_of_ble_eq_true rfl⟩ rfl hl.1 rfl (Nat.le_of_ble_eq_true rfl) dX8_isSet_10 ⟨Nat.le_of_ble_eq_true rfl, Nat.le_of_ble_eq_true rfl⟩) (fun r_10 A1 C_10 H locs w_10 hP hS => ?_)
  obtain ⟨w_10, rfl, rfl⟩ := w_10
  exact wg_zret F hP hS hr hlk (by rw [w_10]; split <;> decide) ⟨by rw [w_10, lc_cnt1 (by omega), lc_i2l, show (0 : Int64).toInt = 0 from by decide]; exact lc_ifc (by omega), rfl, rfl⟩ dX8_isSet_13
set_option maxHeartbeats 4000000 in
set_option maxRecDepth 100000 in
theorem c_X8_isHead (l : Launch) (E : wg_E) (A : Nat → Nat) (C : wg_C) (S : lc_S) (k : Int32) (hM : lm E A C S) (hI : lc_inv S)  : Met l yX8_isHead (wg_ws yX8_isHead cX8_isHead 2 (some .boolean)) (wg_rm 1 0 0) (wg_Pc E A C [.ref (A 1000), .int k]) (wg_Qi E (fun r A1 C1 => r = (if 0 ≤ k.toInt ∧ k.toInt < (lc_nh (st_B S)) then 1 else 0) ∧ A = A1 ∧ C = C1)) 0 0 (wg_A E) := by
  refine wg_met (by decide) (Nat.le_of_ble_eq_true rfl) ?_
  intro p e s m below meth c ls F hr hlk hnm hP hS hl
  have F : wg_F p m c cX8_isHead 2 s ([.ref (A 1000), .int k] : List Value).toArray "LightChecksModel" E := F
  have hx := F.1
  have hb := F.2.1
  have hml := F.2.2.1
  have hown := F.2.2.2.1
  have hts := F.2.2.2.2.1
  have hl : lv_has ls 2 [(0, .ref (A 1000)), (1, .int k)] := hl
  obtain ⟨mo, ⟨g1, m1, r1⟩, ⟨g3, m3, r3⟩, ⟨g4, m4, r4⟩, ⟨g5, m5, r5⟩, ⟨g6, m6, r6⟩, ⟨g7, m7, r7⟩, ⟨g8, m8, r8⟩, ⟨g9, m9, r9⟩, ⟨g10, m10, r10⟩, ⟨g11, m11, r11⟩, ⟨g12, m12, r12⟩, ⟨g13, m13, r13⟩, ⟨g14, m14, r14⟩, ⟨g15, m15, r15⟩, ⟨g16, m16, r16⟩, ⟨g17, m17, r17⟩, ⟨g18, m18, r18⟩, ⟨g24, m24, r24⟩, ⟨g25, m25, r25⟩, ⟨g26, m26, r26⟩, ⟨g27, m27⟩, ⟨g28, m28, r28⟩⟩ := id hM
  obtain ⟨iok, ⟨itm, itm3a, itm3b⟩, icl, igv, ipa, ipb, ipab⟩ := id hI
  have ins := iok.1
  have inh := iok.2.1
  refine lv_iload_n hx hb dX8_isHead_0 rfl (lv_at hl 1 rfl) ?_
  refine lv_i2l (v := k.toInt64) hx hb dX8_isHead_1 rfl ?_
  refine lv_lconst (v := 0) hx hb dX8_isHead_2 (by decide) ?_
  refine lv_aload_n hx hb dX8_isHead_3 rfl (lv_at hl 0 rfl) ?_
  refine wg_get F hP mo rfl iw_X8 2 (by decide) tb_551 rfl rfl dX8_isHead_4 ?_
  refine lv_iconst (v := 1) hx hb dX8_isHead_7 (by decide) ?_
  refine lv_isub hx hb dX8_isHead_8 ?_
  refine lv_i2l (v := ((nI (lc_nh (st_B S))) - 1).toInt64) hx hb dX8_isHead_9 rfl ?_
  refine wg_ci hS (wg_rS (As := [.long k.toInt64, .long 0, .long (((nI (lc_nh (st_B S))) - 1).toInt64)]) (rest := []) F hP hS (c_X8_in l E A C _ _ _) ok_X8_in tb_532 rfl rfl ⟨Nat.le_of_ble_eq_true rfl, Nat.le_of_ble_eq_true rfl⟩ rfl hl.1 rfl (Nat.le_of_ble_eq_true rfl) dX8_isHead_10 ⟨Nat.le_of_ble_eq_true rfl, Nat.le_of_ble_eq_true rfl⟩) (fun r_10 A1 C_10 H locs w_10 hP hS => ?_)
  obtain ⟨w_10, rfl, rfl⟩ := w_10
  exact wg_zret F hP hS hr hlk (by rw [w_10]; split <;> decide) ⟨by rw [w_10, lc_cnt1 (by omega), lc_i2l, show (0 : Int64).toInt = 0 from by decide]; exact lc_ifc (by omega), rfl, rfl⟩ dX8_isHead_13
set_option maxHeartbeats 4000000 in
set_option maxRecDepth 100000 in
theorem c_X8_digestOf (l : Launch) (E : wg_E) (A : Nat → Nat) (C : wg_C) (S : lc_S) (j : Nat) (hM : lm E A C S) (hI : lc_inv S) (hj : j < lc_nh (st_B S))  : Met l yX8_digestOf (wg_ws yX8_digestOf cX8_digestOf 2 (some .long)) (wg_rm 2 0 0) (wg_Pc E A C [.ref (A 1000), .int (nI j)]) (wg_Ql E (fun r A1 C1 => r = lc_dig (st_B S) j ∧ A = A1 ∧ C = C1)) 0 0 (wg_A E) := by
  refine wg_met (by decide) (Nat.le_of_ble_eq_true rfl) ?_
  intro p e s m below meth c ls F hr hlk hnm hP hS hl
  have F : wg_F p m c cX8_digestOf 2 s ([.ref (A 1000), .int (nI j)] : List Value).toArray "LightChecksModel" E := F
  have hx := F.1
  have hb := F.2.1
  have hml := F.2.2.1
  have hown := F.2.2.2.1
  have hts := F.2.2.2.2.1
  have hl : lv_has ls 2 [(0, .ref (A 1000)), (1, .int (nI j))] := hl
  obtain ⟨mo, ⟨g1, m1, r1⟩, ⟨g3, m3, r3⟩, ⟨g4, m4, r4⟩, ⟨g5, m5, r5⟩, ⟨g6, m6, r6⟩, ⟨g7, m7, r7⟩, ⟨g8, m8, r8⟩, ⟨g9, m9, r9⟩, ⟨g10, m10, r10⟩, ⟨g11, m11, r11⟩, ⟨g12, m12, r12⟩, ⟨g13, m13, r13⟩, ⟨g14, m14, r14⟩, ⟨g15, m15, r15⟩, ⟨g16, m16, r16⟩, ⟨g17, m17, r17⟩, ⟨g18, m18, r18⟩, ⟨g24, m24, r24⟩, ⟨g25, m25, r25⟩, ⟨g26, m26, r26⟩, ⟨g27, m27⟩, ⟨g28, m28, r28⟩⟩ := id hM
  obtain ⟨iok, ⟨itm, itm3a, itm3b⟩, icl, igv, ipa, ipb, ipab⟩ := id hI
  have ins := iok.1
  have inh := iok.2.1
  refine lv_aload_n hx hb dX8_digestOf_0 rfl (lv_at hl 0 rfl) ?_
  refine wg_get F hP mo rfl iw_X8 3 (by decide) tb_552 rfl rfl dX8_digestOf_1 ?_
  refine lv_iload_n hx hb dX8_digestOf_4 rfl (lv_at hl 1 rfl) ?_
  refine wg_ild F hP m3 (vp_in_nI (by omega) (by decide)) dX8_digestOf_5 ?_
  refine wg_topi (y := nI (lc_hh (st_B S) j)) (by rw [nI_clamp (by omega)]; exact r3 j hj) ?_
  refine lv_i2l (v := (nI (lc_hh (st_B S) j)).toInt64) hx hb dX8_digestOf_6 rfl ?_
  refine lv_aload_n hx hb dX8_digestOf_7 rfl (lv_at hl 0 rfl) ?_
  refine wg_get F hP mo rfl iw_X8 4 (by decide) tb_553 rfl rfl dX8_digestOf_8 ?_
  refine lv_iload_n hx hb dX8_digestOf_11 rfl (lv_at hl 1 rfl) ?_
  refine wg_lld F hP m4 (vp_in_nI (by omega) (by decide)) dX8_digestOf_12 ?_
  refine wg_topl (y := lc_hp (st_B S) j) (by rw [nI_clamp (by omega)]; exact r4 j hj) ?_
  refine wg_cl_ hS (wg_rS (As := [.long ((nI (lc_hh (st_B S) j)).toInt64), .long (lc_hp (st_B S) j)]) (rest := []) F hP hS (c_X8_pair l E A C _ _) ok_X8_pair tb_544 rfl rfl ⟨Nat.le_of_ble_eq_true rfl, Nat.le_of_ble_eq_true rfl⟩ rfl hl.1 rfl (Nat.le_of_ble_eq_true rfl) dX8_digestOf_13 ⟨Nat.le_of_ble_eq_true rfl, Nat.le_of_ble_eq_true rfl⟩) (fun r_13 A1 C_13 H locs w_13 hP hS => ?_)
  obtain ⟨w_13, rfl, rfl⟩ := w_13
  refine lv_aload_n hx hb dX8_digestOf_16 rfl (lv_at hl 0 rfl) ?_
  refine wg_get F hP mo rfl iw_X8 5 (by decide) tb_554 rfl rfl dX8_digestOf_17 ?_
  refine lv_iload_n hx hb dX8_digestOf_20 rfl (lv_at hl 1 rfl) ?_
  refine wg_ild F hP m5 (vp_in_nI (by omega) (by decide)) dX8_digestOf_21 ?_
  refine wg_topi (y := nI (lc_ho (st_B S) j)) (by rw [nI_clamp (by omega)]; exact r5 j hj) ?_
  refine lv_i2l (v := (nI (lc_ho (st_B S) j)).toInt64) hx hb dX8_digestOf_22 rfl ?_
  refine lv_aload_n hx hb dX8_digestOf_23 rfl (lv_at hl 0 rfl) ?_
  refine wg_get F hP mo rfl iw_X8 6 (by decide) tb_555 rfl rfl dX8_digestOf_24 ?_
  refine lv_iload_n hx hb dX8_digestOf_27 rfl (lv_at hl 1 rfl) ?_
  refine wg_ild F hP m6 (vp_in_nI (by omega) (by decide)) dX8_digestOf_28 ?_
  refine wg_topi (y := nI (lc_hx (st_B S) j)) (by rw [nI_clamp (by omega)]; exact r6 j hj) ?_
  refine lv_i2l (v := (nI (lc_hx (st_B S) j)).toInt64) hx hb dX8_digestOf_29 rfl ?_
  refine wg_cl_ hS (wg_rS (As := [.long ((nI (lc_ho (st_B S) j)).toInt64), .long ((nI (lc_hx (st_B S) j)).toInt64)]) (rest := [.long r_13]) F hP hS (c_X8_pair l E A C _ _) ok_X8_pair tb_544 rfl rfl ⟨Nat.le_of_ble_eq_true rfl, Nat.le_of_ble_eq_true rfl⟩ rfl hl.1 rfl (Nat.le_of_ble_eq_true rfl) dX8_digestOf_30 ⟨Nat.le_of_ble_eq_true rfl, Nat.le_of_ble_eq_true rfl⟩) (fun r_30 A1 C_30 H locs w_30 hP hS => ?_)
  obtain ⟨w_30, rfl, rfl⟩ := w_30
  refine wg_cl_ hS (wg_rS (As := [.long r_13, .long r_30]) (rest := []) F hP hS (c_X8_pair l E A C _ _) ok_X8_pair tb_544 rfl rfl ⟨Nat.le_of_ble_eq_true rfl, Nat.le_of_ble_eq_true rfl⟩ rfl hl.1 rfl (Nat.le_of_ble_eq_true rfl) dX8_digestOf_33 ⟨Nat.le_of_ble_eq_true rfl, Nat.le_of_ble_eq_true rfl⟩) (fun r_33 A1 C_33 H locs w_33 hP hS => ?_)
  obtain ⟨w_33, rfl, rfl⟩ := w_33
  refine lv_aload_n hx hb dX8_digestOf_36 rfl (lv_at hl 0 rfl) ?_
  refine wg_get F hP mo rfl iw_X8 7 (by decide) tb_556 rfl rfl dX8_digestOf_37 ?_
  refine lv_iload_n hx hb dX8_digestOf_40 rfl (lv_at hl 1 rfl) ?_
  refine wg_lld F hP m7 (vp_in_nI (by omega) (by decide)) dX8_digestOf_41 ?_
  refine wg_topl (y := lc_hr (st_B S) j) (by rw [nI_clamp (by omega)]; exact r7 j hj) ?_
  refine wg_cl_ hS (wg_rS (As := [.long r_33, .long (lc_hr (st_B S) j)]) (rest := []) F hP hS (c_X8_pair l E A C _ _) ok_X8_pair tb_544 rfl rfl ⟨Nat.le_of_ble_eq_true rfl, Nat.le_of_ble_eq_true rfl⟩ rfl hl.1 rfl (Nat.le_of_ble_eq_true rfl) dX8_digestOf_42 ⟨Nat.le_of_ble_eq_true rfl, Nat.le_of_ble_eq_true rfl⟩) (fun r_42 A1 C_42 H locs w_42 hP hS => ?_)
  obtain ⟨w_42, rfl, rfl⟩ := w_42
  exact wg_lret F hP hS hr hlk (⟨by rw [w_42, w_33, w_13, w_30]; rfl, rfl, rfl⟩) dX8_digestOf_45
set_option maxHeartbeats 4000000 in
set_option maxRecDepth 100000 in
theorem c_X8_weightOf (l : Launch) (E : wg_E) (A : Nat → Nat) (C : wg_C) (S : lc_S) (k sg : Nat) (hM : lm E A C S) (hI : lc_inv S) (hk : k < lc_ns (st_B S)) (hs : sg < 1024)  : Met l yX8_weightOf (wg_ws yX8_weightOf cX8_weightOf 5 (some .int)) (wg_rm 0 0 0) (wg_Pc E A C [.ref (A 1000), .int (nI k), .int (nI sg)]) (wg_Qi E (fun r A1 C1 => r = nI (lc_wof (lc_sa (st_B S) k) (lc_sb (st_B S) k) sg) ∧ A = A1 ∧ C = C1)) 0 0 (wg_A E) := by
  refine wg_met (by decide) (Nat.le_of_ble_eq_true rfl) ?_
  intro p e s m below meth c ls F hr hlk hnm hP hS hl
  have F : wg_F p m c cX8_weightOf 5 s ([.ref (A 1000), .int (nI k), .int (nI sg)] : List Value).toArray "LightChecksModel" E := F
  have hx := F.1
  have hb := F.2.1
  have hml := F.2.2.1
  have hown := F.2.2.2.1
  have hts := F.2.2.2.2.1
  have hl : lv_has ls 5 [(0, .ref (A 1000)), (1, .int (nI k)), (2, .int (nI sg))] := hl
  obtain ⟨mo, ⟨g1, m1, r1⟩, ⟨g3, m3, r3⟩, ⟨g4, m4, r4⟩, ⟨g5, m5, r5⟩, ⟨g6, m6, r6⟩, ⟨g7, m7, r7⟩, ⟨g8, m8, r8⟩, ⟨g9, m9, r9⟩, ⟨g10, m10, r10⟩, ⟨g11, m11, r11⟩, ⟨g12, m12, r12⟩, ⟨g13, m13, r13⟩, ⟨g14, m14, r14⟩, ⟨g15, m15, r15⟩, ⟨g16, m16, r16⟩, ⟨g17, m17, r17⟩, ⟨g18, m18, r18⟩, ⟨g24, m24, r24⟩, ⟨g25, m25, r25⟩, ⟨g26, m26, r26⟩, ⟨g27, m27⟩, ⟨g28, m28, r28⟩⟩ := id hM
  obtain ⟨iok, ⟨itm, itm3a, itm3b⟩, icl, igv, ipa, ipb, ipab⟩ := id hI
  have ins := iok.1
  have inh := iok.2.1
  refine lv_iconst (v := 0) hx hb dX8_weightOf_0 (by decide) ?_
  refine lv_istore_n (lv' := [(3, .int 0), (0, .ref (A 1000)), (1, .int (nI k)), (2, .int (nI sg))]) hx hb dX8_weightOf_1 rfl hl (by decide) rfl (fun ls hl => ?_)
  refine lv_iconst (v := 0) hx hb dX8_weightOf_2 (by decide) ?_
  refine lv_istore (lv' := [(4, .int 0), (3, .int 0), (0, .ref (A 1000)), (1, .int (nI k)), (2, .int (nI sg))]) hx hb dX8_weightOf_3 hl (by decide) rfl (fun ls hl => ?_)
  have loop_5 : ∀ (fuel : Nat) (i : Nat) (y3 : Int32) (y4 : Int32), 10 - i < fuel → (i ≤ 10) → (y3 = nI (lc_sum (fun q => lc_bit sg q * lc_w (lc_sa (st_B S) k) (lc_sb (st_B S) k) q) i)) → (y4 = nI i) → ∀ (H : Heap) (locs : List Loc) (ls : Array Slot), wg_P E A C H → va_S (wg_A E) s.heap H locs → lv_has ls 5 [(0, .ref (A 1000)), (1, .int (nI k)), (2, .int (nI sg)), (3, .int y3), (4, .int y4)] → W p l e (wg_rm 0 0 0) s m ([.ref (A 1000), .int (nI k), .int (nI sg)] : List Value).toArray below meth c H locs 0 0 (MQ below (wg_Qi E (fun r A1 C1 => r = nI (lc_wof (lc_sa (st_B S) k) (lc_sb (st_B S) k) sg) ∧ A = A1 ∧ C = C1)) ([.ref (A 1000), .int (nI k), .int (nI sg)] : List Value).toArray s 0 0 (wg_A E)) (F0 m 5 ls []) := by
    intro fuel
    induction fuel with
    | zero => intro i y3 y4 hm; exact absurd hm (Nat.not_lt_zero _)
    | succ fuel ih_loop_5 =>
      intro i y3 y4 hm_loop_5 hi ey3 ey4 H locs ls hP hS hl
      subst ey4
      refine lv_iload hx hb dX8_weightOf_5 (lv_at hl 4 rfl) ?_
      refine lv_bipush (v := 10) hx hb dX8_weightOf_7 (by decide) ?_
      refine lv_icmp_ge (tgt := 40) hx hb dX8_weightOf_9 (by decide) (fun c_9 => ?_) (fun c_9 => ?_)
      · have hi5 : i = 10 := by rw [show (10 : Int32) = nI 10 from rfl, nI_leI (by decide) (by omega)] at c_9; omega
        refine lv_iload_n hx hb dX8_weightOf_40 rfl (lv_at hl 3 rfl) ?_
        exact wg_iret F hP hS hr hlk (⟨by rw [ey3, hi5]; rfl, rfl, rfl⟩) dX8_weightOf_41
      · have hi5 : i < 10 := by rw [show (10 : Int32) = nI 10 from rfl, nI_leI (by decide) (by omega)] at c_9; omega
        refine lv_iload_n hx hb dX8_weightOf_12 rfl (lv_at hl 3 rfl) ?_
        refine lv_iload_n hx hb dX8_weightOf_13 rfl (lv_at hl 2 rfl) ?_
        refine lv_iload hx hb dX8_weightOf_14 (lv_at hl 4 rfl) ?_
        refine lv_ishr hx hb dX8_weightOf_16 ?_
        refine lv_iconst (v := 1) hx hb dX8_weightOf_17 (by decide) ?_
        refine lv_iand hx hb dX8_weightOf_18 ?_
        refine wg_topi (y := nI (lc_bit sg i)) (lc_shrbit sg hs i hi5) ?_
        refine lv_aload_n hx hb dX8_weightOf_19 rfl (lv_at hl 0 rfl) ?_
        refine wg_get F hP mo rfl iw_X8 1 (by decide) tb_550 rfl rfl dX8_weightOf_20 ?_
        refine lv_bipush (v := 10) hx hb dX8_weightOf_23 (by decide) ?_
        refine lv_iload_n hx hb dX8_weightOf_25 rfl (lv_at hl 1 rfl) ?_
        refine lv_imul hx hb dX8_weightOf_26 ?_
        refine lv_iload hx hb dX8_weightOf_27 (lv_at hl 4 rfl) ?_
        refine lv_iadd hx hb dX8_weightOf_29 ?_
        refine wg_topi (y := nI (10 * k + i)) (lc_wix (by omega) hi5) ?_
        refine wg_ild F hP m1 (vp_in_nI (by omega) (by decide)) dX8_weightOf_30 ?_
        refine wg_topi (y := nI (lc_w (lc_sa (st_B S) k) (lc_sb (st_B S) k) i)) (by rw [nI_clamp (by omega)]; exact r1 k hk i hi5) ?_
        refine lv_imul hx hb dX8_weightOf_31 ?_
        refine lv_iadd hx hb dX8_weightOf_32 ?_
        refine lv_topi (fun x_33 ex_33 => ?_)
        refine lv_istore_n (lv' := [(3, .int x_33), (0, .ref (A 1000)), (1, .int (nI k)), (2, .int (nI sg)), (4, .int (nI i))]) hx hb dX8_weightOf_33 rfl hl (by decide) rfl (fun ls hl => ?_)
        obtain ⟨x_34, ex_34⟩ : ∃ y : Int32, y = nI i + 1 := ⟨_, rfl⟩
        refine lv_iinc (v := x_34) (lv' := [(4, .int x_34), (3, .int x_33), (0, .ref (A 1000)), (1, .int (nI k)), (2, .int (nI sg))]) hx hb dX8_weightOf_34 hl (k := 4) rfl (by rw [ex_34]; rfl) (by decide) rfl (fun ls hl => ?_)
        refine lv_goto (tgt := 5) hx hb dX8_weightOf_37 (by decide) ?_
        exact ih_loop_5 (i + 1) x_33 x_34 (by omega) (by omega) (by rw [ex_33, ey3, pk_mul, nI_add]; rfl) (by rw [ex_34, nI_1]) _ _ _ hP hS (lv_sub hl [2, 3, 4, 1, 0] rfl)
  exact loop_5 _ 0 0 0 (Nat.lt_succ_self _) (by omega) rfl rfl _ _ _ hP hS (lv_sub hl [2, 3, 4, 1, 0] rfl)
set_option maxHeartbeats 4000000 in
set_option maxRecDepth 100000 in
theorem c_X8_isCertified (l : Launch) (E : wg_E) (A : Nat → Nat) (C : wg_C) (S : lc_S) (j : Nat) (hM : lm E A C S) (hI : lc_inv S) (hj : j < lc_nh (st_B S))  : Met l yX8_isCertified (wg_ws yX8_isCertified cX8_isCertified 2 (some .boolean)) (wg_rm 1 0 0) (wg_Pc E A C [.ref (A 1000), .int (nI j)]) (wg_Qi E (fun r A1 C1 => r = (if lc_cert (st_B S) j then 1 else 0) ∧ A = A1 ∧ C = C1)) 0 0 (wg_A E) := by
  refine wg_met (by decide) (Nat.le_of_ble_eq_true rfl) ?_
  intro p e s m below meth c ls F hr hlk hnm hP hS hl
  have F : wg_F p m c cX8_isCertified 2 s ([.ref (A 1000), .int (nI j)] : List Value).toArray "LightChecksModel" E := F
  have hx := F.1
  have hb := F.2.1
  have hml := F.2.2.1
  have hown := F.2.2.2.1
  have hts := F.2.2.2.2.1
  have hl : lv_has ls 2 [(0, .ref (A 1000)), (1, .int (nI j))] := hl
  obtain ⟨mo, ⟨g1, m1, r1⟩, ⟨g3, m3, r3⟩, ⟨g4, m4, r4⟩, ⟨g5, m5, r5⟩, ⟨g6, m6, r6⟩, ⟨g7, m7, r7⟩, ⟨g8, m8, r8⟩, ⟨g9, m9, r9⟩, ⟨g10, m10, r10⟩, ⟨g11, m11, r11⟩, ⟨g12, m12, r12⟩, ⟨g13, m13, r13⟩, ⟨g14, m14, r14⟩, ⟨g15, m15, r15⟩, ⟨g16, m16, r16⟩, ⟨g17, m17, r17⟩, ⟨g18, m18, r18⟩, ⟨g24, m24, r24⟩, ⟨g25, m25, r25⟩, ⟨g26, m26, r26⟩, ⟨g27, m27⟩, ⟨g28, m28, r28⟩⟩ := id hM
  obtain ⟨iok, ⟨itm, itm3a, itm3b⟩, icl, igv, ipa, ipb, ipab⟩ := id hI
  have ins := iok.1
  have inh := iok.2.1
  obtain ⟨hk1, hk2, hk3, hk4⟩ := iok.2.2.2 j hj
  refine lv_iconst (v := 3) hx hb dX8_isCertified_0 (by decide) ?_
  refine lv_aload_n hx hb dX8_isCertified_1 rfl (lv_at hl 0 rfl) ?_
  refine lv_aload_n hx hb dX8_isCertified_2 rfl (lv_at hl 0 rfl) ?_
  refine wg_get F hP mo rfl iw_X8 5 (by decide) tb_554 rfl rfl dX8_isCertified_3 ?_
  refine lv_iload_n hx hb dX8_isCertified_6 rfl (lv_at hl 1 rfl) ?_
  refine wg_ild F hP m5 (vp_in_nI (by omega) (by decide)) dX8_isCertified_7 ?_
  refine wg_topi (y := nI (lc_ho (st_B S) j)) (by rw [nI_clamp (by omega)]; exact r5 j hj) ?_
  refine lv_aload_n hx hb dX8_isCertified_8 rfl (lv_at hl 0 rfl) ?_
  refine wg_get F hP mo rfl iw_X8 8 (by decide) tb_557 rfl rfl dX8_isCertified_9 ?_
  refine lv_iload_n hx hb dX8_isCertified_12 rfl (lv_at hl 1 rfl) ?_
  refine wg_ild F hP m8 (vp_in_nI (by omega) (by decide)) dX8_isCertified_13 ?_
  refine wg_topi (y := nI (lc_sg (st_B S) j)) (by rw [nI_clamp (by omega)]; exact r8 j hj) ?_
  refine wg_ci hS (wg_rV (As := [.int (nI (lc_ho (st_B S) j)), .int (nI (lc_sg (st_B S) j))]) (rest := [.int 3]) F hP hS (c_X8_weightOf l E A C S (lc_ho (st_B S) j) (lc_sg (st_B S) j) hM hI hk2 hk4) ok_X8_weightOf tb_686 rfl rfl ⟨Nat.le_of_ble_eq_true rfl, Nat.le_of_ble_eq_true rfl⟩ mo rfl rfl rfl hl.1 rfl (Nat.le_of_ble_eq_true rfl) dX8_isCertified_14 ⟨Nat.le_of_ble_eq_true rfl, Nat.le_of_ble_eq_true rfl⟩) (fun r_14 A1 C_14 H locs w_14 hP hS => ?_)
  obtain ⟨w_14, rfl, rfl⟩ := w_14
  refine lv_imul hx hb dX8_isCertified_17 ?_
  refine lv_iconst (v := 2) hx hb dX8_isCertified_18 (by decide) ?_
  refine lv_aload_n hx hb dX8_isCertified_19 rfl (lv_at hl 0 rfl) ?_
  refine lv_aload_n hx hb dX8_isCertified_20 rfl (lv_at hl 0 rfl) ?_
  refine wg_get F hP mo rfl iw_X8 5 (by decide) tb_554 rfl rfl dX8_isCertified_21 ?_
  refine lv_iload_n hx hb dX8_isCertified_24 rfl (lv_at hl 1 rfl) ?_
  refine wg_ild F hP m5 (vp_in_nI (by omega) (by decide)) dX8_isCertified_25 ?_
  refine wg_topi (y := nI (lc_ho (st_B S) j)) (by rw [nI_clamp (by omega)]; exact r5 j hj) ?_
  refine lv_sipush (v := 1023) hx hb dX8_isCertified_26 (by decide) ?_
  refine wg_topi (y := nI 1023) rfl ?_
  refine wg_ci hS (wg_rV (As := [.int (nI (lc_ho (st_B S) j)), .int (nI 1023)]) (rest := [.int 2, .int (3 * r_14)]) F hP hS (c_X8_weightOf l E A C S (lc_ho (st_B S) j) 1023 hM hI hk2 (by decide)) ok_X8_weightOf tb_686 rfl rfl ⟨Nat.le_of_ble_eq_true rfl, Nat.le_of_ble_eq_true rfl⟩ mo rfl rfl rfl hl.1 rfl (Nat.le_of_ble_eq_true rfl) dX8_isCertified_29 ⟨Nat.le_of_ble_eq_true rfl, Nat.le_of_ble_eq_true rfl⟩) (fun r_29 A1 C_29 H locs w_29 hP hS => ?_)
  obtain ⟨w_29, rfl, rfl⟩ := w_29
  refine lv_imul hx hb dX8_isCertified_32 ?_
  refine lv_icmp_le (tgt := 40) hx hb dX8_isCertified_33 (by decide) (fun c_33 => ?_) (fun c_33 => ?_)
  · rw [w_14, w_29, lc_wof_all, show (3 : Int32) = nI 3 from rfl, show (2 : Int32) = nI 2 from rfl, pk_mul, pk_mul, nI_leI (by have := lc_wof_lt (lc_sa (st_B S) (lc_ho (st_B S) j)) (lc_sb (st_B S) (lc_ho (st_B S) j)) (lc_sg (st_B S) j); omega) (by have := lc_tot_lt (lc_sa (st_B S) (lc_ho (st_B S) j)) (lc_sb (st_B S) (lc_ho (st_B S) j)); omega)] at c_33
    refine lv_iconst (v := 0) hx hb dX8_isCertified_40 (by decide) ?_
    exact wg_zret F hP hS hr hlk (by decide) ⟨by rw [if_neg (by omega)], rfl, rfl⟩ dX8_isCertified_41
  · rw [w_14, w_29, lc_wof_all, show (3 : Int32) = nI 3 from rfl, show (2 : Int32) = nI 2 from rfl, pk_mul, pk_mul, nI_leI (by have := lc_wof_lt (lc_sa (st_B S) (lc_ho (st_B S) j)) (lc_sb (st_B S) (lc_ho (st_B S) j)) (lc_sg (st_B S) j); omega) (by have := lc_tot_lt (lc_sa (st_B S) (lc_ho (st_B S) j)) (lc_sb (st_B S) (lc_ho (st_B S) j)); omega)] at c_33
    refine lv_iconst (v := 1) hx hb dX8_isCertified_36 (by decide) ?_
    refine lv_goto (tgt := 41) hx hb dX8_isCertified_37 (by decide) ?_
    exact wg_zret F hP hS hr hlk (by decide) ⟨by rw [if_pos (by omega)], rfl, rfl⟩ dX8_isCertified_41
set_option maxHeartbeats 4000000 in
set_option maxRecDepth 100000 in
theorem c_X8_doesOverlap (l : Launch) (E : wg_E) (A : Nat → Nat) (C : wg_C) (S : lc_S) (j k : Nat) (hM : lm E A C S) (hI : lc_inv S) (hj : j < lc_nh (st_B S)) (hk : k < lc_ns (st_B S))  : Met l yX8_doesOverlap (wg_ws yX8_doesOverlap cX8_doesOverlap 3 (some .boolean)) (wg_rm 1 0 0) (wg_Pc E A C [.ref (A 1000), .int (nI j), .int (nI k)]) (wg_Qi E (fun r A1 C1 => r = (if lc_over (st_B S) (st_tm S) j k then 1 else 0) ∧ A = A1 ∧ C = C1)) 0 0 (wg_A E) := by
  refine wg_met (by decide) (Nat.le_of_ble_eq_true rfl) ?_
  intro p e s m below meth c ls F hr hlk hnm hP hS hl
  have F : wg_F p m c cX8_doesOverlap 3 s ([.ref (A 1000), .int (nI j), .int (nI k)] : List Value).toArray "LightChecksModel" E := F
  have hx := F.1
  have hb := F.2.1
  have hml := F.2.2.1
  have hown := F.2.2.2.1
  have hts := F.2.2.2.2.1
  have hl : lv_has ls 3 [(0, .ref (A 1000)), (1, .int (nI j)), (2, .int (nI k))] := hl
  obtain ⟨mo, ⟨g1, m1, r1⟩, ⟨g3, m3, r3⟩, ⟨g4, m4, r4⟩, ⟨g5, m5, r5⟩, ⟨g6, m6, r6⟩, ⟨g7, m7, r7⟩, ⟨g8, m8, r8⟩, ⟨g9, m9, r9⟩, ⟨g10, m10, r10⟩, ⟨g11, m11, r11⟩, ⟨g12, m12, r12⟩, ⟨g13, m13, r13⟩, ⟨g14, m14, r14⟩, ⟨g15, m15, r15⟩, ⟨g16, m16, r16⟩, ⟨g17, m17, r17⟩, ⟨g18, m18, r18⟩, ⟨g24, m24, r24⟩, ⟨g25, m25, r25⟩, ⟨g26, m26, r26⟩, ⟨g27, m27⟩, ⟨g28, m28, r28⟩⟩ := id hM
  obtain ⟨iok, ⟨itm, itm3a, itm3b⟩, icl, igv, ipa, ipb, ipab⟩ := id hI
  have ins := iok.1
  have inh := iok.2.1
  obtain ⟨hk1, hk2, hk3, hk4⟩ := iok.2.2.2 j hj
  refine lv_aload_n hx hb dX8_doesOverlap_0 rfl (lv_at hl 0 rfl) ?_
  refine wg_get F hP mo rfl iw_X8 9 (by decide) tb_558 rfl rfl dX8_doesOverlap_1 ?_
  refine lv_iconst (v := 1) hx hb dX8_doesOverlap_4 (by decide) ?_
  refine wg_ild F hP m9 (vp_in_nI (n := 1) (by decide) (by decide)) dX8_doesOverlap_5 ?_
  refine wg_topi (y := nI (st_tm S 1)) (r9 1 (by decide)) ?_
  refine lv_aload_n hx hb dX8_doesOverlap_6 rfl (lv_at hl 0 rfl) ?_
  refine lv_iload_n hx hb dX8_doesOverlap_7 rfl (lv_at hl 2 rfl) ?_
  refine lv_aload_n hx hb dX8_doesOverlap_8 rfl (lv_at hl 0 rfl) ?_
  refine wg_get F hP mo rfl iw_X8 8 (by decide) tb_557 rfl rfl dX8_doesOverlap_9 ?_
  refine lv_iload_n hx hb dX8_doesOverlap_12 rfl (lv_at hl 1 rfl) ?_
  refine wg_ild F hP m8 (vp_in_nI (by omega) (by decide)) dX8_doesOverlap_13 ?_
  refine wg_topi (y := nI (lc_sg (st_B S) j)) (by rw [nI_clamp (by omega)]; exact r8 j hj) ?_
  refine wg_ci hS (wg_rV (As := [.int (nI k), .int (nI (lc_sg (st_B S) j))]) (rest := [.int (nI (st_tm S 1))]) F hP hS (c_X8_weightOf l E A C S k (lc_sg (st_B S) j) hM hI hk hk4) ok_X8_weightOf tb_686 rfl rfl ⟨Nat.le_of_ble_eq_true rfl, Nat.le_of_ble_eq_true rfl⟩ mo rfl rfl rfl hl.1 rfl (Nat.le_of_ble_eq_true rfl) dX8_doesOverlap_14 ⟨Nat.le_of_ble_eq_true rfl, Nat.le_of_ble_eq_true rfl⟩) (fun r_14 A1 C_14 H locs w_14 hP hS => ?_)
  obtain ⟨w_14, rfl, rfl⟩ := w_14
  refine lv_imul hx hb dX8_doesOverlap_17 ?_
  refine lv_aload_n hx hb dX8_doesOverlap_18 rfl (lv_at hl 0 rfl) ?_
  refine wg_get F hP mo rfl iw_X8 9 (by decide) tb_558 rfl rfl dX8_doesOverlap_19 ?_
  refine lv_iconst (v := 0) hx hb dX8_doesOverlap_22 (by decide) ?_
  refine wg_ild F hP m9 (vp_in_nI (n := 0) (by decide) (by decide)) dX8_doesOverlap_23 ?_
  refine wg_topi (y := nI (st_tm S 0)) (r9 0 (by decide)) ?_
  refine lv_aload_n hx hb dX8_doesOverlap_24 rfl (lv_at hl 0 rfl) ?_
  refine lv_iload_n hx hb dX8_doesOverlap_25 rfl (lv_at hl 2 rfl) ?_
  refine lv_sipush (v := 1023) hx hb dX8_doesOverlap_26 (by decide) ?_
  refine wg_topi (y := nI 1023) rfl ?_
  refine wg_ci hS (wg_rV (As := [.int (nI k), .int (nI 1023)]) (rest := [.int (nI (st_tm S 0)), .int ((nI (st_tm S 1)) * r_14)]) F hP hS (c_X8_weightOf l E A C S k 1023 hM hI hk (by decide)) ok_X8_weightOf tb_686 rfl rfl ⟨Nat.le_of_ble_eq_true rfl, Nat.le_of_ble_eq_true rfl⟩ mo rfl rfl rfl hl.1 rfl (Nat.le_of_ble_eq_true rfl) dX8_doesOverlap_29 ⟨Nat.le_of_ble_eq_true rfl, Nat.le_of_ble_eq_true rfl⟩) (fun r_29 A1 C_29 H locs w_29 hP hS => ?_)
  obtain ⟨w_29, rfl, rfl⟩ := w_29
  refine lv_imul hx hb dX8_doesOverlap_32 ?_
  have q1 : st_tm S 1 * lc_wof (lc_sa (st_B S) k) (lc_sb (st_B S) k) (lc_sg (st_B S) j) ≤ 1000 * 1270 := Nat.mul_le_mul (itm 1 (by decide)) (lc_wof_lt _ _ _)
  have q0 : st_tm S 0 * lc_tot (lc_sa (st_B S) k) (lc_sb (st_B S) k) ≤ 1000 * 1270 := Nat.mul_le_mul (itm 0 (by decide)) (lc_tot_lt _ _)
  refine lv_icmp_le (tgt := 40) hx hb dX8_doesOverlap_33 (by decide) (fun c_33 => ?_) (fun c_33 => ?_)
  · rw [w_14, w_29, lc_wof_all, pk_mul, pk_mul, nI_leI (by omega) (by omega)] at c_33
    refine lv_iconst (v := 0) hx hb dX8_doesOverlap_40 (by decide) ?_
    exact wg_zret F hP hS hr hlk (by decide) ⟨by rw [if_neg (by omega)], rfl, rfl⟩ dX8_doesOverlap_41
  · rw [w_14, w_29, lc_wof_all, pk_mul, pk_mul, nI_leI (by omega) (by omega)] at c_33
    refine lv_iconst (v := 1) hx hb dX8_doesOverlap_36 (by decide) ?_
    refine lv_goto (tgt := 41) hx hb dX8_doesOverlap_37 (by decide) ?_
    exact wg_zret F hP hS hr hlk (by decide) ⟨by rw [if_pos (by omega)], rfl, rfl⟩ dX8_doesOverlap_41
