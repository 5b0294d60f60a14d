set_option maxHeartbeats 4000000 in
set_option maxRecDepth 100000 in
theorem c_X7_mix (l : Launch) (E : wg_E) (A : Nat → Nat) (C : wg_C) (x : Int64)   : Met l yX7_mix (wg_ws yX7_mix cX7_mix 2 (some .long)) (wg_rm 0 0 0) (wg_Pc E A C [.long x]) (wg_Ql E (fun r A1 C1 => r = lc_mix x ∧ A = A1 ∧ C = C1)) 0 0 (wg_A E) := by
  refine wg_met (by decide) (Nat.le_of_ble_eq_true rfl) ?_
  intro p e s m below meth c ls F hr hlk hnm hP hS hl
  have F : wg_F p m c cX7_mix 2 s ([.long x] : List Value).toArray "LightChecks" E := F
  have hx := F.1
  have hb := F.2.1
  have hml := F.2.2.1
  have hown := F.2.2.2.1
  have hts := F.2.2.2.2.1
  have hl : lv_has ls 2 [(0, .long x)] := hl
  refine lv_lload_n hx hb dX7_mix_0 rfl (lv_at hl 0 rfl) ?_
  refine lv_lload_n hx hb dX7_mix_1 rfl (lv_at hl 0 rfl) ?_
  refine lv_bipush (v := 30) hx hb dX7_mix_2 (by decide) ?_
  refine lv_lushr (v := (x.toUInt64 >>> ((30 : Int32).toInt64.toUInt64 &&& Int64.toUInt64 63)).toInt64) hx hb dX7_mix_4 rfl ?_
  refine lv_lxor hx hb dX7_mix_5 ?_
  refine lv_ldc2 (v := (-4658895280553007687)) hx hb hown (hts _ tb_59) dX7_mix_6 ?_
  refine lv_lmul hx hb dX7_mix_9 ?_
  refine lv_topl (fun x_10 ex_10 => ?_)
  refine lv_lstore_n (lv' := [(0, .long x_10)]) hx hb dX7_mix_10 rfl hl (by decide) rfl (fun ls hl => ?_)
  refine lv_lload_n hx hb dX7_mix_11 rfl (lv_at hl 0 rfl) ?_
  refine lv_lload_n hx hb dX7_mix_12 rfl (lv_at hl 0 rfl) ?_
  refine lv_bipush (v := 27) hx hb dX7_mix_13 (by decide) ?_
  refine lv_lushr (v := (x_10.toUInt64 >>> ((27 : Int32).toInt64.toUInt64 &&& Int64.toUInt64 63)).toInt64) hx hb dX7_mix_15 rfl ?_
  refine lv_lxor hx hb dX7_mix_16 ?_
  refine lv_ldc2 (v := (-7723592293110705685)) hx hb hown (hts _ tb_60) dX7_mix_17 ?_
  refine lv_lmul hx hb dX7_mix_20 ?_
  refine lv_topl (fun x_21 ex_21 => ?_)
  refine lv_lstore_n (lv' := [(0, .long x_21)]) hx hb dX7_mix_21 rfl hl (by decide) rfl (fun ls hl => ?_)
  refine lv_lload_n hx hb dX7_mix_22 rfl (lv_at hl 0 rfl) ?_
  refine lv_lload_n hx hb dX7_mix_23 rfl (lv_at hl 0 rfl) ?_
  refine lv_bipush (v := 31) hx hb dX7_mix_24 (by decide) ?_
  refine lv_lushr (v := (x_21.toUInt64 >>> ((31 : Int32).toInt64.toUInt64 &&& Int64.toUInt64 63)).toInt64) hx hb dX7_mix_26 rfl ?_
  refine lv_lxor hx hb dX7_mix_27 ?_
  exact wg_lret F hP hS hr hlk (⟨by rw [ex_21, ex_10]; rfl, rfl, rfl⟩) dX7_mix_28
set_option maxHeartbeats 4000000 in
set_option maxRecDepth 100000 in
theorem c_X7_pair (l : Launch) (E : wg_E) (A : Nat → Nat) (C : wg_C) (a b : Int64)   : Met l yX7_pair (wg_ws yX7_pair cX7_pair 4 (some .long)) (wg_rm 1 0 0) (wg_Pc E A C [.long a, .long b]) (wg_Ql E (fun r A1 C1 => r = lc_pair a b ∧ A = A1 ∧ C = C1)) 0 0 (wg_A E) := by
  refine wg_met (by decide) (Nat.le_of_ble_eq_true rfl) ?_
  intro p e s m below meth c ls F hr hlk hnm hP hS hl
  have F : wg_F p m c cX7_pair 4 s ([.long a, .long b] : List Value).toArray "LightChecks" E := F
  have hx := F.1
  have hb := F.2.1
  have hml := F.2.2.1
  have hown := F.2.2.2.1
  have hts := F.2.2.2.2.1
  have hl : lv_has ls 4 [(0, .long a), (2, .long b)] := hl
  refine lv_lload_n hx hb dX7_pair_0 rfl (lv_at hl 0 rfl) ?_
  refine wg_cl_ hS (wg_rS (As := [.long a]) (rest := []) F hP hS (c_X7_mix l E A C a) ok_X7_mix tb_64 rfl rfl ⟨Nat.le_of_ble_eq_true rfl, Nat.le_of_ble_eq_true rfl⟩ rfl hl.1 rfl (Nat.le_of_ble_eq_true rfl) dX7_pair_1 ⟨Nat.le_of_ble_eq_true rfl, Nat.le_of_ble_eq_true rfl⟩) (fun r_1 A1 C_1 H locs w_1 hP hS => ?_)
  obtain ⟨w_1, rfl, rfl⟩ := w_1
  refine lv_ldc2 (v := 3) hx hb hown (hts _ tb_65) dX7_pair_4 ?_
  refine lv_lload_n hx hb dX7_pair_7 rfl (lv_at hl 1 rfl) ?_
  refine wg_cl_ hS (wg_rS (As := [.long b]) (rest := [.long 3, .long r_1]) F hP hS (c_X7_mix l E A C b) ok_X7_mix tb_64 rfl rfl ⟨Nat.le_of_ble_eq_true rfl, Nat.le_of_ble_eq_true rfl⟩ rfl hl.1 rfl (Nat.le_of_ble_eq_true rfl) dX7_pair_8 ⟨Nat.le_of_ble_eq_true rfl, Nat.le_of_ble_eq_true rfl⟩) (fun r_8 A1 C_8 H locs w_8 hP hS => ?_)
  obtain ⟨w_8, rfl, rfl⟩ := w_8
  refine lv_lmul hx hb dX7_pair_11 ?_
  refine lv_ladd hx hb dX7_pair_12 ?_
  refine lv_ldc2 (v := (-7046029254386353131)) hx hb hown (hts _ tb_66) dX7_pair_13 ?_
  refine lv_ladd hx hb dX7_pair_16 ?_
  refine wg_cl_ hS (wg_rS (As := [.long ((r_1 + (3 * r_8)) + ((-7046029254386353131)))]) (rest := []) F hP hS (c_X7_mix l E A C _) ok_X7_mix tb_64 rfl rfl ⟨Nat.le_of_ble_eq_true rfl, Nat.le_of_ble_eq_true rfl⟩ rfl hl.1 rfl (Nat.le_of_ble_eq_true rfl) dX7_pair_17 ⟨Nat.le_of_ble_eq_true rfl, Nat.le_of_ble_eq_true rfl⟩) (fun r_17 A1 C_17 H locs w_17 hP hS => ?_)
  obtain ⟨w_17, rfl, rfl⟩ := w_17
  exact wg_lret F hP hS hr hlk (⟨by rw [w_17, w_1, w_8]; rfl, rfl, rfl⟩) dX7_pair_20
set_option maxHeartbeats 4000000 in
set_option maxRecDepth 100000 in
theorem c_X8_mix (l : Launch) (E : wg_E) (A : Nat → Nat) (C : wg_C) (x : Int64)   : Met l yX8_mix (wg_ws yX8_mix cX8_mix 4 (some .long)) (wg_rm 0 0 0) (wg_Pc E A C [.long x]) (wg_Ql E (fun r A1 C1 => r = lc_mix x ∧ A = A1 ∧ C = C1)) 0 0 (wg_A E) := by
  refine wg_met (by decide) (Nat.le_of_ble_eq_true rfl) ?_
  intro p e s m below meth c ls F hr hlk hnm hP hS hl
  have F : wg_F p m c cX8_mix 4 s ([.long x] : List Value).toArray "LightChecksModel" E := F
  have hx := F.1
  have hb := F.2.1
  have hml := F.2.2.1
  have hown := F.2.2.2.1
  have hts := F.2.2.2.2.1
  have hl : lv_has ls 4 [(0, .long x)] := hl
  refine lv_lload_n hx hb dX8_mix_0 rfl (lv_at hl 0 rfl) ?_
  refine lv_lload_n hx hb dX8_mix_1 rfl (lv_at hl 0 rfl) ?_
  refine lv_bipush (v := 30) hx hb dX8_mix_2 (by decide) ?_
  refine lv_lushr (v := (x.toUInt64 >>> ((30 : Int32).toInt64.toUInt64 &&& Int64.toUInt64 63)).toInt64) hx hb dX8_mix_4 rfl ?_
  refine lv_lxor hx hb dX8_mix_5 ?_
  refine lv_ldc2 (v := (-4658895280553007687)) hx hb hown (hts _ tb_542) dX8_mix_6 ?_
  refine lv_lmul hx hb dX8_mix_9 ?_
  refine lv_topl (fun x_10 ex_10 => ?_)
  refine lv_lstore_n (lv' := [(2, .long x_10), (0, .long x)]) hx hb dX8_mix_10 rfl hl (by decide) rfl (fun ls hl => ?_)
  refine lv_lload_n hx hb dX8_mix_11 rfl (lv_at hl 0 rfl) ?_
  refine lv_lload_n hx hb dX8_mix_12 rfl (lv_at hl 0 rfl) ?_
  refine lv_bipush (v := 27) hx hb dX8_mix_13 (by decide) ?_
  refine lv_lushr (v := (x_10.toUInt64 >>> ((27 : Int32).toInt64.toUInt64 &&& Int64.toUInt64 63)).toInt64) hx hb dX8_mix_15 rfl ?_
  refine lv_lxor hx hb dX8_mix_16 ?_
  refine lv_ldc2 (v := (-7723592293110705685)) hx hb hown (hts _ tb_543) dX8_mix_17 ?_
  refine lv_lmul hx hb dX8_mix_20 ?_
  refine lv_topl (fun x_21 ex_21 => ?_)
  refine lv_lstore_n (lv' := [(2, .long x_21), (0, .long x)]) hx hb dX8_mix_21 rfl hl (by decide) rfl (fun ls hl => ?_)
  refine lv_lload_n hx hb dX8_mix_22 rfl (lv_at hl 0 rfl) ?_
  refine lv_lload_n hx hb dX8_mix_23 rfl (lv_at hl 0 rfl) ?_
  refine lv_bipush (v := 31) hx hb dX8_mix_24 (by decide) ?_
  refine lv_lushr (v := (x_21.toUInt64 >>> ((31 : Int32).toInt64.toUInt64 &&& Int64.toUInt64 63)).toInt64) hx hb dX8_mix_26 rfl ?_
  refine lv_lxor hx hb dX8_mix_27 ?_
  exact wg_lret F hP hS hr hlk (⟨by rw [ex_21, ex_10]; rfl, rfl, rfl⟩) dX8_mix_28
set_option maxHeartbeats 4000000 in
set_option maxRecDepth 100000 in
theorem c_X8_pair (l : Launch) (E : wg_E) (A : Nat → Nat) (C : wg_C) (a b : Int64)   : Met l yX8_pair (wg_ws yX8_pair cX8_pair 4 (some .long)) (wg_rm 1 0 0) (wg_Pc E A C [.long a, .long b]) (wg_Ql E (fun r A1 C1 => r = lc_pair a b ∧ A = A1 ∧ C = C1)) 0 0 (wg_A E) := by
  refine wg_met (by decide) (Nat.le_of_ble_eq_true rfl) ?_
  intro p e s m below meth c ls F hr hlk hnm hP hS hl
  have F : wg_F p m c cX8_pair 4 s ([.long a, .long b] : List Value).toArray "LightChecksModel" E := F
  have hx := F.1
  have hb := F.2.1
  have hml := F.2.2.1
  have hown := F.2.2.2.1
  have hts := F.2.2.2.2.1
  have hl : lv_has ls 4 [(0, .long a), (2, .long b)] := hl
  refine lv_lload_n hx hb dX8_pair_0 rfl (lv_at hl 0 rfl) ?_
  refine wg_cl_ hS (wg_rS (As := [.long a]) (rest := []) F hP hS (c_X8_mix l E A C a) ok_X8_mix tb_539 rfl rfl ⟨Nat.le_of_ble_eq_true rfl, Nat.le_of_ble_eq_true rfl⟩ rfl hl.1 rfl (Nat.le_of_ble_eq_true rfl) dX8_pair_1 ⟨Nat.le_of_ble_eq_true rfl, Nat.le_of_ble_eq_true rfl⟩) (fun r_1 A1 C_1 H locs w_1 hP hS => ?_)
  obtain ⟨w_1, rfl, rfl⟩ := w_1
  refine lv_ldc2 (v := 3) hx hb hown (hts _ tb_547) dX8_pair_4 ?_
  refine lv_lload_n hx hb dX8_pair_7 rfl (lv_at hl 1 rfl) ?_
  refine wg_cl_ hS (wg_rS (As := [.long b]) (rest := [.long 3, .long r_1]) F hP hS (c_X8_mix l E A C b) ok_X8_mix tb_539 rfl rfl ⟨Nat.le_of_ble_eq_true rfl, Nat.le_of_ble_eq_true rfl⟩ rfl hl.1 rfl (Nat.le_of_ble_eq_true rfl) dX8_pair_8 ⟨Nat.le_of_ble_eq_true rfl, Nat.le_of_ble_eq_true rfl⟩) (fun r_8 A1 C_8 H locs w_8 hP hS => ?_)
  obtain ⟨w_8, rfl, rfl⟩ := w_8
  refine lv_lmul hx hb dX8_pair_11 ?_
  refine lv_ladd hx hb dX8_pair_12 ?_
  refine lv_ldc2 (v := (-7046029254386353131)) hx hb hown (hts _ tb_548) dX8_pair_13 ?_
  refine lv_ladd hx hb dX8_pair_16 ?_
  refine wg_cl_ hS (wg_rS (As := [.long ((r_1 + (3 * r_8)) + ((-7046029254386353131)))]) (rest := []) F hP hS (c_X8_mix l E A C _) ok_X8_mix tb_539 rfl rfl ⟨Nat.le_of_ble_eq_true rfl, Nat.le_of_ble_eq_true rfl⟩ rfl hl.1 rfl (Nat.le_of_ble_eq_true rfl) dX8_pair_17 ⟨Nat.le_of_ble_eq_true rfl, Nat.le_of_ble_eq_true rfl⟩) (fun r_17 A1 C_17 H locs w_17 hP hS => ?_)
  obtain ⟨w_17, rfl, rfl⟩ := w_17
  exact wg_lret F hP hS hr hlk (⟨by rw [w_17, w_1, w_8]; rfl, rfl, rfl⟩) dX8_pair_20
set_option maxHeartbeats 4000000 in
set_option maxRecDepth 100000 in
theorem c_X3_at (l : Launch) (E : wg_E) (A : Nat → Nat) (C : wg_C) (ρ π N n : Nat) (f : Nat → Option Nat) (k : Int32) (hn : n ≤ N) (hN : N < 2 ^ 31) (fρ : C ρ = some (.inr (3, [.ref (A π), .int (nI n)]))) (fπ : C π = some (.inl (E.2.1 4, N, .inr (.inr (.inr (.inr f)))))) : Met l yX3_at (wg_ws yX3_at cX3_at 2 (some (.object "LightChecks$Head"))) (wg_rm 0 0 0) (wg_Pc E A C [.ref (A ρ), .int k]) (wg_Qq E (fun r A1 C1 => r = lc_at n f k ∧ A = A1 ∧ C = C1)) 0 0 (wg_A E) := by
  refine wg_met (by decide) (Nat.le_of_ble_eq_true rfl) ?_
  intro p e s m below meth c ls F hr hlk hnm hP hS hl
  have F : wg_F p m c cX3_at 2 s ([.ref (A ρ), .int k] : List Value).toArray "LightChecks$HeadRow" E := F
  have hx := F.1
  have hb := F.2.1
  have hml := F.2.2.1
  have hown := F.2.2.2.1
  have hts := F.2.2.2.2.1
  have hl : lv_has ls 2 [(0, .ref (A ρ)), (1, .int k)] := hl
  refine lv_iload_n hx hb dX3_at_0 rfl (lv_at hl 1 rfl) ?_
  refine lv_if_lt (tgt := 30) hx hb dX3_at_1 (by decide) (fun c_1 => ?_) (fun c_1 => ?_)
  · refine lv_null hx hb dX3_at_30 ?_
    exact wg_qret (v := none) F hP hS hr ⟨_, rfl⟩ hlk (⟨(lc_at_out (by first | exact Or.inl c_1 | exact Or.inr c_9) (by omega)).symm, rfl, rfl⟩) dX3_at_31
  · obtain ⟨j, hj, rfl⟩ := nI_of c_1
    refine lv_iload_n hx hb dX3_at_4 rfl (lv_at hl 1 rfl) ?_
    refine lv_aload_n hx hb dX3_at_5 rfl (lv_at hl 0 rfl) ?_
    refine wg_get F hP fρ rfl iw_X3 1 (by decide) tb_33 rfl rfl dX3_at_6 ?_
    refine lv_icmp_ge (tgt := 30) hx hb dX3_at_9 (by decide) (fun c_9 => ?_) (fun c_9 => ?_)
    · refine lv_null hx hb dX3_at_30 ?_
      exact wg_qret (v := none) F hP hS hr ⟨_, rfl⟩ hlk (⟨(lc_at_out (by first | exact Or.inl c_1 | exact Or.inr c_9) (by omega)).symm, rfl, rfl⟩) dX3_at_31
    · have hjn : j < n := by rw [nI_leI (by omega) hj] at c_9; omega
      refine lv_iload_n hx hb dX3_at_12 rfl (lv_at hl 1 rfl) ?_
      refine lv_aload_n hx hb dX3_at_13 rfl (lv_at hl 0 rfl) ?_
      refine wg_get F hP fρ rfl iw_X3 0 (by decide) tb_32 rfl rfl dX3_at_14 ?_
      refine wg_len (t := 4) F hP rfl fπ (v := nI N) rfl dX3_at_17 ?_
      refine lv_icmp_ge (tgt := 30) hx hb dX3_at_18 (by decide) (fun c_18 => ?_) (fun c_18 => ?_)
      · exact absurd c_18 (by rw [nI_leI hN hj]; omega)
      · refine lv_aload_n hx hb dX3_at_21 rfl (lv_at hl 0 rfl) ?_
        refine wg_get F hP fρ rfl iw_X3 0 (by decide) tb_32 rfl rfl dX3_at_22 ?_
        refine lv_iload_n hx hb dX3_at_25 rfl (lv_at hl 1 rfl) ?_
        refine wg_qld F hP 4 rfl fπ (vp_in_nI (by omega) hN) dX3_at_26 ?_
        refine lv_goto (tgt := 31) hx hb dX3_at_27 (by decide) ?_
        exact wg_qret (v := f (nI j).toNatClampNeg) F hP hS hr ⟨_, rfl⟩ hlk (⟨by rw [lc_at_in hjn (by omega), nI_clamp hj], rfl, rfl⟩) dX3_at_31
set_option maxHeartbeats 4000000 in
set_option maxRecDepth 100000 in
theorem c_X3_isFull (l : Launch) (E : wg_E) (A : Nat → Nat) (C : wg_C) (ρ π N n : Nat) (f : Nat → Option Nat) (hn : n ≤ N) (hN : N < 2 ^ 31) (fρ : C ρ = some (.inr (3, [.ref (A π), .int (nI n)]))) (fπ : C π = some (.inl (E.2.1 4, N, .inr (.inr (.inr (.inr f)))))) : Met l yX3_isFull (wg_ws yX3_isFull cX3_isFull 1 (some .boolean)) (wg_rm 0 0 0) (wg_Pc E A C [.ref (A ρ)]) (wg_Qi E (fun r A1 C1 => r = (if n < N then 0 else 1) ∧ A = A1 ∧ C = C1)) 0 0 (wg_A E) := by
  refine wg_met (by decide) (Nat.le_of_ble_eq_true rfl) ?_
  intro p e s m below meth c ls F hr hlk hnm hP hS hl
  have F : wg_F p m c cX3_isFull 1 s ([.ref (A ρ)] : List Value).toArray "LightChecks$HeadRow" E := F
  have hx := F.1
  have hb := F.2.1
  have hml := F.2.2.1
  have hown := F.2.2.2.1
  have hts := F.2.2.2.2.1
  have hl : lv_has ls 1 [(0, .ref (A ρ))] := hl
  refine lv_aload_n hx hb dX3_isFull_0 rfl (lv_at hl 0 rfl) ?_
  refine wg_get F hP fρ rfl iw_X3 1 (by decide) tb_33 rfl rfl dX3_isFull_1 ?_
  refine lv_aload_n hx hb dX3_isFull_4 rfl (lv_at hl 0 rfl) ?_
  refine wg_get F hP fρ rfl iw_X3 0 (by decide) tb_32 rfl rfl dX3_isFull_5 ?_
  refine wg_len (t := 4) F hP rfl fπ (v := nI N) rfl dX3_isFull_8 ?_
  refine lv_icmp_lt (tgt := 16) hx hb dX3_isFull_9 (by decide) (fun c_9 => ?_) (fun c_9 => ?_)
  · refine lv_iconst (v := 0) hx hb dX3_isFull_16 (by decide) ?_
    exact wg_zret F hP hS hr hlk (by decide) ⟨by rw [if_pos (by rw [nI_ltI (by omega) hN] at c_9; omega)], rfl, rfl⟩ dX3_isFull_17
  · refine lv_iconst (v := 1) hx hb dX3_isFull_12 (by decide) ?_
    refine lv_goto (tgt := 17) hx hb dX3_isFull_13 (by decide) ?_
    exact wg_zret F hP hS hr hlk (by decide) ⟨by rw [if_neg (by rw [nI_ltI (by omega) hN] at c_9; omega)], rfl, rfl⟩ dX3_isFull_17
set_option maxHeartbeats 4000000 in
set_option maxRecDepth 100000 in
theorem c_X3_add (l : Launch) (E : wg_E) (A : Nat → Nat) (C : wg_C) (ρ π N n h : Nat) (f : Nat → Option Nat) (hv : List Value) (hn : n < N) (hN : N < 2 ^ 31) (hne : ρ ≠ π) (hhp : h ≠ π) (hhr : h ≠ ρ) (fρ : C ρ = some (.inr (3, [.ref (A π), .int (nI n)]))) (fπ : C π = some (.inl (E.2.1 4, N, .inr (.inr (.inr (.inr f)))))) (fh : C h = some (.inr (2, hv))) : Met l yX3_add (wg_ws yX3_add cX3_add 2 none) (wg_rm 1 0 0) (wg_Pc E A C [.ref (A ρ), .ref (A h)]) (wg_Qv E (fun A1 C1 => A = A1 ∧ C1 = va_up (va_up C π (some (.inl (E.2.1 4, N, .inr (.inr (.inr (.inr (va_up f n (some (A h)))))))))) ρ (some (.inr (3, [.ref (A π), .int (nI (n + 1))]))))) 0 0 (wg_A E) := by
  refine wg_met (by decide) (Nat.le_of_ble_eq_true rfl) ?_
  intro p e s m below meth c ls F hr hlk hnm hP hS hl
  have F : wg_F p m c cX3_add 2 s ([.ref (A ρ), .ref (A h)] : List Value).toArray "LightChecks$HeadRow" E := F
  have hx := F.1
  have hb := F.2.1
  have hml := F.2.2.1
  have hown := F.2.2.2.1
  have hts := F.2.2.2.2.1
  have hl : lv_has ls 2 [(0, .ref (A ρ)), (1, .ref (A h))] := hl
  refine lv_aload_n hx hb dX3_add_0 rfl (lv_at hl 0 rfl) ?_
  refine wg_ci hS (wg_rV (As := []) (rest := []) F hP hS (c_X3_isFull l E A C ρ π N n f (by omega) hN fρ fπ) ok_X3_isFull tb_286 rfl rfl ⟨Nat.le_of_ble_eq_true rfl, Nat.le_of_ble_eq_true rfl⟩ fρ rfl rfl rfl hl.1 rfl (Nat.le_of_ble_eq_true rfl) dX3_add_1 ⟨Nat.le_of_ble_eq_true rfl, Nat.le_of_ble_eq_true rfl⟩) (fun r_1 A1 C_1 H locs w_1 hP hS => ?_)
  obtain ⟨w_1, rfl, rfl⟩ := w_1
  refine lv_if_ne (tgt := 27) hx hb dX3_add_4 (by decide) (fun c_4 => ?_) (fun c_4 => ?_)
  · exact absurd w_1 (by rw [if_pos hn]; exact c_4)
  · refine lv_aload_n hx hb dX3_add_7 rfl (lv_at hl 0 rfl) ?_
    refine wg_get F hP fρ rfl iw_X3 0 (by decide) tb_32 rfl rfl dX3_add_8 ?_
    refine lv_aload_n hx hb dX3_add_11 rfl (lv_at hl 0 rfl) ?_
    refine wg_get F hP fρ rfl iw_X3 1 (by decide) tb_33 rfl rfl dX3_add_12 ?_
    refine lv_aload_n hx hb dX3_add_15 rfl (lv_at hl 1 rfl) ?_
    refine wg_qst F hP hS 4 rfl fπ fh rfl (vp_in_nI hn hN) dX3_add_16 (fun H locs hP hS => ?_)
    obtain ⟨C_16, hC_16⟩ : ∃ z : wg_C, z = va_up C π (some (.inl (E.2.1 4, N, .inr (.inr (.inr (.inr (va_up f (nI n).toNatClampNeg (some (A h))))))))) := ⟨_, rfl⟩
    have hP : wg_P E A C_16 H := by rw [hC_16]; exact hP
    have fρ_c16 : C_16 ρ = some (.inr (3, [.ref (A π), .int (nI n)])) := by rw [hC_16]; rw [va_up_ne _ _ (hne)]; exact fρ
    have fπ_c16 : C_16 π = some (.inl (E.2.1 4, N, .inr (.inr (.inr (.inr (va_up f (nI n).toNatClampNeg (some (A h)))))))) := by rw [hC_16]; exact va_up_self _ _ _
    have fh_c16 : C_16 h = some (.inr (2, hv)) := by rw [hC_16]; rw [va_up_ne _ _ (hhp)]; exact fh
    refine lv_aload_n hx hb dX3_add_17 rfl (lv_at hl 0 rfl) ?_
    refine lv_dup hx hb dX3_add_18 rfl ?_
    refine wg_get F hP fρ_c16 rfl iw_X3 1 (by decide) tb_33 rfl rfl dX3_add_19 ?_
    refine lv_iconst (v := 1) hx hb dX3_add_22 (by decide) ?_
    refine lv_iadd hx hb dX3_add_23 ?_
    refine lv_topi (fun x_24 ex_24 => ?_)
    refine wg_put F hP hS fρ_c16 rfl iw_X3 tyX3_ok nmX3 1 (by decide) tb_33 rfl rfl rfl (Nat.le_of_ble_eq_true rfl) dX3_add_24 (fun H locs hP hS => ?_)
    obtain ⟨C_24, hC_24⟩ : ∃ z : wg_C, z = va_up C_16 ρ (some (.inr (3, [.ref (A π), .int x_24]))) := ⟨_, rfl⟩
    have hP : wg_P E A C_24 H := by rw [hC_24]; exact hP
    have fρ_c24 : C_24 ρ = some (.inr (3, [.ref (A π), .int x_24])) := by rw [hC_24]; exact va_up_self _ _ _
    have fπ_c24 : C_24 π = some (.inl (E.2.1 4, N, .inr (.inr (.inr (.inr (va_up f (nI n).toNatClampNeg (some (A h)))))))) := by rw [hC_24]; rw [va_up_ne _ _ (Ne.symm hne)]; exact fπ_c16
    have fh_c24 : C_24 h = some (.inr (2, hv)) := by rw [hC_24]; rw [va_up_ne _ _ (hhr)]; exact fh_c16
    exact wg_vret F hP hS hr hlk (⟨rfl, by rw [hC_24, hC_16, ex_24, nI_clamp (by omega), nI_1]⟩) dX3_add_27
set_option maxHeartbeats 4000000 in
set_option maxRecDepth 100000 in
theorem c_X3_put (l : Launch) (E : wg_E) (A : Nat → Nat) (C : wg_C) (ρ π N n h j : Nat) (f : Nat → Option Nat) (hv : List Value) (hj : j < n) (hn : n ≤ N) (hN : N < 2 ^ 31) (hne : ρ ≠ π) (hhp : h ≠ π) (fρ : C ρ = some (.inr (3, [.ref (A π), .int (nI n)]))) (fπ : C π = some (.inl (E.2.1 4, N, .inr (.inr (.inr (.inr f)))))) (fh : C h = some (.inr (2, hv))) : Met l yX3_put (wg_ws yX3_put cX3_put 3 none) (wg_rm 0 0 0) (wg_Pc E A C [.ref (A ρ), .int (nI j), .ref (A h)]) (wg_Qv E (fun A1 C1 => A = A1 ∧ C1 = va_up C π (some (.inl (E.2.1 4, N, .inr (.inr (.inr (.inr (va_up f j (some (A h))))))))))) 0 0 (wg_A E) := by
  refine wg_met (by decide) (Nat.le_of_ble_eq_true rfl) ?_
  intro p e s m below meth c ls F hr hlk hnm hP hS hl
  have F : wg_F p m c cX3_put 3 s ([.ref (A ρ), .int (nI j), .ref (A h)] : List Value).toArray "LightChecks$HeadRow" E := F
  have hx := F.1
  have hb := F.2.1
  have hml := F.2.2.1
  have hown := F.2.2.2.1
  have hts := F.2.2.2.2.1
  have hl : lv_has ls 3 [(0, .ref (A ρ)), (1, .int (nI j)), (2, .ref (A h))] := hl
  refine lv_iload_n hx hb dX3_put_0 rfl (lv_at hl 1 rfl) ?_
  refine lv_if_lt (tgt := 28) hx hb dX3_put_1 (by decide) (fun c_1 => ?_) (fun c_1 => ?_)
  · exact absurd c_1 (nI_pos (by omega))
  · refine lv_iload_n hx hb dX3_put_4 rfl (lv_at hl 1 rfl) ?_
    refine lv_aload_n hx hb dX3_put_5 rfl (lv_at hl 0 rfl) ?_
    refine wg_get F hP fρ rfl iw_X3 1 (by decide) tb_33 rfl rfl dX3_put_6 ?_
    refine lv_icmp_ge (tgt := 28) hx hb dX3_put_9 (by decide) (fun c_9 => ?_) (fun c_9 => ?_)
    · exact absurd c_9 (by rw [nI_leI (by omega) (by omega)]; omega)
    · refine lv_iload_n hx hb dX3_put_12 rfl (lv_at hl 1 rfl) ?_
      refine lv_aload_n hx hb dX3_put_13 rfl (lv_at hl 0 rfl) ?_
      refine wg_get F hP fρ rfl iw_X3 0 (by decide) tb_32 rfl rfl dX3_put_14 ?_
      refine wg_len (t := 4) F hP rfl fπ (v := nI N) rfl dX3_put_17 ?_
      refine lv_icmp_ge (tgt := 28) hx hb dX3_put_18 (by decide) (fun c_18 => ?_) (fun c_18 => ?_)
      · exact absurd c_18 (by rw [nI_leI hN (by omega)]; omega)
      · refine lv_aload_n hx hb dX3_put_21 rfl (lv_at hl 0 rfl) ?_
        refine wg_get F hP fρ rfl iw_X3 0 (by decide) tb_32 rfl rfl dX3_put_22 ?_
        refine lv_iload_n hx hb dX3_put_25 rfl (lv_at hl 1 rfl) ?_
        refine lv_aload_n hx hb dX3_put_26 rfl (lv_at hl 2 rfl) ?_
        refine wg_qst F hP hS 4 rfl fπ fh rfl (vp_in_nI (by omega) hN) dX3_put_27 (fun H locs hP hS => ?_)
        obtain ⟨C_27, hC_27⟩ : ∃ z : wg_C, z = va_up C π (some (.inl (E.2.1 4, N, .inr (.inr (.inr (.inr (va_up f (nI j).toNatClampNeg (some (A h))))))))) := ⟨_, rfl⟩
        have hP : wg_P E A C_27 H := by rw [hC_27]; exact hP
        have fρ_c27 : C_27 ρ = some (.inr (3, [.ref (A π), .int (nI n)])) := by rw [hC_27]; rw [va_up_ne _ _ (hne)]; exact fρ
        have fπ_c27 : C_27 π = some (.inl (E.2.1 4, N, .inr (.inr (.inr (.inr (va_up f (nI j).toNatClampNeg (some (A h)))))))) := by rw [hC_27]; exact va_up_self _ _ _
        have fh_c27 : C_27 h = some (.inr (2, hv)) := by rw [hC_27]; rw [va_up_ne _ _ (hhp)]; exact fh
        exact wg_vret F hP hS hr hlk (⟨rfl, by rw [hC_27, nI_clamp (by omega)]⟩) dX3_put_28
set_option maxHeartbeats 4000000 in
set_option maxRecDepth 100000 in
theorem c_X3_cutTo (l : Launch) (E : wg_E) (A : Nat → Nat) (C : wg_C) (ρ π n k : Nat) (hn : n < 2 ^ 31) (hk : k ≤ n) (fρ : C ρ = some (.inr (3, [.ref (A π), .int (nI n)]))) : Met l yX3_cutTo (wg_ws yX3_cutTo cX3_cutTo 2 none) (wg_rm 1 0 0) (wg_Pc E A C [.ref (A ρ), .int (nI k)]) (wg_Qv E (fun A1 C1 => A = A1 ∧ C1 = va_up C ρ (some (.inr (3, [.ref (A π), .int (nI k)]))))) 0 0 (wg_A E) := by
  refine wg_met (by decide) (Nat.le_of_ble_eq_true rfl) ?_
  intro p e s m below meth c ls F hr hlk hnm hP hS hl
  have F : wg_F p m c cX3_cutTo 2 s ([.ref (A ρ), .int (nI k)] : List Value).toArray "LightChecks$HeadRow" E := F
  have hx := F.1
  have hb := F.2.1
  have hml := F.2.2.1
  have hown := F.2.2.2.1
  have hts := F.2.2.2.2.1
  have hl : lv_has ls 2 [(0, .ref (A ρ)), (1, .int (nI k))] := hl
  refine lv_aload_n hx hb dX3_cutTo_0 rfl (lv_at hl 0 rfl) ?_
  refine lv_aload_n hx hb dX3_cutTo_1 rfl (lv_at hl 0 rfl) ?_
  refine wg_get F hP fρ rfl iw_X3 1 (by decide) tb_33 rfl rfl dX3_cutTo_2 ?_
  refine lv_iconst (v := 0) hx hb dX3_cutTo_5 (by decide) ?_
  refine lv_iload_n hx hb dX3_cutTo_6 rfl (lv_at hl 1 rfl) ?_
  refine va_mmax hx hb (hml.trans hl.1.symm) hown (hts _ tb_27) (hts _ tb_28) (hts _ tb_3) (hts _ tb_29) (Nat.le_of_ble_eq_true rfl) (Nat.le_of_ble_eq_true rfl) (Nat.le_of_ble_eq_true rfl) (Nat.le_of_ble_eq_true rfl) dX3_cutTo_7 ?_
  refine va_mmin hx hb (hml.trans hl.1.symm) hown (hts _ tb_342) (hts _ tb_343) (hts _ tb_3) (hts _ tb_344) (Nat.le_of_ble_eq_true rfl) (Nat.le_of_ble_eq_true rfl) (Nat.le_of_ble_eq_true rfl) (Nat.le_of_ble_eq_true rfl) dX3_cutTo_10 ?_
  refine lv_topi (fun x_13 ex_13 => ?_)
  refine wg_put F hP hS fρ rfl iw_X3 tyX3_ok nmX3 1 (by decide) tb_33 rfl rfl rfl (Nat.le_of_ble_eq_true rfl) dX3_cutTo_13 (fun H locs hP hS => ?_)
  obtain ⟨C_13, hC_13⟩ : ∃ z : wg_C, z = va_up C ρ (some (.inr (3, [.ref (A π), .int x_13]))) := ⟨_, rfl⟩
  have hP : wg_P E A C_13 H := by rw [hC_13]; exact hP
  have fρ_c13 : C_13 ρ = some (.inr (3, [.ref (A π), .int x_13])) := by rw [hC_13]; exact va_up_self _ _ _
  exact wg_vret F hP hS hr hlk (⟨rfl, by rw [hC_13, ex_13, lc_cut hk hn]⟩) dX3_cutTo_16
