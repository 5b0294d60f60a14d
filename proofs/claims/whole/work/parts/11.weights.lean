set_option maxHeartbeats 4000000 in
set_option maxRecDepth 100000 in
theorem c_X7_weightIn (l : Launch) (E : wg_E) (A : Nat → Nat) (C : wg_C) (x i : Nat) (hx64 : x < 2 ^ 64) (hi : i < 5)  : Met l yX7_weightIn (wg_ws yX7_weightIn cX7_weightIn 3 (some .int)) (wg_rm 0 0 0) (wg_Pc E A C [.long (lN x), .int (nI i)]) (wg_Qi E (fun r A1 C1 => r = nI (lc_wt x i) ∧ A = A1 ∧ C = C1)) 0 0 (wg_A E) := by
  refine wg_met (by decide) (Nat.le_of_ble_eq_true rfl) ?_
  intro p e s m below meth c ls F hr hlk hnm hP hS hl
  have F : wg_F p m c cX7_weightIn 3 s ([.long (lN x), .int (nI i)] : List Value).toArray "LightChecks" E := F
  have hx := F.1
  have hb := F.2.1
  have hml := F.2.2.1
  have hown := F.2.2.2.1
  have hts := F.2.2.2.2.1
  have hl : lv_has ls 3 [(0, .long (lN x)), (2, .int (nI i))] := hl
  refine lv_lload_n hx hb dX7_weightIn_0 rfl (lv_at hl 0 rfl) ?_
  refine lv_bipush (v := 7) hx hb dX7_weightIn_1 (by decide) ?_
  refine lv_iload_n hx hb dX7_weightIn_3 rfl (lv_at hl 1 rfl) ?_
  refine lv_imul hx hb dX7_weightIn_4 ?_
  refine lv_lushr (v := ((lN x).toUInt64 >>> ((7 * (nI i)).toInt64.toUInt64 &&& Int64.toUInt64 63)).toInt64) hx hb dX7_weightIn_5 rfl ?_
  refine lv_l2i (v := (((lN x).toUInt64 >>> ((7 * (nI i)).toInt64.toUInt64 &&& Int64.toUInt64 63)).toInt64).toInt32) hx hb dX7_weightIn_6 rfl ?_
  refine lv_bipush (v := 127) hx hb dX7_weightIn_7 (by decide) ?_
  refine lv_iand hx hb dX7_weightIn_9 ?_
  exact wg_iret F hP hS hr hlk (⟨lc_wIn hx64 hi, rfl, rfl⟩) dX7_weightIn_10
set_option maxHeartbeats 4000000 in
set_option maxRecDepth 100000 in
theorem c_X7_holdsWeights (l : Launch) (E : wg_E) (A : Nat → Nat) (C : wg_C) (x : Nat) (hx64 : x < 2 ^ 64)  : Met l yX7_holdsWeights (wg_ws yX7_holdsWeights cX7_holdsWeights 3 (some .boolean)) (wg_rm 1 0 0) (wg_Pc E A C [.long (lN x)]) (wg_Qi E (fun r A1 C1 => ((lc_well x ∧ r = 1) ∨ (¬ lc_well x ∧ r = 0)) ∧ A = A1 ∧ C = C1)) 0 0 (wg_A E) := by
  refine wg_met (by decide) (Nat.le_of_ble_eq_true rfl) ?_
  intro p e s m below meth c ls F hr hlk hnm hP hS hl
  have F : wg_F p m c cX7_holdsWeights 3 s ([.long (lN x)] : List Value).toArray "LightChecks" E := F
  have hx := F.1
  have hb := F.2.1
  have hml := F.2.2.1
  have hown := F.2.2.2.1
  have hts := F.2.2.2.2.1
  have hl : lv_has ls 3 [(0, .long (lN x))] := hl
  refine lv_iconst (v := 0) hx hb dX7_holdsWeights_0 (by decide) ?_
  refine lv_istore_n (lv' := [(2, .int 0), (0, .long (lN x))]) hx hb dX7_holdsWeights_1 rfl hl (by decide) rfl (fun ls hl => ?_)
  have loop_2 : ∀ (n : Nat) (i : Nat) (x2 : Int32), 5 - i < n → (i ≤ 5) → (x2 = nI i) → (∀ k, k < i → lc_wt x k ≤ 100) → ∀ (H : Heap) (locs : List Loc) (ls : Array Slot), wg_P E A C H → va_S (wg_A E) s.heap H locs → lv_has ls 3 [(0, .long (lN x)), (2, .int x2)] → W p l e (wg_rm 1 0 0) s m ([.long (lN x)] : List Value).toArray below meth c H locs 0 0 (MQ below (wg_Qi E (fun r A1 C1 => ((lc_well x ∧ r = 1) ∨ (¬ lc_well x ∧ r = 0)) ∧ A = A1 ∧ C = C1)) ([.long (lN x)] : List Value).toArray s 0 0 (wg_A E)) (F0 m 2 ls []) := by
    intro n
    induction n with
    | zero => intro i x2 hm; exact absurd hm (Nat.not_lt_zero _)
    | succ n ih_loop_2 =>
      intro i x2 hm_loop_2 hi ex2 hw H locs ls hP hS hl
      have hi31 : i < 2 ^ 31 := by omega
      refine lv_iload_n hx hb dX7_holdsWeights_2 rfl (lv_at hl 1 rfl) ?_
      refine lv_iconst (v := 5) hx hb dX7_holdsWeights_3 (by decide) ?_
      refine lv_icmp_ge (tgt := 25) hx hb dX7_holdsWeights_4 (by decide) (fun c_4 => ?_) (fun c_4 => ?_)
      · have hi5 : i = 5 := by rw [ex2, show (5 : Int32) = nI 5 from rfl, nI_leI (by decide) hi31] at c_4; omega
        subst hi5
        refine lv_lload_n hx hb dX7_holdsWeights_25 rfl (lv_at hl 0 rfl) ?_
        refine lv_bipush (v := 35) hx hb dX7_holdsWeights_26 (by decide) ?_
        refine lv_lushr (v := ((lN x).toUInt64 >>> ((35 : Int32).toInt64.toUInt64 &&& Int64.toUInt64 63)).toInt64) hx hb dX7_holdsWeights_28 rfl ?_
        refine lv_lconst (v := 0) hx hb dX7_holdsWeights_29 (by decide) ?_
        refine W.lcmp hx hb dX7_holdsWeights_30 ?_
        refine lv_if_ne (tgt := 38) hx hb dX7_holdsWeights_31 (by decide) (fun c_31 => ?_) (fun c_31 => ?_)
        · have hno : ¬ x < 2 ^ 35 := by rw [lg_cmp_eq, lc_ush35 hx64] at c_31; exact c_31
          refine lv_iconst (v := 0) hx hb dX7_holdsWeights_38 (by decide) ?_
          exact wg_zret F hP hS hr hlk (by decide) ⟨Or.inr ⟨fun h => hno h.2, rfl⟩, rfl, rfl⟩ dX7_holdsWeights_39
        · have hyes : x < 2 ^ 35 := by rw [lg_cmp_eq, lc_ush35 hx64] at c_31; exact c_31
          refine lv_iconst (v := 1) hx hb dX7_holdsWeights_34 (by decide) ?_
          refine lv_goto (tgt := 39) hx hb dX7_holdsWeights_35 (by decide) ?_
          exact wg_zret F hP hS hr hlk (by decide) ⟨Or.inl ⟨⟨hw, hyes⟩, rfl⟩, rfl, rfl⟩ dX7_holdsWeights_39
      · have hi5 : i < 5 := by rw [ex2, show (5 : Int32) = nI 5 from rfl, nI_leI (by decide) hi31] at c_4; omega
        subst ex2
        refine lv_lload_n hx hb dX7_holdsWeights_7 rfl (lv_at hl 0 rfl) ?_
        refine lv_iload_n hx hb dX7_holdsWeights_8 rfl (lv_at hl 1 rfl) ?_
        refine wg_ci hS (wg_rS (As := [.long (lN x), .int (nI i)]) (rest := []) F hP hS (c_X7_weightIn l E A C x i hx64 hi5) ok_X7_weightIn tb_198 rfl rfl ⟨Nat.le_of_ble_eq_true rfl, Nat.le_of_ble_eq_true rfl⟩ rfl hl.1 rfl (Nat.le_of_ble_eq_true rfl) dX7_holdsWeights_9 ⟨Nat.le_of_ble_eq_true rfl, Nat.le_of_ble_eq_true rfl⟩) (fun r_9 A1 C_9 H locs w_9 hP hS => ?_)
        obtain ⟨w_9, rfl, rfl⟩ := w_9
        refine lv_bipush (v := 100) hx hb dX7_holdsWeights_12 (by decide) ?_
        refine lv_icmp_le (tgt := 19) hx hb dX7_holdsWeights_14 (by decide) (fun c_14 => ?_) (fun c_14 => ?_)
        · have hle : lc_wt x i ≤ 100 := by rw [w_9, show (100 : Int32) = nI 100 from rfl, nI_leI (by have := lc_wt_lt x i; omega) (by decide)] at c_14; exact c_14
          obtain ⟨x_19, ex_19⟩ : ∃ y : Int32, y = nI i + 1 := ⟨_, rfl⟩
          refine lv_iinc (v := x_19) (lv' := [(2, .int x_19), (0, .long (lN x))]) hx hb dX7_holdsWeights_19 hl (k := 1) rfl (by rw [ex_19]; rfl) (by decide) rfl (fun ls hl => ?_)
          refine lv_goto (tgt := 2) hx hb dX7_holdsWeights_22 (by decide) ?_
          exact ih_loop_2 (i + 1) x_19 (by omega) (by omega) (by rw [ex_19, nI_1]) (fun k hk => by rcases (show k < i ∨ k = i by omega) with h | h; exact hw k h; rw [h]; exact hle) _ _ _ hP hS (lv_sub hl [1, 0] rfl)
        · have hgt : ¬ lc_wt x i ≤ 100 := by rw [w_9, show (100 : Int32) = nI 100 from rfl, nI_leI (by have := lc_wt_lt x i; omega) (by decide)] at c_14; exact c_14
          refine lv_iconst (v := 0) hx hb dX7_holdsWeights_17 (by decide) ?_
          exact wg_zret F hP hS hr hlk (by decide) ⟨Or.inr ⟨fun h => hgt (h.1 i hi5), rfl⟩, rfl, rfl⟩ dX7_holdsWeights_18
  exact loop_2 _ 0 0 (Nat.lt_succ_self _) (by omega) rfl (fun k hk => absurd hk (Nat.not_lt_zero _)) _ _ _ hP hS (lv_sub hl [1, 0] rfl)
set_option maxHeartbeats 4000000 in
set_option maxRecDepth 100000 in
theorem c_X6_weightOf (l : Launch) (E : wg_E) (A : Nat → Nat) (C : wg_C) (σ a b sg : Nat) (num : Int32) (ha : a < 2 ^ 64) (hb64 : b < 2 ^ 64) (hs : sg < 1024) (fσ : C σ = some (.inr (6, [.int num, .long (lN a), .long (lN b), .int (nI (lc_tot a b))]))) : Met l yX6_weightOf (wg_ws yX6_weightOf cX6_weightOf 4 (some .int)) (wg_rm 1 0 0) (wg_Pc E A C [.ref (A σ), .int (nI sg)]) (wg_Qi E (fun r A1 C1 => r = nI (lc_wof a b sg) ∧ A = A1 ∧ C = C1)) 0 0 (wg_A E) := by
  refine wg_met (by decide) (Nat.le_of_ble_eq_true rfl) ?_
  intro p e s m below meth c ls F hr hlk hnm hP hS hl
  have F : wg_F p m c cX6_weightOf 4 s ([.ref (A σ), .int (nI sg)] : List Value).toArray "LightChecks$WeightSet" E := F
  have hx := F.1
  have hb := F.2.1
  have hml := F.2.2.1
  have hown := F.2.2.2.1
  have hts := F.2.2.2.2.1
  have hl : lv_has ls 4 [(0, .ref (A σ)), (1, .int (nI sg))] := hl
  refine lv_iconst (v := 0) hx hb dX6_weightOf_0 (by decide) ?_
  refine lv_istore_n (lv' := [(2, .int 0), (0, .ref (A σ)), (1, .int (nI sg))]) hx hb dX6_weightOf_1 rfl hl (by decide) rfl (fun ls hl => ?_)
  refine lv_iconst (v := 0) hx hb dX6_weightOf_2 (by decide) ?_
  refine lv_istore_n (lv' := [(3, .int 0), (2, .int 0), (0, .ref (A σ)), (1, .int (nI sg))]) hx hb dX6_weightOf_3 rfl hl (by decide) rfl (fun ls hl => ?_)
  have loop_4 : ∀ (n : Nat) (i : Nat) (x2 : Int32) (x3 : Int32), 5 - i < n → (i ≤ 5) → (x2 = nI (lc_two (fun k => lc_bit sg k * lc_w a b k) i)) → (x3 = nI i) → ∀ (H : Heap) (locs : List Loc) (ls : Array Slot), wg_P E A C H → va_S (wg_A E) s.heap H locs → lv_has ls 4 [(0, .ref (A σ)), (1, .int (nI sg)), (2, .int x2), (3, .int x3)] → W p l e (wg_rm 1 0 0) s m ([.ref (A σ), .int (nI sg)] : List Value).toArray below meth c H locs 0 0 (MQ below (wg_Qi E (fun r A1 C1 => r = nI (lc_wof a b sg) ∧ A = A1 ∧ C = C1)) ([.ref (A σ), .int (nI sg)] : List Value).toArray s 0 0 (wg_A E)) (F0 m 4 ls []) := by
    intro n
    induction n with
    | zero => intro i x2 x3 hm; exact absurd hm (Nat.not_lt_zero _)
    | succ n ih_loop_4 =>
      intro i x2 x3 hm_loop_4 hi ex2 ex3 H locs ls hP hS hl
      subst ex3
      have hi31 : i < 2 ^ 31 := by omega
      have c5 : (5 : Int32) = nI 5 := rfl
      have hle5 := lc_two_le (lc_bw_lt a b sg) hi
      refine lv_iload_n hx hb dX6_weightOf_4 rfl (lv_at hl 3 rfl) ?_
      refine lv_iconst (v := 5) hx hb dX6_weightOf_5 (by decide) ?_
      refine lv_icmp_ge (tgt := 55) hx hb dX6_weightOf_6 (by decide) (fun c_6 => ?_) (fun c_6 => ?_)
      · have hi5 : i = 5 := by rw [c5, nI_leI (by decide) hi31] at c_6; omega
        subst hi5
        refine lv_iload_n hx hb dX6_weightOf_55 rfl (lv_at hl 2 rfl) ?_
        exact wg_iret F hP hS hr hlk (⟨by rw [ex2, lc_two_5]; rfl, rfl, rfl⟩) dX6_weightOf_56
      · have hi5 : i < 5 := by rw [c5, nI_leI (by decide) hi31] at c_6; omega
        have hstep := lc_two_s (fun k => lc_bit sg k * lc_w a b k) i
        refine lv_iload_n hx hb dX6_weightOf_9 rfl (lv_at hl 1 rfl) ?_
        refine lv_iconst (v := 1) hx hb dX6_weightOf_10 (by decide) ?_
        refine lv_iload_n hx hb dX6_weightOf_11 rfl (lv_at hl 3 rfl) ?_
        refine lv_ishl hx hb dX6_weightOf_12 ?_
        refine lv_iand hx hb dX6_weightOf_13 ?_
        refine lv_if_eq (tgt := 28) hx hb dX6_weightOf_14 (by decide) (fun c_14 => ?_) (fun c_14 => ?_)
        · have hb1 : lc_bit sg i = 0 := (lc_andbit sg hs i (by omega)).mp c_14
          refine lv_iload_n hx hb dX6_weightOf_28 rfl (lv_at hl 1 rfl) ?_
          refine lv_iconst (v := 1) hx hb dX6_weightOf_29 (by decide) ?_
          refine lv_iload_n hx hb dX6_weightOf_30 rfl (lv_at hl 3 rfl) ?_
          refine lv_iconst (v := 5) hx hb dX6_weightOf_31 (by decide) ?_
          refine lv_iadd hx hb dX6_weightOf_32 ?_
          refine lv_ishl hx hb dX6_weightOf_33 ?_
          refine lv_iand hx hb dX6_weightOf_34 ?_
          refine lv_if_eq (tgt := 49) hx hb dX6_weightOf_35 (by decide) (fun c_35 => ?_) (fun c_35 => ?_)
          · have hb2 : lc_bit sg (i + 5) = 0 := (lc_andbit sg hs (i + 5) (by omega)).mp (by rw [← nI_add]; exact c_35)
            have hsum : x2 = nI (lc_two (fun k => lc_bit sg k * lc_w a b k) (i + 1)) := by
              rw [hstep, hb1, hb2, lc_w_lo hi5, lc_w_hi]
              first | (rw [ex_48, w_44, ex_27, w_23, ex2, nI_add, nI_add]; congr 1; omega) | (rw [ex_48, w_44, ex2, nI_add]; congr 1; omega) | (rw [ex_27, w_23, ex2, nI_add]; congr 1; omega) | (rw [ex2]; congr 1; omega)
            obtain ⟨x_49, ex_49⟩ : ∃ y : Int32, y = nI i + 1 := ⟨_, rfl⟩
            refine lv_iinc (v := x_49) (lv' := [(3, .int x_49), (0, .ref (A σ)), (1, .int (nI sg)), (2, .int x2)]) hx hb dX6_weightOf_49 hl (k := 3) rfl (by rw [ex_49]; rfl) (by decide) rfl (fun ls hl => ?_)
            refine lv_goto (tgt := 4) hx hb dX6_weightOf_52 (by decide) ?_
            exact ih_loop_4 (i + 1) x2 x_49 (by omega) (by omega) hsum (by rw [ex_49, nI_1]) _ _ _ hP hS (lv_sub hl [1, 2, 3, 0] rfl)
          · have hb2 : lc_bit sg (i + 5) = 1 := lc_ones (fun h => c_35 (by have := (lc_andbit sg hs (i + 5) (by omega)).mpr h; rw [← nI_add] at this; exact this))
            refine lv_iload_n hx hb dX6_weightOf_38 rfl (lv_at hl 2 rfl) ?_
            refine lv_aload_n hx hb dX6_weightOf_39 rfl (lv_at hl 0 rfl) ?_
            refine wg_get F hP fσ rfl iw_X6 2 (by decide) tb_211 rfl rfl dX6_weightOf_40 ?_
            refine lv_iload_n hx hb dX6_weightOf_43 rfl (lv_at hl 3 rfl) ?_
            refine wg_ci hS (wg_rSN (As := [.long (lN b), .int (nI i)]) (rest := [.int x2]) F hP hS (c_X7_weightIn l E A C b i hb64 hi5) ok_X7_weightIn nb_206 rfl rfl ⟨Nat.le_of_ble_eq_true rfl, Nat.le_of_ble_eq_true rfl⟩ rfl hl.1 rfl (Nat.le_of_ble_eq_true rfl) dX6_weightOf_44 ⟨Nat.le_of_ble_eq_true rfl, Nat.le_of_ble_eq_true rfl⟩) (fun r_44 A1 C_44 H locs w_44 hP hS => ?_)
            obtain ⟨w_44, rfl, rfl⟩ := w_44
            refine lv_iadd hx hb dX6_weightOf_47 ?_
            refine lv_topi (fun x_48 ex_48 => ?_)
            refine lv_istore_n (lv' := [(2, .int x_48), (0, .ref (A σ)), (1, .int (nI sg)), (3, .int (nI i))]) hx hb dX6_weightOf_48 rfl hl (by decide) rfl (fun ls hl => ?_)
            have hsum : x_48 = nI (lc_two (fun k => lc_bit sg k * lc_w a b k) (i + 1)) := by
              rw [hstep, hb1, hb2, lc_w_lo hi5, lc_w_hi]
              first | (rw [ex_48, w_44, ex_27, w_23, ex2, nI_add, nI_add]; congr 1; omega) | (rw [ex_48, w_44, ex2, nI_add]; congr 1; omega) | (rw [ex_27, w_23, ex2, nI_add]; congr 1; omega) | (rw [ex2]; congr 1; omega)
            obtain ⟨x_49, ex_49⟩ : ∃ y : Int32, y = nI i + 1 := ⟨_, rfl⟩
            refine lv_iinc (v := x_49) (lv' := [(3, .int x_49), (2, .int x_48), (0, .ref (A σ)), (1, .int (nI sg))]) hx hb dX6_weightOf_49 hl (k := 3) rfl (by rw [ex_49]; rfl) (by decide) rfl (fun ls hl => ?_)
            refine lv_goto (tgt := 4) hx hb dX6_weightOf_52 (by decide) ?_
            exact ih_loop_4 (i + 1) x_48 x_49 (by omega) (by omega) hsum (by rw [ex_49, nI_1]) _ _ _ hP hS (lv_sub hl [2, 3, 1, 0] rfl)
        · have hb1 : lc_bit sg i = 1 := lc_ones (fun h => c_14 ((lc_andbit sg hs i (by omega)).mpr h))
          refine lv_iload_n hx hb dX6_weightOf_17 rfl (lv_at hl 2 rfl) ?_
          refine lv_aload_n hx hb dX6_weightOf_18 rfl (lv_at hl 0 rfl) ?_
          refine wg_get F hP fσ rfl iw_X6 1 (by decide) tb_210 rfl rfl dX6_weightOf_19 ?_
          refine lv_iload_n hx hb dX6_weightOf_22 rfl (lv_at hl 3 rfl) ?_
          refine wg_ci hS (wg_rSN (As := [.long (lN a), .int (nI i)]) (rest := [.int x2]) F hP hS (c_X7_weightIn l E A C a i ha hi5) ok_X7_weightIn nb_206 rfl rfl ⟨Nat.le_of_ble_eq_true rfl, Nat.le_of_ble_eq_true rfl⟩ rfl hl.1 rfl (Nat.le_of_ble_eq_true rfl) dX6_weightOf_23 ⟨Nat.le_of_ble_eq_true rfl, Nat.le_of_ble_eq_true rfl⟩) (fun r_23 A1 C_23 H locs w_23 hP hS => ?_)
          obtain ⟨w_23, rfl, rfl⟩ := w_23
          refine lv_iadd hx hb dX6_weightOf_26 ?_
          refine lv_topi (fun x_27 ex_27 => ?_)
          refine lv_istore_n (lv' := [(2, .int x_27), (0, .ref (A σ)), (1, .int (nI sg)), (3, .int (nI i))]) hx hb dX6_weightOf_27 rfl hl (by decide) rfl (fun ls hl => ?_)
          refine lv_iload_n hx hb dX6_weightOf_28 rfl (lv_at hl 2 rfl) ?_
          refine lv_iconst (v := 1) hx hb dX6_weightOf_29 (by decide) ?_
          refine lv_iload_n hx hb dX6_weightOf_30 rfl (lv_at hl 3 rfl) ?_
          refine lv_iconst (v := 5) hx hb dX6_weightOf_31 (by decide) ?_
          refine lv_iadd hx hb dX6_weightOf_32 ?_
          refine lv_ishl hx hb dX6_weightOf_33 ?_
          refine lv_iand hx hb dX6_weightOf_34 ?_
          refine lv_if_eq (tgt := 49) hx hb dX6_weightOf_35 (by decide) (fun c_35 => ?_) (fun c_35 => ?_)
          · have hb2 : lc_bit sg (i + 5) = 0 := (lc_andbit sg hs (i + 5) (by omega)).mp (by rw [← nI_add]; exact c_35)
            have hsum : x_27 = nI (lc_two (fun k => lc_bit sg k * lc_w a b k) (i + 1)) := by
              rw [hstep, hb1, hb2, lc_w_lo hi5, lc_w_hi]
              first | (rw [ex_48, w_44, ex_27, w_23, ex2, nI_add, nI_add]; congr 1; omega) | (rw [ex_48, w_44, ex2, nI_add]; congr 1; omega) | (rw [ex_27, w_23, ex2, nI_add]; congr 1; omega) | (rw [ex2]; congr 1; omega)
            obtain ⟨x_49, ex_49⟩ : ∃ y : Int32, y = nI i + 1 := ⟨_, rfl⟩
            refine lv_iinc (v := x_49) (lv' := [(3, .int x_49), (2, .int x_27), (0, .ref (A σ)), (1, .int (nI sg))]) hx hb dX6_weightOf_49 hl (k := 3) rfl (by rw [ex_49]; rfl) (by decide) rfl (fun ls hl => ?_)
            refine lv_goto (tgt := 4) hx hb dX6_weightOf_52 (by decide) ?_
            exact ih_loop_4 (i + 1) x_27 x_49 (by omega) (by omega) hsum (by rw [ex_49, nI_1]) _ _ _ hP hS (lv_sub hl [2, 3, 1, 0] rfl)
          · have hb2 : lc_bit sg (i + 5) = 1 := lc_ones (fun h => c_35 (by have := (lc_andbit sg hs (i + 5) (by omega)).mpr h; rw [← nI_add] at this; exact this))
            refine lv_iload_n hx hb dX6_weightOf_38 rfl (lv_at hl 0 rfl) ?_
            refine lv_aload_n hx hb dX6_weightOf_39 rfl (lv_at hl 1 rfl) ?_
            refine wg_get F hP fσ rfl iw_X6 2 (by decide) tb_211 rfl rfl dX6_weightOf_40 ?_
            refine lv_iload_n hx hb dX6_weightOf_43 rfl (lv_at hl 3 rfl) ?_
            refine wg_ci hS (wg_rSN (As := [.long (lN b), .int (nI i)]) (rest := [.int x_27]) F hP hS (c_X7_weightIn l E A C b i hb64 hi5) ok_X7_weightIn nb_206 rfl rfl ⟨Nat.le_of_ble_eq_true rfl, Nat.le_of_ble_eq_true rfl⟩ rfl hl.1 rfl (Nat.le_of_ble_eq_true rfl) dX6_weightOf_44 ⟨Nat.le_of_ble_eq_true rfl, Nat.le_of_ble_eq_true rfl⟩) (fun r_44 A1 C_44 H locs w_44 hP hS => ?_)
            obtain ⟨w_44, rfl, rfl⟩ := w_44
            refine lv_iadd hx hb dX6_weightOf_47 ?_
            refine lv_topi (fun x_48 ex_48 => ?_)
            refine lv_istore_n (lv' := [(2, .int x_48), (0, .ref (A σ)), (1, .int (nI sg)), (3, .int (nI i))]) hx hb dX6_weightOf_48 rfl hl (by decide) rfl (fun ls hl => ?_)
            have hsum : x_48 = nI (lc_two (fun k => lc_bit sg k * lc_w a b k) (i + 1)) := by
              rw [hstep, hb1, hb2, lc_w_lo hi5, lc_w_hi]
              first | (rw [ex_48, w_44, ex_27, w_23, ex2, nI_add, nI_add]; congr 1; omega) | (rw [ex_48, w_44, ex2, nI_add]; congr 1; omega) | (rw [ex_27, w_23, ex2, nI_add]; congr 1; omega) | (rw [ex2]; congr 1; omega)
            obtain ⟨x_49, ex_49⟩ : ∃ y : Int32, y = nI i + 1 := ⟨_, rfl⟩
            refine lv_iinc (v := x_49) (lv' := [(3, .int x_49), (2, .int x_48), (0, .ref (A σ)), (1, .int (nI sg))]) hx hb dX6_weightOf_49 hl (k := 3) rfl (by rw [ex_49]; rfl) (by decide) rfl (fun ls hl => ?_)
            refine lv_goto (tgt := 4) hx hb dX6_weightOf_52 (by decide) ?_
            exact ih_loop_4 (i + 1) x_48 x_49 (by omega) (by omega) hsum (by rw [ex_49, nI_1]) _ _ _ hP hS (lv_sub hl [2, 3, 1, 0] rfl)
  exact loop_4 _ 0 0 0 (Nat.lt_succ_self _) (by omega) rfl rfl _ _ _ hP hS (lv_sub hl [2, 3, 1, 0] rfl)
set_option maxHeartbeats 4000000 in
set_option maxRecDepth 100000 in
theorem c_X7_isLeaf (l : Launch) (E : wg_E) (A : Nat → Nat) (C : wg_C) (k : Int32)   : Met l yX7_isLeaf (wg_ws yX7_isLeaf cX7_isLeaf 1 (some .boolean)) (wg_rm 0 0 0) (wg_Pc E A C [.int k]) (wg_Qi E (fun r A1 C1 => ((∃ j : Nat, j < 8 ∧ k = nI j ∧ r = 1) ∨ ((k < 0 ∨ nI 8 ≤ k) ∧ r = 0)) ∧ A = A1 ∧ C = C1)) 0 0 (wg_A E) := by
  refine wg_met (by decide) (Nat.le_of_ble_eq_true rfl) ?_
  intro p e s m below meth c ls F hr hlk hnm hP hS hl
  have F : wg_F p m c cX7_isLeaf 1 s ([.int k] : List Value).toArray "LightChecks" E := F
  have hx := F.1
  have hb := F.2.1
  have hml := F.2.2.1
  have hown := F.2.2.2.1
  have hts := F.2.2.2.2.1
  have hl : lv_has ls 1 [(0, .int k)] := hl
  refine lv_iload_n hx hb dX7_isLeaf_0 rfl (lv_at hl 0 rfl) ?_
  refine lv_if_lt (tgt := 14) hx hb dX7_isLeaf_1 (by decide) (fun c_1 => ?_) (fun c_1 => ?_)
  · refine lv_iconst (v := 0) hx hb dX7_isLeaf_14 (by decide) ?_
    exact wg_zret F hP hS hr hlk (by decide) ⟨Or.inr ⟨by first | exact Or.inl c_1 | exact Or.inr c_7, rfl⟩, rfl, rfl⟩ dX7_isLeaf_15
  · refine lv_iload_n hx hb dX7_isLeaf_4 rfl (lv_at hl 0 rfl) ?_
    refine lv_bipush (v := 8) hx hb dX7_isLeaf_5 (by decide) ?_
    refine lv_icmp_ge (tgt := 14) hx hb dX7_isLeaf_7 (by decide) (fun c_7 => ?_) (fun c_7 => ?_)
    · refine lv_iconst (v := 0) hx hb dX7_isLeaf_14 (by decide) ?_
      exact wg_zret F hP hS hr hlk (by decide) ⟨Or.inr ⟨by first | exact Or.inl c_1 | exact Or.inr c_7, rfl⟩, rfl, rfl⟩ dX7_isLeaf_15
    · obtain ⟨j, hj, ej⟩ := nI_of c_1
      have hj8 : j < 8 := by rw [ej, show (8 : Int32) = nI 8 from rfl, nI_leI (by decide) hj] at c_7; omega
      refine lv_iconst (v := 1) hx hb dX7_isLeaf_10 (by decide) ?_
      refine lv_goto (tgt := 15) hx hb dX7_isLeaf_11 (by decide) ?_
      exact wg_zret F hP hS hr hlk (by decide) ⟨Or.inl ⟨j, hj8, ej, rfl⟩, rfl, rfl⟩ dX7_isLeaf_15
set_option maxHeartbeats 4000000 in
set_option maxRecDepth 100000 in
theorem c_X7_isHeight (l : Launch) (E : wg_E) (A : Nat → Nat) (C : wg_C) (k : Int32)   : Met l yX7_isHeight (wg_ws yX7_isHeight cX7_isHeight 1 (some .boolean)) (wg_rm 0 0 0) (wg_Pc E A C [.int k]) (wg_Qi E (fun r A1 C1 => ((∃ j : Nat, j ≤ 100000 ∧ k = nI j ∧ r = 1) ∨ ((k < 0 ∨ nI 100000 < k) ∧ r = 0)) ∧ A = A1 ∧ C = C1)) 0 0 (wg_A E) := by
  refine wg_met (by decide) (Nat.le_of_ble_eq_true rfl) ?_
  intro p e s m below meth c ls F hr hlk hnm hP hS hl
  have F : wg_F p m c cX7_isHeight 1 s ([.int k] : List Value).toArray "LightChecks" E := F
  have hx := F.1
  have hb := F.2.1
  have hml := F.2.2.1
  have hown := F.2.2.2.1
  have hts := F.2.2.2.2.1
  have hl : lv_has ls 1 [(0, .int k)] := hl
  refine lv_iload_n hx hb dX7_isHeight_0 rfl (lv_at hl 0 rfl) ?_
  refine lv_if_lt (tgt := 15) hx hb dX7_isHeight_1 (by decide) (fun c_1 => ?_) (fun c_1 => ?_)
  · refine lv_iconst (v := 0) hx hb dX7_isHeight_15 (by decide) ?_
    exact wg_zret F hP hS hr hlk (by decide) ⟨Or.inr ⟨by first | exact Or.inl c_1 | exact Or.inr c_8, rfl⟩, rfl, rfl⟩ dX7_isHeight_16
  · refine lv_iload_n hx hb dX7_isHeight_4 rfl (lv_at hl 0 rfl) ?_
    refine lv_ldcw (v := 100000) hx hb hown (hts _ tb_234) dX7_isHeight_5 ?_
    refine lv_icmp_gt (tgt := 15) hx hb dX7_isHeight_8 (by decide) (fun c_8 => ?_) (fun c_8 => ?_)
    · refine lv_iconst (v := 0) hx hb dX7_isHeight_15 (by decide) ?_
      exact wg_zret F hP hS hr hlk (by decide) ⟨Or.inr ⟨by first | exact Or.inl c_1 | exact Or.inr c_8, rfl⟩, rfl, rfl⟩ dX7_isHeight_16
    · obtain ⟨j, hj, ej⟩ := nI_of c_1
      have hj8 : j ≤ 100000 := by rw [ej, show (100000 : Int32) = nI 100000 from rfl, nI_ltI (by decide) hj] at c_8; omega
      refine lv_iconst (v := 1) hx hb dX7_isHeight_11 (by decide) ?_
      refine lv_goto (tgt := 16) hx hb dX7_isHeight_12 (by decide) ?_
      exact wg_zret F hP hS hr hlk (by decide) ⟨Or.inl ⟨j, hj8, ej, rfl⟩, rfl, rfl⟩ dX7_isHeight_16
set_option maxHeartbeats 4000000 in
set_option maxRecDepth 100000 in
theorem c_X7_arePieces (l : Launch) (E : wg_E) (A : Nat → Nat) (C : wg_C) (a b : Int32)   : Met l yX7_arePieces (wg_ws yX7_arePieces cX7_arePieces 2 (some .boolean)) (wg_rm 0 0 0) (wg_Pc E A C [.int a, .int b]) (wg_Qi E (fun r A1 C1 => ((∃ n m : Nat, 1 ≤ n ∧ n ≤ 60 ∧ m ≤ n ∧ a = nI n ∧ b = nI m ∧ r = 1) ∨ ((a < 1 ∨ 60 < a ∨ b < 0 ∨ a < b) ∧ r = 0)) ∧ A = A1 ∧ C = C1)) 0 0 (wg_A E) := by
  refine wg_met (by decide) (Nat.le_of_ble_eq_true rfl) ?_
  intro p e s m below meth c ls F hr hlk hnm hP hS hl
  have F : wg_F p m c cX7_arePieces 2 s ([.int a, .int b] : List Value).toArray "LightChecks" E := F
  have hx := F.1
  have hb := F.2.1
  have hml := F.2.2.1
  have hown := F.2.2.2.1
  have hts := F.2.2.2.2.1
  have hl : lv_has ls 2 [(0, .int a), (1, .int b)] := hl
  refine lv_iload_n hx hb dX7_arePieces_0 rfl (lv_at hl 0 rfl) ?_
  refine lv_iconst (v := 1) hx hb dX7_arePieces_1 (by decide) ?_
  refine lv_icmp_lt (tgt := 24) hx hb dX7_arePieces_2 (by decide) (fun c_2 => ?_) (fun c_2 => ?_)
  · refine lv_iconst (v := 0) hx hb dX7_arePieces_24 (by decide) ?_
    exact wg_zret F hP hS hr hlk (by decide) ⟨Or.inr ⟨by first | exact Or.inl c_2 | exact Or.inr (Or.inl c_8) | exact Or.inr (Or.inr (Or.inl c_12)) | exact Or.inr (Or.inr (Or.inr c_17)), rfl⟩, rfl, rfl⟩ dX7_arePieces_25
  · refine lv_iload_n hx hb dX7_arePieces_5 rfl (lv_at hl 0 rfl) ?_
    refine lv_bipush (v := 60) hx hb dX7_arePieces_6 (by decide) ?_
    refine lv_icmp_gt (tgt := 24) hx hb dX7_arePieces_8 (by decide) (fun c_8 => ?_) (fun c_8 => ?_)
    · refine lv_iconst (v := 0) hx hb dX7_arePieces_24 (by decide) ?_
      exact wg_zret F hP hS hr hlk (by decide) ⟨Or.inr ⟨by first | exact Or.inl c_2 | exact Or.inr (Or.inl c_8) | exact Or.inr (Or.inr (Or.inl c_12)) | exact Or.inr (Or.inr (Or.inr c_17)), rfl⟩, rfl, rfl⟩ dX7_arePieces_25
    · refine lv_iload_n hx hb dX7_arePieces_11 rfl (lv_at hl 1 rfl) ?_
      refine lv_if_lt (tgt := 24) hx hb dX7_arePieces_12 (by decide) (fun c_12 => ?_) (fun c_12 => ?_)
      · refine lv_iconst (v := 0) hx hb dX7_arePieces_24 (by decide) ?_
        exact wg_zret F hP hS hr hlk (by decide) ⟨Or.inr ⟨by first | exact Or.inl c_2 | exact Or.inr (Or.inl c_8) | exact Or.inr (Or.inr (Or.inl c_12)) | exact Or.inr (Or.inr (Or.inr c_17)), rfl⟩, rfl, rfl⟩ dX7_arePieces_25
      · refine lv_iload_n hx hb dX7_arePieces_15 rfl (lv_at hl 1 rfl) ?_
        refine lv_iload_n hx hb dX7_arePieces_16 rfl (lv_at hl 0 rfl) ?_
        refine lv_icmp_gt (tgt := 24) hx hb dX7_arePieces_17 (by decide) (fun c_17 => ?_) (fun c_17 => ?_)
        · refine lv_iconst (v := 0) hx hb dX7_arePieces_24 (by decide) ?_
          exact wg_zret F hP hS hr hlk (by decide) ⟨Or.inr ⟨by first | exact Or.inl c_2 | exact Or.inr (Or.inl c_8) | exact Or.inr (Or.inr (Or.inl c_12)) | exact Or.inr (Or.inr (Or.inr c_17)), rfl⟩, rfl, rfl⟩ dX7_arePieces_25
        · obtain ⟨n, m, h1, h2, h3, ea, eb⟩ := lc_pieces c_2 c_8 c_12 c_17
          refine lv_iconst (v := 1) hx hb dX7_arePieces_20 (by decide) ?_
          refine lv_goto (tgt := 25) hx hb dX7_arePieces_21 (by decide) ?_
          exact wg_zret F hP hS hr hlk (by decide) ⟨Or.inl ⟨n, m, h1, h2, h3, ea, eb, rfl⟩, rfl, rfl⟩ dX7_arePieces_25
set_option maxHeartbeats 4000000 in
set_option maxRecDepth 100000 in
theorem c_X7_setAt (l : Launch) (E : wg_E) (A : Nat → Nat) (C : wg_C) (ns : Nat) (f : Nat → Option Nat) (k : Int32) (hns : ns ≤ 16) (f0 : C 0 = some (.inr (7, [.ref (A 1), .int (nI ns), .ref (A 2), .ref (A 4), .ref (A 5), .ref (A 6), .ref (A 7), .ref (A 8), .ref (A 11)]))) (f1 : C 1 = some (.inl (E.2.1 3, 16, .inr (.inr (.inr (.inr f)))))) : Met l yX7_setAt (wg_ws yX7_setAt cX7_setAt 2 (some (.object "LightChecks$WeightSet"))) (wg_rm 0 0 0) (wg_Pc E A C [.ref (A 0), .int k]) (wg_Qq E (fun r A1 C1 => r = lc_at ns f k ∧ A = A1 ∧ C = C1)) 0 0 (wg_A E) := by
  refine wg_met (by decide) (Nat.le_of_ble_eq_true rfl) ?_
  intro p e s m below meth c ls F hr hlk hnm hP hS hl
  have F : wg_F p m c cX7_setAt 2 s ([.ref (A 0), .int k] : List Value).toArray "LightChecks" E := F
  have hx := F.1
  have hb := F.2.1
  have hml := F.2.2.1
  have hown := F.2.2.2.1
  have hts := F.2.2.2.2.1
  have hl : lv_has ls 2 [(0, .ref (A 0)), (1, .int k)] := hl
  refine lv_iload_n hx hb dX7_setAt_0 rfl (lv_at hl 1 rfl) ?_
  refine lv_if_lt (tgt := 30) hx hb dX7_setAt_1 (by decide) (fun c_1 => ?_) (fun c_1 => ?_)
  · refine lv_null hx hb dX7_setAt_30 ?_
    exact wg_qret (v := none) F hP hS hr ⟨_, rfl⟩ hlk (⟨(lc_at_out (by first | exact Or.inl c_1 | exact Or.inr c_9) (by omega)).symm, rfl, rfl⟩) dX7_setAt_31
  · obtain ⟨j, hj, rfl⟩ := nI_of c_1
    refine lv_iload_n hx hb dX7_setAt_4 rfl (lv_at hl 1 rfl) ?_
    refine lv_aload_n hx hb dX7_setAt_5 rfl (lv_at hl 0 rfl) ?_
    refine wg_get F hP f0 rfl iw_X7 1 (by decide) tb_164 rfl rfl dX7_setAt_6 ?_
    refine lv_icmp_ge (tgt := 30) hx hb dX7_setAt_9 (by decide) (fun c_9 => ?_) (fun c_9 => ?_)
    · refine lv_null hx hb dX7_setAt_30 ?_
      exact wg_qret (v := none) F hP hS hr ⟨_, rfl⟩ hlk (⟨(lc_at_out (by first | exact Or.inl c_1 | exact Or.inr c_9) (by omega)).symm, rfl, rfl⟩) dX7_setAt_31
    · have hjn : j < ns := by rw [nI_leI (by omega) hj] at c_9; omega
      refine lv_iload_n hx hb dX7_setAt_12 rfl (lv_at hl 1 rfl) ?_
      refine lv_aload_n hx hb dX7_setAt_13 rfl (lv_at hl 0 rfl) ?_
      refine wg_get F hP f0 rfl iw_X7 0 (by decide) tb_163 rfl rfl dX7_setAt_14 ?_
      refine wg_len (t := 3) F hP rfl f1 (v := nI 16) rfl dX7_setAt_17 ?_
      refine lv_icmp_ge (tgt := 30) hx hb dX7_setAt_18 (by decide) (fun c_18 => ?_) (fun c_18 => ?_)
      · exact absurd c_18 (by rw [nI_leI (by decide) hj]; omega)
      · refine lv_aload_n hx hb dX7_setAt_21 rfl (lv_at hl 0 rfl) ?_
        refine wg_get F hP f0 rfl iw_X7 0 (by decide) tb_163 rfl rfl dX7_setAt_22 ?_
        refine lv_iload_n hx hb dX7_setAt_25 rfl (lv_at hl 1 rfl) ?_
        refine wg_qld F hP 3 rfl f1 (vp_in_nI (by omega) (by decide)) dX7_setAt_26 ?_
        refine lv_goto (tgt := 31) hx hb dX7_setAt_27 (by decide) ?_
        exact wg_qret (v := f (nI j).toNatClampNeg) F hP hS hr ⟨_, rfl⟩ hlk (⟨by rw [lc_at_in hjn (by omega), nI_clamp hj], rfl, rfl⟩) dX7_setAt_31
set_option maxHeartbeats 4000000 in
set_option maxRecDepth 100000 in
theorem c_X7_clientAt (l : Launch) (E : wg_E) (A : Nat → Nat) (C : wg_C) (ns : Nat) (f : Nat → Option Nat) (k : Int32)  (f0 : C 0 = some (.inr (7, [.ref (A 1), .int (nI ns), .ref (A 2), .ref (A 4), .ref (A 5), .ref (A 6), .ref (A 7), .ref (A 8), .ref (A 11)]))) (f5 : C 5 = some (.inl (E.2.1 5, 4, .inr (.inr (.inr (.inr f)))))) : Met l yX7_clientAt (wg_ws yX7_clientAt cX7_clientAt 2 (some (.object "LightChecks$Client"))) (wg_rm 0 0 0) (wg_Pc E A C [.ref (A 0), .int k]) (wg_Qq E (fun r A1 C1 => r = lc_at 4 f k ∧ A = A1 ∧ C = C1)) 0 0 (wg_A E) := by
  refine wg_met (by decide) (Nat.le_of_ble_eq_true rfl) ?_
  intro p e s m below meth c ls F hr hlk hnm hP hS hl
  have F : wg_F p m c cX7_clientAt 2 s ([.ref (A 0), .int k] : List Value).toArray "LightChecks" E := F
  have hx := F.1
  have hb := F.2.1
  have hml := F.2.2.1
  have hown := F.2.2.2.1
  have hts := F.2.2.2.2.1
  have hl : lv_has ls 2 [(0, .ref (A 0)), (1, .int k)] := hl
  refine lv_iload_n hx hb dX7_clientAt_0 rfl (lv_at hl 1 rfl) ?_
  refine lv_if_lt (tgt := 22) hx hb dX7_clientAt_1 (by decide) (fun c_1 => ?_) (fun c_1 => ?_)
  · refine lv_null hx hb dX7_clientAt_22 ?_
    exact wg_qret (v := none) F hP hS hr ⟨_, rfl⟩ hlk (⟨(lc_at_out (by first | exact Or.inl c_1 | exact Or.inr c_10) (by omega)).symm, rfl, rfl⟩) dX7_clientAt_23
  · obtain ⟨j, hj, rfl⟩ := nI_of c_1
    refine lv_iload_n hx hb dX7_clientAt_4 rfl (lv_at hl 1 rfl) ?_
    refine lv_aload_n hx hb dX7_clientAt_5 rfl (lv_at hl 0 rfl) ?_
    refine wg_get F hP f0 rfl iw_X7 4 (by decide) tb_167 rfl rfl dX7_clientAt_6 ?_
    refine wg_len (t := 5) F hP rfl f5 (v := nI 4) rfl dX7_clientAt_9 ?_
    refine lv_icmp_ge (tgt := 22) hx hb dX7_clientAt_10 (by decide) (fun c_10 => ?_) (fun c_10 => ?_)
    · refine lv_null hx hb dX7_clientAt_22 ?_
      exact wg_qret (v := none) F hP hS hr ⟨_, rfl⟩ hlk (⟨(lc_at_out (by first | exact Or.inl c_1 | exact Or.inr c_10) (by omega)).symm, rfl, rfl⟩) dX7_clientAt_23
    · have hjn : j < 4 := by rw [nI_leI (by decide) hj] at c_10; omega
      refine lv_aload_n hx hb dX7_clientAt_13 rfl (lv_at hl 0 rfl) ?_
      refine wg_get F hP f0 rfl iw_X7 4 (by decide) tb_167 rfl rfl dX7_clientAt_14 ?_
      refine lv_iload_n hx hb dX7_clientAt_17 rfl (lv_at hl 1 rfl) ?_
      refine wg_qld F hP 5 rfl f5 (vp_in_nI hjn (by decide)) dX7_clientAt_18 ?_
      refine lv_goto (tgt := 23) hx hb dX7_clientAt_19 (by decide) ?_
      exact wg_qret (v := f (nI j).toNatClampNeg) F hP hS hr ⟨_, rfl⟩ hlk (⟨by rw [lc_at_in hjn (by omega), nI_clamp hj], rfl, rfl⟩) dX7_clientAt_23
set_option maxHeartbeats 4000000 in
set_option maxRecDepth 100000 in
theorem c_X7_giverAt (l : Launch) (E : wg_E) (A : Nat → Nat) (C : wg_C) (ns : Nat) (f : Nat → Option Nat) (k : Int32)  (f0 : C 0 = some (.inr (7, [.ref (A 1), .int (nI ns), .ref (A 2), .ref (A 4), .ref (A 5), .ref (A 6), .ref (A 7), .ref (A 8), .ref (A 11)]))) (f6 : C 6 = some (.inl (E.2.1 6, 4, .inr (.inr (.inr (.inr f)))))) : Met l yX7_giverAt (wg_ws yX7_giverAt cX7_giverAt 2 (some (.object "LightChecks$Giver"))) (wg_rm 0 0 0) (wg_Pc E A C [.ref (A 0), .int k]) (wg_Qq E (fun r A1 C1 => r = lc_at 4 f k ∧ A = A1 ∧ C = C1)) 0 0 (wg_A E) := by
  refine wg_met (by decide) (Nat.le_of_ble_eq_true rfl) ?_
  intro p e s m below meth c ls F hr hlk hnm hP hS hl
  have F : wg_F p m c cX7_giverAt 2 s ([.ref (A 0), .int k] : List Value).toArray "LightChecks" E := F
  have hx := F.1
  have hb := F.2.1
  have hml := F.2.2.1
  have hown := F.2.2.2.1
  have hts := F.2.2.2.2.1
  have hl : lv_has ls 2 [(0, .ref (A 0)), (1, .int k)] := hl
  refine lv_iload_n hx hb dX7_giverAt_0 rfl (lv_at hl 1 rfl) ?_
  refine lv_if_lt (tgt := 22) hx hb dX7_giverAt_1 (by decide) (fun c_1 => ?_) (fun c_1 => ?_)
  · refine lv_null hx hb dX7_giverAt_22 ?_
    exact wg_qret (v := none) F hP hS hr ⟨_, rfl⟩ hlk (⟨(lc_at_out (by first | exact Or.inl c_1 | exact Or.inr c_10) (by omega)).symm, rfl, rfl⟩) dX7_giverAt_23
  · obtain ⟨j, hj, rfl⟩ := nI_of c_1
    refine lv_iload_n hx hb dX7_giverAt_4 rfl (lv_at hl 1 rfl) ?_
    refine lv_aload_n hx hb dX7_giverAt_5 rfl (lv_at hl 0 rfl) ?_
    refine wg_get F hP f0 rfl iw_X7 5 (by decide) tb_168 rfl rfl dX7_giverAt_6 ?_
    refine wg_len (t := 6) F hP rfl f6 (v := nI 4) rfl dX7_giverAt_9 ?_
    refine lv_icmp_ge (tgt := 22) hx hb dX7_giverAt_10 (by decide) (fun c_10 => ?_) (fun c_10 => ?_)
    · refine lv_null hx hb dX7_giverAt_22 ?_
      exact wg_qret (v := none) F hP hS hr ⟨_, rfl⟩ hlk (⟨(lc_at_out (by first | exact Or.inl c_1 | exact Or.inr c_10) (by omega)).symm, rfl, rfl⟩) dX7_giverAt_23
    · have hjn : j < 4 := by rw [nI_leI (by decide) hj] at c_10; omega
      refine lv_aload_n hx hb dX7_giverAt_13 rfl (lv_at hl 0 rfl) ?_
      refine wg_get F hP f0 rfl iw_X7 5 (by decide) tb_168 rfl rfl dX7_giverAt_14 ?_
      refine lv_iload_n hx hb dX7_giverAt_17 rfl (lv_at hl 1 rfl) ?_
      refine wg_qld F hP 6 rfl f6 (vp_in_nI hjn (by decide)) dX7_giverAt_18 ?_
      refine lv_goto (tgt := 23) hx hb dX7_giverAt_19 (by decide) ?_
      exact wg_qret (v := f (nI j).toNatClampNeg) F hP hS hr ⟨_, rfl⟩ hlk (⟨by rw [lc_at_in hjn (by omega), nI_clamp hj], rfl, rfl⟩) dX7_giverAt_23
set_option maxHeartbeats 4000000 in
set_option maxRecDepth 100000 in
theorem c_X7_isCertified (l : Launch) (E : wg_E) (A : Nat → Nat) (C : wg_C) (h o fo a b sg : Nat) (num ht nu2 : Int32) (pa rt fp : Int64) (ha : a < 2 ^ 64) (hb64 : b < 2 ^ 64) (hs : sg < 1024) (fh : C h = some (.inr (2, [.int num, .int ht, .long pa, .ref (A o), .ref (A fo), .long rt, .long fp, .int (nI sg)]))) (fo : C o = some (.inr (6, [.int nu2, .long (lN a), .long (lN b), .int (nI (lc_tot a b))]))) : Met l yX7_isCertified (wg_ws yX7_isCertified cX7_isCertified 1 (some .boolean)) (wg_rm 2 0 0) (wg_Pc E A C [.ref (A h)]) (wg_Qi E (fun r A1 C1 => r = (if 2 * lc_tot a b < 3 * lc_wof a b sg then 1 else 0) ∧ A = A1 ∧ C = C1)) 0 0 (wg_A E) := by
  refine wg_met (by decide) (Nat.le_of_ble_eq_true rfl) ?_
  intro p e s m below meth c ls F hr hlk hnm hP hS hl
  have F : wg_F p m c cX7_isCertified 1 s ([.ref (A h)] : List Value).toArray "LightChecks" E := F
  have hx := F.1
  have hb := F.2.1
  have hml := F.2.2.1
  have hown := F.2.2.2.1
  have hts := F.2.2.2.2.1
  have hl : lv_has ls 1 [(0, .ref (A h))] := hl
  refine lv_iconst (v := 3) hx hb dX7_isCertified_0 (by decide) ?_
  refine lv_aload_n hx hb dX7_isCertified_1 rfl (lv_at hl 0 rfl) ?_
  refine wg_getN F hP fh rfl iw_X2 3 (by decide) nb_255 rfl rfl dX7_isCertified_2 ?_
  refine lv_aload_n hx hb dX7_isCertified_5 rfl (lv_at hl 0 rfl) ?_
  refine wg_getN F hP fh rfl iw_X2 7 (by decide) nb_264 rfl rfl dX7_isCertified_6 ?_
  refine wg_ci hS (wg_rVN (As := [.int (nI sg)]) (rest := [.int 3]) F hP hS (c_X6_weightOf l E A C o a b sg nu2 ha hb64 hs fo) ok_X6_weightOf nb_314 rfl rfl ⟨Nat.le_of_ble_eq_true rfl, Nat.le_of_ble_eq_true rfl⟩ fo rfl rfl rfl hl.1 rfl (Nat.le_of_ble_eq_true rfl) dX7_isCertified_9 ⟨Nat.le_of_ble_eq_true rfl, Nat.le_of_ble_eq_true rfl⟩) (fun r_9 A1 C_9 H locs w_9 hP hS => ?_)
  obtain ⟨w_9, rfl, rfl⟩ := w_9
  refine lv_imul hx hb dX7_isCertified_12 ?_
  refine lv_iconst (v := 2) hx hb dX7_isCertified_13 (by decide) ?_
  refine lv_aload_n hx hb dX7_isCertified_14 rfl (lv_at hl 0 rfl) ?_
  refine wg_getN F hP fh rfl iw_X2 3 (by decide) nb_255 rfl rfl dX7_isCertified_15 ?_
  refine wg_getN F hP fo rfl iw_X6 3 (by decide) nb_213 rfl rfl dX7_isCertified_18 ?_
  refine lv_imul hx hb dX7_isCertified_21 ?_
  refine lv_icmp_le (tgt := 29) hx hb dX7_isCertified_22 (by decide) (fun c_22 => ?_) (fun c_22 => ?_)
  · rw [w_9, show (3 : Int32) = nI 3 from rfl, show (2 : Int32) = nI 2 from rfl, pk_mul, pk_mul, nI_leI (by have := lc_wof_lt a b sg; omega) (by have := lc_tot_lt a b; omega)] at c_22
    refine lv_iconst (v := 0) hx hb dX7_isCertified_29 (by decide) ?_
    exact wg_zret F hP hS hr hlk (by decide) ⟨by rw [if_neg (by omega)], rfl, rfl⟩ dX7_isCertified_30
  · rw [w_9, show (3 : Int32) = nI 3 from rfl, show (2 : Int32) = nI 2 from rfl, pk_mul, pk_mul, nI_leI (by have := lc_wof_lt a b sg; omega) (by have := lc_tot_lt a b; omega)] at c_22
    refine lv_iconst (v := 1) hx hb dX7_isCertified_25 (by decide) ?_
    refine lv_goto (tgt := 30) hx hb dX7_isCertified_26 (by decide) ?_
    exact wg_zret F hP hS hr hlk (by decide) ⟨by rw [if_pos (by omega)], rfl, rfl⟩ dX7_isCertified_30
set_option maxHeartbeats 4000000 in
set_option maxRecDepth 100000 in
theorem c_X7_doesOverlap (l : Launch) (E : wg_E) (A : Nat → Nat) (C : wg_C) (ns : Nat) (tm : Nat → Nat) (σ : Nat) (h o fo a b sg : Nat) (num ht nu2 : Int32) (pa rt fp : Int64) (ha : a < 2 ^ 64) (hb64 : b < 2 ^ 64) (hs : sg < 1024) (h0 : tm 0 ≤ 1000) (h1 : tm 1 ≤ 1000) (f0 : C 0 = some (.inr (7, [.ref (A 1), .int (nI ns), .ref (A 2), .ref (A 4), .ref (A 5), .ref (A 6), .ref (A 7), .ref (A 8), .ref (A 11)]))) (f4 : C 4 = some (.inl (E.2.1 0, 4, .inl (fun k => nI (tm k))))) (fh : C h = some (.inr (2, [.int num, .int ht, .long pa, .ref (A o), .ref (A fo), .long rt, .long fp, .int (nI sg)]))) (fσ : C σ = some (.inr (6, [.int nu2, .long (lN a), .long (lN b), .int (nI (lc_tot a b))]))) : Met l yX7_doesOverlap (wg_ws yX7_doesOverlap cX7_doesOverlap 3 (some .boolean)) (wg_rm 2 0 0) (wg_Pc E A C [.ref (A 0), .ref (A h), .ref (A σ)]) (wg_Qi E (fun r A1 C1 => r = (if tm 0 * lc_tot a b < tm 1 * lc_wof a b sg then 1 else 0) ∧ A = A1 ∧ C = C1)) 0 0 (wg_A E) := by
  refine wg_met (by decide) (Nat.le_of_ble_eq_true rfl) ?_
  intro p e s m below meth c ls F hr hlk hnm hP hS hl
  have F : wg_F p m c cX7_doesOverlap 3 s ([.ref (A 0), .ref (A h), .ref (A σ)] : List Value).toArray "LightChecks" E := F
  have hx := F.1
  have hb := F.2.1
  have hml := F.2.2.1
  have hown := F.2.2.2.1
  have hts := F.2.2.2.2.1
  have hl : lv_has ls 3 [(0, .ref (A 0)), (1, .ref (A h)), (2, .ref (A σ))] := hl
  refine lv_aload_n hx hb dX7_doesOverlap_0 rfl (lv_at hl 0 rfl) ?_
  refine wg_get F hP f0 rfl iw_X7 3 (by decide) tb_166 rfl rfl dX7_doesOverlap_1 ?_
  refine lv_iconst (v := 1) hx hb dX7_doesOverlap_4 (by decide) ?_
  refine wg_ild F hP f4 (vp_in_nI (n := 1) (by decide) (by decide)) dX7_doesOverlap_5 ?_
  refine wg_topi (y := nI (tm 1)) rfl ?_
  refine lv_aload_n hx hb dX7_doesOverlap_6 rfl (lv_at hl 2 rfl) ?_
  refine lv_aload_n hx hb dX7_doesOverlap_7 rfl (lv_at hl 1 rfl) ?_
  refine wg_getN F hP fh rfl iw_X2 7 (by decide) nb_264 rfl rfl dX7_doesOverlap_8 ?_
  refine wg_ci hS (wg_rVN (As := [.int (nI sg)]) (rest := [.int (nI (tm 1))]) F hP hS (c_X6_weightOf l E A C σ a b sg nu2 ha hb64 hs fσ) ok_X6_weightOf nb_314 rfl rfl ⟨Nat.le_of_ble_eq_true rfl, Nat.le_of_ble_eq_true rfl⟩ fσ rfl rfl rfl hl.1 rfl (Nat.le_of_ble_eq_true rfl) dX7_doesOverlap_11 ⟨Nat.le_of_ble_eq_true rfl, Nat.le_of_ble_eq_true rfl⟩) (fun r_11 A1 C_11 H locs w_11 hP hS => ?_)
  obtain ⟨w_11, rfl, rfl⟩ := w_11
  refine lv_imul hx hb dX7_doesOverlap_14 ?_
  refine lv_aload_n hx hb dX7_doesOverlap_15 rfl (lv_at hl 0 rfl) ?_
  refine wg_get F hP f0 rfl iw_X7 3 (by decide) tb_166 rfl rfl dX7_doesOverlap_16 ?_
  refine lv_iconst (v := 0) hx hb dX7_doesOverlap_19 (by decide) ?_
  refine wg_ild F hP f4 (vp_in_nI (n := 0) (by decide) (by decide)) dX7_doesOverlap_20 ?_
  refine wg_topi (y := nI (tm 0)) rfl ?_
  refine lv_aload_n hx hb dX7_doesOverlap_21 rfl (lv_at hl 2 rfl) ?_
  refine wg_getN F hP fσ rfl iw_X6 3 (by decide) nb_213 rfl rfl dX7_doesOverlap_22 ?_
  refine lv_imul hx hb dX7_doesOverlap_25 ?_
  have q1 : tm 1 * lc_wof a b sg ≤ 1000 * 1270 := Nat.mul_le_mul h1 (lc_wof_lt a b sg)
  have q0 : tm 0 * lc_tot a b ≤ 1000 * 1270 := Nat.mul_le_mul h0 (lc_tot_lt a b)
  refine lv_icmp_le (tgt := 33) hx hb dX7_doesOverlap_26 (by decide) (fun c_26 => ?_) (fun c_26 => ?_)
  · rw [w_11, pk_mul, pk_mul, nI_leI (by omega) (by omega)] at c_26
    refine lv_iconst (v := 0) hx hb dX7_doesOverlap_33 (by decide) ?_
    exact wg_zret F hP hS hr hlk (by decide) ⟨by rw [if_neg (by omega)], rfl, rfl⟩ dX7_doesOverlap_34
  · rw [w_11, pk_mul, pk_mul, nI_leI (by omega) (by omega)] at c_26
    refine lv_iconst (v := 1) hx hb dX7_doesOverlap_29 (by decide) ?_
    refine lv_goto (tgt := 34) hx hb dX7_doesOverlap_30 (by decide) ?_
    exact wg_zret F hP hS hr hlk (by decide) ⟨by rw [if_pos (by omega)], rfl, rfl⟩ dX7_doesOverlap_34
