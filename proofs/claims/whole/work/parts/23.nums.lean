set_option maxHeartbeats 4000000 in
set_option maxRecDepth 100000 in
theorem c_X7_choose (l : Launch) (E : wg_E) (A : Nat → Nat) (C : wg_C) (n k : Nat) (hn : n ≤ 60) (hk : k ≤ 60)  : Met l yX7_choose (wg_ws yX7_choose cX7_choose 5 (some .long)) (wg_rm 0 0 0) (wg_Pc E A C [.int (nI n), .int (nI k)]) (wg_Ql E (fun r A1 C1 => r = lN (lc_C n k) ∧ A = A1 ∧ C = C1)) 0 0 (wg_A E) := by
  refine wg_met (by decide) (Nat.le_of_ble_eq_true rfl) ?_
  intro p e s m below meth c ls F hr hlk hnm hP hS hl
  have F : wg_F p m c cX7_choose 5 s ([.int (nI n), .int (nI k)] : List Value).toArray "LightChecks" E := F
  have hx := F.1
  have hb := F.2.1
  have hml := F.2.2.1
  have hown := F.2.2.2.1
  have hts := F.2.2.2.2.1
  have hl : lv_has ls 5 [(0, .int (nI n)), (1, .int (nI k))] := hl
  refine lv_iload_n hx hb dX7_choose_0 rfl (lv_at hl 1 rfl) ?_
  refine lv_iload_n hx hb dX7_choose_1 rfl (lv_at hl 0 rfl) ?_
  refine lv_icmp_le (tgt := 7) hx hb dX7_choose_2 (by decide) (fun c_2 => ?_) (fun c_2 => ?_)
  · rw [nI_leI (by omega) (by omega)] at c_2
    refine lv_lconst (v := 1) hx hb dX7_choose_7 (by decide) ?_
    refine lv_lstore_n (lv' := [(2, .long 1), (0, .int (nI n)), (1, .int (nI k))]) hx hb dX7_choose_8 rfl hl (by decide) rfl (fun ls hl => ?_)
    refine lv_iconst (v := 0) hx hb dX7_choose_9 (by decide) ?_
    refine lv_istore (lv' := [(4, .int 0), (2, .long 1), (0, .int (nI n)), (1, .int (nI k))]) hx hb dX7_choose_10 hl (by decide) rfl (fun ls hl => ?_)
    have loop_12 : ∀ (fuel : Nat) (i : Nat) (x2 : Int64) (x4 : Int32), k - i < fuel → (i ≤ k) → (x2 = lN (lc_ch n i)) → (x4 = nI i) → ∀ (H : Heap) (locs : List Loc) (ls : Array Slot), wg_P E A C H → va_S (wg_A E) s.heap H locs → lv_has ls 5 [(0, .int (nI n)), (1, .int (nI k)), (2, .long x2), (4, .int x4)] → W p l e (wg_rm 0 0 0) s m ([.int (nI n), .int (nI k)] : List Value).toArray below meth c H locs 0 0 (MQ below (wg_Ql E (fun r A1 C1 => r = lN (lc_C n k) ∧ A = A1 ∧ C = C1)) ([.int (nI n), .int (nI k)] : List Value).toArray s 0 0 (wg_A E)) (F0 m 12 ls []) := by
      intro fuel
      induction fuel with
      | zero => intro i x2 x4 hm; exact absurd hm (Nat.not_lt_zero _)
      | succ fuel ih_loop_12 =>
        intro i x2 x4 hm_loop_12 hi ex2 ex4 H locs ls hP hS hl
        subst ex2 ex4
        refine lv_iload hx hb dX7_choose_12 (lv_at hl 3 rfl) ?_
        refine lv_iload_n hx hb dX7_choose_14 rfl (lv_at hl 1 rfl) ?_
        refine lv_icmp_ge (tgt := 38) hx hb dX7_choose_15 (by decide) (fun c_15 => ?_) (fun c_15 => ?_)
        · rw [nI_leI (by omega) (by omega)] at c_15
          have hik : i = k := by omega
          refine lv_lload_n hx hb dX7_choose_38 rfl (lv_at hl 2 rfl) ?_
          exact wg_lret F hP hS hr hlk (⟨by unfold lc_C; rw [if_neg (by omega), hik], rfl, rfl⟩) dX7_choose_39
        · rw [nI_leI (by omega) (by omega)] at c_15
          have hb9 := lc_ch_ok hn (show i ≤ n by omega)
          refine lv_lload_n hx hb dX7_choose_18 rfl (lv_at hl 2 rfl) ?_
          refine lv_iload_n hx hb dX7_choose_19 rfl (lv_at hl 0 rfl) ?_
          refine lv_iload hx hb dX7_choose_20 (lv_at hl 3 rfl) ?_
          refine lv_isub hx hb dX7_choose_22 ?_
          refine lv_i2l (v := ((nI n) - (nI i)).toInt64) hx hb dX7_choose_23 rfl ?_
          refine lv_lmul hx hb dX7_choose_24 ?_
          refine lv_iload hx hb dX7_choose_25 (lv_at hl 3 rfl) ?_
          refine lv_iconst (v := 1) hx hb dX7_choose_27 (by decide) ?_
          refine lv_iadd hx hb dX7_choose_28 ?_
          refine lv_i2l (v := ((nI i) + 1).toInt64) hx hb dX7_choose_29 rfl ?_
          refine lv_ldiv hx hb dX7_choose_30 (by rw [nI_1, nI_l (by omega), show (0 : Int64) = lN 0 from rfl, pk_lEQ (by omega) (by decide)]; omega) ?_
          refine lv_topl (fun x_31 ex_31 => ?_)
          refine lv_lstore_n (lv' := [(2, .long x_31), (0, .int (nI n)), (1, .int (nI k)), (4, .int (nI i))]) hx hb dX7_choose_31 rfl hl (by decide) rfl (fun ls hl => ?_)
          have hnew : x_31 = lN (lc_ch n (i + 1)) := by
            rw [ex_31, pk_sub (by omega), nI_l (by omega), lN_mul, nI_1, nI_l (by omega), pk_lDiv (by omega) (by omega) (by omega)]
            rfl
          obtain ⟨x_32, ex_32⟩ : ∃ y : Int32, y = nI i + 1 := ⟨_, rfl⟩
          refine lv_iinc (v := x_32) (lv' := [(4, .int x_32), (2, .long x_31), (0, .int (nI n)), (1, .int (nI k))]) hx hb dX7_choose_32 hl (k := 3) rfl (by rw [ex_32]; rfl) (by decide) rfl (fun ls hl => ?_)
          refine lv_goto (tgt := 12) hx hb dX7_choose_35 (by decide) ?_
          exact ih_loop_12 (i + 1) x_31 x_32 (by omega) (by omega) hnew (by rw [ex_32, nI_1]) _ _ _ hP hS (lv_sub hl [2, 3, 1, 0] rfl)
    exact loop_12 _ 0 1 0 (Nat.lt_succ_self _) (by omega) rfl rfl _ _ _ hP hS (lv_sub hl [2, 3, 1, 0] rfl)
  · rw [nI_leI (by omega) (by omega)] at c_2
    refine lv_lconst (v := 0) hx hb dX7_choose_5 (by decide) ?_
    exact wg_lret F hP hS hr hlk (⟨by unfold lc_C; rw [if_pos (by omega)]; rfl, rfl, rfl⟩) dX7_choose_6
set_option maxHeartbeats 4000000 in
set_option maxRecDepth 100000 in
theorem c_X7_commonDivisor (l : Launch) (E : wg_E) (A : Nat → Nat) (C : wg_C) (x y : Nat) (hx62 : x < 2 ^ 62) (hy62 : y < 2 ^ 62) (hy1 : 1 ≤ y)  : Met l yX7_commonDivisor (wg_ws yX7_commonDivisor cX7_commonDivisor 7 (some .long)) (wg_rm 1 0 0) (wg_Pc E A C [.long (lN x), .long (lN y)]) (wg_Ql E (fun r A1 C1 => r = lN (Nat.gcd x y) ∧ A = A1 ∧ C = C1)) 0 0 (wg_A E) := by
  refine wg_met (by decide) (Nat.le_of_ble_eq_true rfl) ?_
  intro p e s m below meth c ls F hr hlk hnm hP hS hl
  have F : wg_F p m c cX7_commonDivisor 7 s ([.long (lN x), .long (lN y)] : List Value).toArray "LightChecks" E := F
  have hx := F.1
  have hb := F.2.1
  have hml := F.2.2.1
  have hown := F.2.2.2.1
  have hts := F.2.2.2.2.1
  have hl : lv_has ls 7 [(0, .long (lN x)), (2, .long (lN y))] := hl
  refine lv_iconst (v := 0) hx hb dX7_commonDivisor_0 (by decide) ?_
  refine lv_istore (lv' := [(4, .int 0), (0, .long (lN x)), (2, .long (lN y))]) hx hb dX7_commonDivisor_1 hl (by decide) rfl (fun ls hl => ?_)
  have loop_3 : ∀ (fuel : Nat) (i : Nat) (a : Nat) (b : Nat) (x0 : Int64) (x2 : Int64) (x4 : Int32), 200 - i < fuel → (i ≤ 200) → (lc_E x y i a b) → (x0 = lN a) → (x2 = lN b) → (x4 = nI i) → ∀ (H : Heap) (locs : List Loc) (ls : Array Slot), wg_P E A C H → va_S (wg_A E) s.heap H locs → lv_has ls 7 [(0, .long x0), (2, .long x2), (4, .int x4)] → W p l e (wg_rm 1 0 0) s m ([.long (lN x), .long (lN y)] : List Value).toArray below meth c H locs 0 0 (MQ below (wg_Ql E (fun r A1 C1 => r = lN (Nat.gcd x y) ∧ A = A1 ∧ C = C1)) ([.long (lN x), .long (lN y)] : List Value).toArray s 0 0 (wg_A E)) (F0 m 3 ls []) := by
    intro fuel
    induction fuel with
    | zero => intro i a b x0 x2 x4 hm; exact absurd hm (Nat.not_lt_zero _)
    | succ fuel ih_loop_3 =>
      intro i a b x0 x2 x4 hm_loop_3 hi hE ex0 ex2 ex4 H locs ls hP hS hl
      subst ex0 ex2 ex4
      obtain ⟨hq1, hq2, hq3, hq4, hq5⟩ := id hE
      refine lv_iload hx hb dX7_commonDivisor_3 (lv_at hl 2 rfl) ?_
      refine lv_sipush (v := 200) hx hb dX7_commonDivisor_5 (by decide) ?_
      refine lv_icmp_ge (tgt := 33) hx hb dX7_commonDivisor_8 (by decide) (fun c_8 => ?_) (fun c_8 => ?_)
      · have hend := lc_E_end hE (Or.inl (by rw [show (200 : Int32) = nI 200 from rfl, nI_leI (by decide) (by omega)] at c_8; omega))
        refine lv_lconst (v := 1) hx hb dX7_commonDivisor_33 (by decide) ?_
        refine lv_lload_n hx hb dX7_commonDivisor_34 rfl (lv_at hl 0 rfl) ?_
        refine va_mmax_long hx hb (hml.trans hl.1.symm) hown (hts _ tb_510) (hts _ tb_511) (hts _ tb_3) (hts _ tb_512) (Nat.le_of_ble_eq_true rfl) (Nat.le_of_ble_eq_true rfl) (Nat.le_of_ble_eq_true rfl) (Nat.le_of_ble_eq_true rfl) dX7_commonDivisor_35 ?_
        exact wg_lret F hP hS hr hlk (⟨by rw [if_neg (by rw [show (1 : Int64) = lN 1 from rfl, pk_lLT (by omega) (by decide)]; have := Nat.gcd_pos_of_pos_right x hy1; omega), hend], rfl, rfl⟩) dX7_commonDivisor_38
      · have hi2 : i < 200 := by rw [show (200 : Int32) = nI 200 from rfl, nI_leI (by decide) (by omega)] at c_8; omega
        refine lv_lload_n hx hb dX7_commonDivisor_11 rfl (lv_at hl 1 rfl) ?_
        refine lv_lconst (v := 0) hx hb dX7_commonDivisor_12 (by decide) ?_
        refine W.lcmp hx hb dX7_commonDivisor_13 ?_
        refine lv_if_eq (tgt := 33) hx hb dX7_commonDivisor_14 (by decide) (fun c_14 => ?_) (fun c_14 => ?_)
        · have hend := lc_E_end hE (Or.inr (by rw [lg_cmp_eq, show (0 : Int64) = lN 0 from rfl, pk_lEQ (by omega) (by decide)] at c_14; exact c_14))
          refine lv_lconst (v := 1) hx hb dX7_commonDivisor_33 (by decide) ?_
          refine lv_lload_n hx hb dX7_commonDivisor_34 rfl (lv_at hl 0 rfl) ?_
          refine va_mmax_long hx hb (hml.trans hl.1.symm) hown (hts _ tb_510) (hts _ tb_511) (hts _ tb_3) (hts _ tb_512) (Nat.le_of_ble_eq_true rfl) (Nat.le_of_ble_eq_true rfl) (Nat.le_of_ble_eq_true rfl) (Nat.le_of_ble_eq_true rfl) dX7_commonDivisor_35 ?_
          exact wg_lret F hP hS hr hlk (⟨by rw [if_neg (by rw [show (1 : Int64) = lN 1 from rfl, pk_lLT (by omega) (by decide)]; have := Nat.gcd_pos_of_pos_right x hy1; omega), hend], rfl, rfl⟩) dX7_commonDivisor_38
        · have hb0 : 0 < b := by rw [lg_cmp_eq, show (0 : Int64) = lN 0 from rfl, pk_lEQ (by omega) (by decide)] at c_14; omega
          refine lv_lload_n hx hb dX7_commonDivisor_17 rfl (lv_at hl 0 rfl) ?_
          refine lv_lload_n hx hb dX7_commonDivisor_18 rfl (lv_at hl 1 rfl) ?_
          refine lv_lrem hx hb dX7_commonDivisor_19 (by rw [show (0 : Int64) = lN 0 from rfl, pk_lEQ (by omega) (by decide)]; omega) ?_
          refine lv_topl (fun x_20 ex_20 => ?_)
          refine lv_lstore (lv' := [(5, .long x_20), (0, .long (lN a)), (2, .long (lN b)), (4, .int (nI i))]) hx hb dX7_commonDivisor_20 hl (by decide) rfl (fun ls hl => ?_)
          refine lv_lload_n hx hb dX7_commonDivisor_22 rfl (lv_at hl 2 rfl) ?_
          refine lv_topl (fun x_23 ex_23 => ?_)
          refine lv_lstore_n (lv' := [(0, .long x_23), (5, .long x_20), (2, .long (lN b)), (4, .int (nI i))]) hx hb dX7_commonDivisor_23 rfl hl (by decide) rfl (fun ls hl => ?_)
          refine lv_lload hx hb dX7_commonDivisor_24 (lv_at hl 1 rfl) ?_
          refine lv_lstore_n (lv' := [(2, .long x_20), (0, .long x_23), (5, .long x_20), (4, .int (nI i))]) hx hb dX7_commonDivisor_26 rfl hl (by decide) rfl (fun ls hl => ?_)
          obtain ⟨x_27, ex_27⟩ : ∃ y : Int32, y = nI i + 1 := ⟨_, rfl⟩
          refine lv_iinc (v := x_27) (lv' := [(4, .int x_27), (2, .long x_20), (0, .long x_23), (5, .long x_20)]) hx hb dX7_commonDivisor_27 hl (k := 3) rfl (by rw [ex_27]; rfl) (by decide) rfl (fun ls hl => ?_)
          refine lv_goto (tgt := 3) hx hb dX7_commonDivisor_30 (by decide) ?_
          exact ih_loop_3 (i + 1) b (a % b) x_23 x_20 x_27 (by omega) (by omega) (lc_E_step hE hb0 hi2) ex_23 (by rw [ex_20]; exact pk_lRem (by omega) hb0 (by omega)) (by rw [ex_27, nI_1]) _ _ _ hP hS (lv_sub hl [2, 1, 0] rfl)
  exact loop_3 _ 0 x y ((lN x)) ((lN y)) 0 (Nat.lt_succ_self _) (by decide) (lc_E_0 hx62 hy62) rfl rfl rfl _ _ _ hP hS (lv_sub hl [1, 2, 0] rfl)
set_option maxHeartbeats 4000000 in
set_option maxRecDepth 100000 in
theorem c_X8_in (l : Launch) (E : wg_E) (A : Nat → Nat) (C : wg_C) (v lo hi : Int64)   : Met l yX8_in (wg_ws yX8_in cX8_in 6 (some .boolean)) (wg_rm 0 0 0) (wg_Pc E A C [.long v, .long lo, .long hi]) (wg_Qi E (fun r A1 C1 => r = (if lo.toInt ≤ v.toInt ∧ v.toInt ≤ hi.toInt then 1 else 0) ∧ A = A1 ∧ C = C1)) 0 0 (wg_A E) := by
  refine wg_met (by decide) (Nat.le_of_ble_eq_true rfl) ?_
  intro p e s m below meth c ls F hr hlk hnm hP hS hl
  have F : wg_F p m c cX8_in 6 s ([.long v, .long lo, .long hi] : List Value).toArray "LightChecksModel" E := F
  have hx := F.1
  have hb := F.2.1
  have hml := F.2.2.1
  have hown := F.2.2.2.1
  have hts := F.2.2.2.2.1
  have hl : lv_has ls 6 [(0, .long v), (2, .long lo), (4, .long hi)] := hl
  refine lv_lload_n hx hb dX8_in_0 rfl (lv_at hl 0 rfl) ?_
  refine lv_lload_n hx hb dX8_in_1 rfl (lv_at hl 1 rfl) ?_
  refine W.lcmp hx hb dX8_in_2 ?_
  refine lv_if_lt (tgt := 17) hx hb dX8_in_3 (by decide) (fun c_3 => ?_) (fun c_3 => ?_)
  · rw [lg_cmp_lt, Int64.lt_iff_toInt_lt] at c_3
    refine lv_iconst (v := 0) hx hb dX8_in_17 (by decide) ?_
    exact wg_zret F hP hS hr hlk (by decide) ⟨by rw [if_neg (by omega)], rfl, rfl⟩ dX8_in_18
  · rw [lg_cmp_lt, Int64.lt_iff_toInt_lt] at c_3
    refine lv_lload_n hx hb dX8_in_6 rfl (lv_at hl 0 rfl) ?_
    refine lv_lload hx hb dX8_in_7 (lv_at hl 2 rfl) ?_
    refine W.lcmp hx hb dX8_in_9 ?_
    refine lv_if_gt (tgt := 17) hx hb dX8_in_10 (by decide) (fun c_10 => ?_) (fun c_10 => ?_)
    · rw [lg_cmp_gt, Int64.lt_iff_toInt_lt] at c_10
      refine lv_iconst (v := 0) hx hb dX8_in_17 (by decide) ?_
      exact wg_zret F hP hS hr hlk (by decide) ⟨by rw [if_neg (by omega)], rfl, rfl⟩ dX8_in_18
    · rw [lg_cmp_gt, Int64.lt_iff_toInt_lt] at c_10
      refine lv_iconst (v := 1) hx hb dX8_in_13 (by decide) ?_
      refine lv_goto (tgt := 18) hx hb dX8_in_14 (by decide) ?_
      exact wg_zret F hP hS hr hlk (by decide) ⟨by rw [if_pos (by omega)], rfl, rfl⟩ dX8_in_18
set_option maxHeartbeats 4000000 in
set_option maxRecDepth 100000 in
theorem c_X8_gcd (l : Launch) (E : wg_E) (A : Nat → Nat) (C : wg_C) (x y : Nat) (hx62 : x < 2 ^ 63) (hy62 : y < 2 ^ 63)  : Met l yX8_gcd (wg_ws yX8_gcd cX8_gcd 10 (some .long)) (wg_rm 0 0 0) (wg_Pc E A C [.long (lN x), .long (lN y)]) (wg_Ql E (fun r A1 C1 => r = lN (Nat.gcd x y) ∧ A = A1 ∧ C = C1)) 0 0 (wg_A E) := by
  refine wg_met (by decide) (Nat.le_of_ble_eq_true rfl) ?_
  intro p e s m below meth c ls F hr hlk hnm hP hS hl
  have F : wg_F p m c cX8_gcd 10 s ([.long (lN x), .long (lN y)] : List Value).toArray "LightChecksModel" E := F
  have hx := F.1
  have hb := F.2.1
  have hml := F.2.2.1
  have hown := F.2.2.2.1
  have hts := F.2.2.2.2.1
  have hl : lv_has ls 10 [(0, .long (lN x)), (2, .long (lN y))] := hl
  refine lv_lload_n hx hb dX8_gcd_0 rfl (lv_at hl 0 rfl) ?_
  refine lv_lstore (lv' := [(4, .long (lN x)), (0, .long (lN x)), (2, .long (lN y))]) hx hb dX8_gcd_1 hl (by decide) rfl (fun ls hl => ?_)
  refine lv_lload_n hx hb dX8_gcd_3 rfl (lv_at hl 2 rfl) ?_
  refine lv_lstore (lv' := [(6, .long (lN y)), (4, .long (lN x)), (0, .long (lN x)), (2, .long (lN y))]) hx hb dX8_gcd_4 hl (by decide) rfl (fun ls hl => ?_)
  have loop_6 : ∀ (fuel : Nat) (a : Nat) (b : Nat) (x4 : Int64) (x6 : Int64), b < fuel → (Nat.gcd a b = Nat.gcd x y) → (a < 2 ^ 63) → (b < 2 ^ 63) → (x4 = lN a) → (x6 = lN b) → ∀ (H : Heap) (locs : List Loc) (ls : Array Slot), wg_P E A C H → va_S (wg_A E) s.heap H locs → lv_has ls 10 [(4, .long x4), (6, .long x6)] → W p l e (wg_rm 0 0 0) s m ([.long (lN x), .long (lN y)] : List Value).toArray below meth c H locs 0 0 (MQ below (wg_Ql E (fun r A1 C1 => r = lN (Nat.gcd x y) ∧ A = A1 ∧ C = C1)) ([.long (lN x), .long (lN y)] : List Value).toArray s 0 0 (wg_A E)) (F0 m 6 ls []) := by
    intro fuel
    induction fuel with
    | zero => intro a b x4 x6 hm; exact absurd hm (Nat.not_lt_zero _)
    | succ fuel ih_loop_6 =>
      intro a b x4 x6 hm_loop_6 hE ha hb8 ex4 ex6 H locs ls hP hS hl
      subst ex4 ex6
      refine lv_lload hx hb dX8_gcd_6 (lv_at hl 1 rfl) ?_
      refine lv_lconst (v := 0) hx hb dX8_gcd_8 (by decide) ?_
      refine W.lcmp hx hb dX8_gcd_9 ?_
      refine lv_if_eq (tgt := 31) hx hb dX8_gcd_10 (by decide) (fun c_10 => ?_) (fun c_10 => ?_)
      · have hb0 : b = 0 := by rw [lg_cmp_eq, show (0 : Int64) = lN 0 from rfl, pk_lEQ (by omega) (by decide)] at c_10; exact c_10
        refine lv_lload hx hb dX8_gcd_31 (lv_at hl 0 rfl) ?_
        exact wg_lret F hP hS hr hlk (⟨by rw [← hE, hb0, Nat.gcd_zero_right], rfl, rfl⟩) dX8_gcd_33
      · have hb0 : 0 < b := by rw [lg_cmp_eq, show (0 : Int64) = lN 0 from rfl, pk_lEQ (by omega) (by decide)] at c_10; omega
        have hmod := Nat.mod_lt a hb0
        refine lv_lload hx hb dX8_gcd_13 (lv_at hl 0 rfl) ?_
        refine lv_lload hx hb dX8_gcd_15 (lv_at hl 1 rfl) ?_
        refine lv_lrem hx hb dX8_gcd_17 (by rw [show (0 : Int64) = lN 0 from rfl, pk_lEQ (by omega) (by decide)]; omega) ?_
        refine lv_topl (fun x_18 ex_18 => ?_)
        refine lv_lstore (lv' := [(8, .long x_18), (4, .long (lN a)), (6, .long (lN b))]) hx hb dX8_gcd_18 hl (by decide) rfl (fun ls hl => ?_)
        refine lv_lload hx hb dX8_gcd_20 (lv_at hl 2 rfl) ?_
        refine lv_topl (fun x_22 ex_22 => ?_)
        refine lv_lstore (lv' := [(4, .long x_22), (8, .long x_18), (6, .long (lN b))]) hx hb dX8_gcd_22 hl (by decide) rfl (fun ls hl => ?_)
        refine lv_lload hx hb dX8_gcd_24 (lv_at hl 1 rfl) ?_
        refine lv_lstore (lv' := [(6, .long x_18), (4, .long x_22), (8, .long x_18)]) hx hb dX8_gcd_26 hl (by decide) rfl (fun ls hl => ?_)
        refine lv_goto (tgt := 6) hx hb dX8_gcd_28 (by decide) ?_
        exact ih_loop_6 b (a % b) x_22 x_18 (by omega) ((lc_gcd_step a b).trans hE) hb8 (by omega) ex_22 (by rw [ex_18]; exact pk_lRem (by omega) hb0 (by omega)) _ _ _ hP hS (lv_sub hl [1, 0] rfl)
  exact loop_6 _ x y ((lN x)) ((lN y)) (Nat.lt_succ_self _) rfl hx62 hy62 rfl rfl _ _ _ hP hS (lv_sub hl [1, 0] rfl)
set_option maxHeartbeats 4000000 in
set_option maxRecDepth 100000 in
theorem c_X8_choose (l : Launch) (E : wg_E) (A : Nat → Nat) (C : wg_C) (n k : Nat) (hn : n ≤ 60) (hk : k ≤ 60)  : Met l yX8_choose (wg_ws yX8_choose cX8_choose 9 (some .long)) (wg_rm 1 0 0) (wg_Pc E A C [.int (nI n), .int (nI k)]) (wg_Ql E (fun r A1 C1 => r = lN (lc_C n k) ∧ A = A1 ∧ C = C1)) 0 0 (wg_A E) := by
  refine wg_met (by decide) (Nat.le_of_ble_eq_true rfl) ?_
  intro p e s m below meth c ls F hr hlk hnm hP hS hl
  have F : wg_F p m c cX8_choose 9 s ([.int (nI n), .int (nI k)] : List Value).toArray "LightChecksModel" E := F
  have hx := F.1
  have hb := F.2.1
  have hml := F.2.2.1
  have hown := F.2.2.2.1
  have hts := F.2.2.2.2.1
  have hl : lv_has ls 9 [(0, .int (nI n)), (1, .int (nI k))] := hl
  refine lv_iload_n hx hb dX8_choose_0 rfl (lv_at hl 1 rfl) ?_
  refine lv_iload_n hx hb dX8_choose_1 rfl (lv_at hl 0 rfl) ?_
  refine lv_icmp_le (tgt := 9) hx hb dX8_choose_2 (by decide) (fun c_2 => ?_) (fun c_2 => ?_)
  · rw [nI_leI (by omega) (by omega)] at c_2
    refine lv_lconst (v := 1) hx hb dX8_choose_9 (by decide) ?_
    refine lv_lstore_n (lv' := [(2, .long 1), (0, .int (nI n)), (1, .int (nI k))]) hx hb dX8_choose_10 rfl hl (by decide) rfl (fun ls hl => ?_)
    refine lv_iconst (v := 1) hx hb dX8_choose_11 (by decide) ?_
    refine lv_istore (lv' := [(4, .int 1), (2, .long 1), (0, .int (nI n)), (1, .int (nI k))]) hx hb dX8_choose_12 hl (by decide) rfl (fun ls hl => ?_)
    have loop_14 : ∀ (fuel : Nat) (i : Nat) (x2 : Int64) (x4 : Int32), k - i < fuel → (i ≤ k) → (x2 = lN (lc_rc (n - k) i)) → (x4 = nI (i + 1)) → ∀ (H : Heap) (locs : List Loc) (ls : Array Slot), wg_P E A C H → va_S (wg_A E) s.heap H locs → lv_has ls 9 [(0, .int (nI n)), (1, .int (nI k)), (2, .long x2), (4, .int x4)] → W p l e (wg_rm 1 0 0) s m ([.int (nI n), .int (nI k)] : List Value).toArray below meth c H locs 0 0 (MQ below (wg_Ql E (fun r A1 C1 => r = lN (lc_C n k) ∧ A = A1 ∧ C = C1)) ([.int (nI n), .int (nI k)] : List Value).toArray s 0 0 (wg_A E)) (F0 m 14 ls []) := by
      intro fuel
      induction fuel with
      | zero => intro i x2 x4 hm; exact absurd hm (Nat.not_lt_zero _)
      | succ fuel ih_loop_14 =>
        intro i x2 x4 hm_loop_14 hi ex2 ex4 H locs ls hP hS hl
        subst ex2 ex4
        refine lv_iload hx hb dX8_choose_14 (lv_at hl 3 rfl) ?_
        refine lv_iload_n hx hb dX8_choose_16 rfl (lv_at hl 1 rfl) ?_
        refine lv_icmp_gt (tgt := 70) hx hb dX8_choose_17 (by decide) (fun c_17 => ?_) (fun c_17 => ?_)
        · rw [nI_ltI (by omega) (by omega)] at c_17
          have hik : i = k := by omega
          refine lv_lload_n hx hb dX8_choose_70 rfl (lv_at hl 2 rfl) ?_
          exact wg_lret F hP hS hr hlk (⟨by unfold lc_C; rw [if_neg (by omega), hik, lc_rc_ok (by omega), Nat.sub_add_cancel (by omega)], rfl, rfl⟩) dX8_choose_71
        · rw [nI_ltI (by omega) (by omega)] at c_17
          have hg0 : 0 < Nat.gcd (n - k + (i + 1)) (i + 1) := Nat.gcd_pos_of_pos_right _ (by omega)
          have hg1 : Nat.gcd (n - k + (i + 1)) (i + 1) ≤ i + 1 := Nat.le_of_dvd (by omega) (Nat.gcd_dvd_right _ _)
          have hd0 : 0 < (i + 1) / Nat.gcd (n - k + (i + 1)) (i + 1) := Nat.div_pos hg1 hg0
          have hd1 : (i + 1) / Nat.gcd (n - k + (i + 1)) (i + 1) ≤ i + 1 := Nat.div_le_self _ _
          have hd2 : (n - k + (i + 1)) / Nat.gcd (n - k + (i + 1)) (i + 1) ≤ n - k + (i + 1) := Nat.div_le_self _ _
          have hrc := lc_rc_ok (show n - k + i ≤ 60 by omega)
          have hch := lc_ch_ok (show n - k + i ≤ 60 by omega) (show i ≤ n - k + i by omega)
          have e1 : nI n - nI k + nI (i + 1) = nI (n - k + (i + 1)) := by rw [pk_sub (by omega), nI_add]
          refine lv_iload_n hx hb dX8_choose_20 rfl (lv_at hl 1 rfl) ?_
          refine lv_iload_n hx hb dX8_choose_21 rfl (lv_at hl 0 rfl) ?_
          refine lv_icmp_gt (tgt := 70) hx hb dX8_choose_22 (by decide) (fun c_22 => ?_) (fun c_22 => ?_)
          · exact absurd c_22 (by rw [nI_ltI (by omega) (by omega)]; omega)
          · refine lv_iload_n hx hb dX8_choose_25 rfl (lv_at hl 0 rfl) ?_
            refine lv_iload_n hx hb dX8_choose_26 rfl (lv_at hl 1 rfl) ?_
            refine lv_isub hx hb dX8_choose_27 ?_
            refine lv_iload hx hb dX8_choose_28 (lv_at hl 3 rfl) ?_
            refine lv_iadd hx hb dX8_choose_30 ?_
            refine lv_i2l (v := (((nI n) - (nI k)) + (nI (i + 1))).toInt64) hx hb dX8_choose_31 rfl ?_
            refine wg_topl (y := lN (n - k + (i + 1))) (by rw [e1, nI_l (by omega)]) ?_
            refine lv_iload hx hb dX8_choose_32 (lv_at hl 3 rfl) ?_
            refine lv_i2l (v := (nI (i + 1)).toInt64) hx hb dX8_choose_34 rfl ?_
            refine wg_topl (y := lN (i + 1)) (nI_l (by omega)) ?_
            refine wg_cl_ hS (wg_rS (As := [.long (lN (n - k + (i + 1))), .long (lN (i + 1))]) (rest := []) F hP hS (c_X8_gcd l E A C (n - k + (i + 1)) (i + 1) (by omega) (by omega)) ok_X8_gcd tb_794 rfl rfl ⟨Nat.le_of_ble_eq_true rfl, Nat.le_of_ble_eq_true rfl⟩ rfl hl.1 rfl (Nat.le_of_ble_eq_true rfl) dX8_choose_35 ⟨Nat.le_of_ble_eq_true rfl, Nat.le_of_ble_eq_true rfl⟩) (fun r_35 A1 C_35 H locs w_35 hP hS => ?_)
            obtain ⟨w_35, rfl, rfl⟩ := w_35
            refine wg_topl (y := lN (Nat.gcd (n - k + (i + 1)) (i + 1))) w_35 ?_
            refine lv_lstore (lv' := [(5, .long (lN (Nat.gcd (n - k + (i + 1)) (i + 1)))), (0, .int (nI n)), (1, .int (nI k)), (2, .long (lN (lc_rc (n - k) i))), (4, .int (nI (i + 1)))]) hx hb dX8_choose_38 hl (by decide) rfl (fun ls hl => ?_)
            refine lv_iload_n hx hb dX8_choose_40 rfl (lv_at hl 1 rfl) ?_
            refine lv_iload_n hx hb dX8_choose_41 rfl (lv_at hl 2 rfl) ?_
            refine lv_isub hx hb dX8_choose_42 ?_
            refine lv_iload hx hb dX8_choose_43 (lv_at hl 4 rfl) ?_
            refine lv_iadd hx hb dX8_choose_45 ?_
            refine lv_i2l (v := (((nI n) - (nI k)) + (nI (i + 1))).toInt64) hx hb dX8_choose_46 rfl ?_
            refine wg_topl (y := lN (n - k + (i + 1))) (by rw [e1, nI_l (by omega)]) ?_
            refine lv_lload hx hb dX8_choose_47 (lv_at hl 0 rfl) ?_
            refine lv_ldiv hx hb dX8_choose_49 (by rw [show (0 : Int64) = lN 0 from rfl, pk_lEQ (by omega) (by decide)]; omega) ?_
            refine wg_topl (y := lN ((n - k + (i + 1)) / Nat.gcd (n - k + (i + 1)) (i + 1))) (pk_lDiv (by omega) hg0 (by omega)) ?_
            refine lv_lstore (lv' := [(7, .long (lN ((n - k + (i + 1)) / Nat.gcd (n - k + (i + 1)) (i + 1)))), (5, .long (lN (Nat.gcd (n - k + (i + 1)) (i + 1)))), (0, .int (nI n)), (1, .int (nI k)), (2, .long (lN (lc_rc (n - k) i))), (4, .int (nI (i + 1)))]) hx hb dX8_choose_50 hl (by decide) rfl (fun ls hl => ?_)
            refine lv_lload_n hx hb dX8_choose_52 rfl (lv_at hl 4 rfl) ?_
            refine lv_iload hx hb dX8_choose_53 (lv_at hl 5 rfl) ?_
            refine lv_i2l (v := (nI (i + 1)).toInt64) hx hb dX8_choose_55 rfl ?_
            refine wg_topl (y := lN (i + 1)) (nI_l (by omega)) ?_
            refine lv_lload hx hb dX8_choose_56 (lv_at hl 1 rfl) ?_
            refine lv_ldiv hx hb dX8_choose_58 (by rw [show (0 : Int64) = lN 0 from rfl, pk_lEQ (by omega) (by decide)]; omega) ?_
            refine wg_topl (y := lN ((i + 1) / Nat.gcd (n - k + (i + 1)) (i + 1))) (pk_lDiv (by omega) hg0 (by omega)) ?_
            refine lv_ldiv hx hb dX8_choose_59 (by rw [show (0 : Int64) = lN 0 from rfl, pk_lEQ (by omega) (by decide)]; omega) ?_
            refine wg_topl (y := lN (lc_rc (n - k) i / ((i + 1) / Nat.gcd (n - k + (i + 1)) (i + 1)))) (pk_lDiv (by omega) hd0 (by omega)) ?_
            refine lv_lload hx hb dX8_choose_60 (lv_at hl 0 rfl) ?_
            refine lv_lmul hx hb dX8_choose_62 ?_
            refine lv_topl (fun x_63 ex_63 => ?_)
            refine lv_lstore_n (lv' := [(2, .long x_63), (7, .long (lN ((n - k + (i + 1)) / Nat.gcd (n - k + (i + 1)) (i + 1)))), (5, .long (lN (Nat.gcd (n - k + (i + 1)) (i + 1)))), (0, .int (nI n)), (1, .int (nI k)), (4, .int (nI (i + 1)))]) hx hb dX8_choose_63 rfl hl (by decide) rfl (fun ls hl => ?_)
            have hnew : x_63 = lN (lc_rc (n - k) (i + 1)) := by rw [ex_63, lN_mul]; rfl
            obtain ⟨x_64, ex_64⟩ : ∃ y : Int32, y = nI (i + 1) + 1 := ⟨_, rfl⟩
            refine lv_iinc (v := x_64) (lv' := [(4, .int x_64), (2, .long x_63), (7, .long (lN ((n - k + (i + 1)) / Nat.gcd (n - k + (i + 1)) (i + 1)))), (5, .long (lN (Nat.gcd (n - k + (i + 1)) (i + 1)))), (0, .int (nI n)), (1, .int (nI k))]) hx hb dX8_choose_64 hl (k := 5) rfl (by rw [ex_64]; rfl) (by decide) rfl (fun ls hl => ?_)
            refine lv_goto (tgt := 14) hx hb dX8_choose_67 (by decide) ?_
            exact ih_loop_14 (i + 1) x_63 x_64 (by omega) (by omega) hnew (by rw [ex_64, nI_1]) _ _ _ hP hS (lv_sub hl [4, 5, 1, 0] rfl)
    exact loop_14 _ 0 1 1 (Nat.lt_succ_self _) (by omega) rfl rfl _ _ _ hP hS (lv_sub hl [2, 3, 1, 0] rfl)
  · rw [nI_leI (by omega) (by omega)] at c_2
    refine lv_lconst (v := 0) hx hb dX8_choose_5 (by decide) ?_
    refine lv_goto (tgt := 10) hx hb dX8_choose_6 (by decide) ?_
    refine lv_lstore_n (lv' := [(2, .long 0), (0, .int (nI n)), (1, .int (nI k))]) hx hb dX8_choose_10 rfl hl (by decide) rfl (fun ls hl => ?_)
    refine lv_iconst (v := 1) hx hb dX8_choose_11 (by decide) ?_
    refine lv_istore (lv' := [(4, .int 1), (2, .long 0), (0, .int (nI n)), (1, .int (nI k))]) hx hb dX8_choose_12 hl (by decide) rfl (fun ls hl => ?_)
    refine lv_iload hx hb dX8_choose_14 (lv_at hl 0 rfl) ?_
    refine lv_iload_n hx hb dX8_choose_16 rfl (lv_at hl 3 rfl) ?_
    refine lv_icmp_gt (tgt := 70) hx hb dX8_choose_17 (by decide) (fun c_17 => ?_) (fun c_17 => ?_)
    · refine lv_lload_n hx hb dX8_choose_70 rfl (lv_at hl 1 rfl) ?_
      exact wg_lret F hP hS hr hlk (⟨by unfold lc_C; rw [if_pos (by omega)]; rfl, rfl, rfl⟩) dX8_choose_71
    · refine lv_iload_n hx hb dX8_choose_20 rfl (lv_at hl 3 rfl) ?_
      refine lv_iload_n hx hb dX8_choose_21 rfl (lv_at hl 2 rfl) ?_
      refine lv_icmp_gt (tgt := 70) hx hb dX8_choose_22 (by decide) (fun c_22 => ?_) (fun c_22 => ?_)
      · refine lv_lload_n hx hb dX8_choose_70 rfl (lv_at hl 1 rfl) ?_
        exact wg_lret F hP hS hr hlk (⟨by unfold lc_C; rw [if_pos (by omega)]; rfl, rfl, rfl⟩) dX8_choose_71
      · exact absurd c_22 (by rw [nI_ltI (by omega) (by omega)]; omega)
set_option maxHeartbeats 4000000 in
set_option maxRecDepth 100000 in
theorem c_X7_chance (l : Launch) (E : wg_E) (A : Nat → Nat) (C : wg_C) (n mm s0 d : Int32)   : Met l yX7_chance (wg_ws yX7_chance cX7_chance 9 (some .long)) (wg_rm 2 0 0) (wg_Pc E A C [.ref (A 0), .int n, .int mm, .int s0, .int d]) (wg_Ql E (fun r A1 C1 => r = lc_chance n mm s0 d ∧ A = A1 ∧ C = C1)) 0 0 (wg_A E) := by
  refine wg_met (by decide) (Nat.le_of_ble_eq_true rfl) ?_
  intro p e s m below meth c ls F hr hlk hnm hP hS hl
  have F : wg_F p m c cX7_chance 9 s ([.ref (A 0), .int n, .int mm, .int s0, .int d] : List Value).toArray "LightChecks" E := F
  have hx := F.1
  have hb := F.2.1
  have hml := F.2.2.1
  have hown := F.2.2.2.1
  have hts := F.2.2.2.2.1
  have hl : lv_has ls 9 [(0, .ref (A 0)), (1, .int n), (2, .int mm), (3, .int s0), (4, .int d)] := hl
  refine lv_iload_n hx hb dX7_chance_0 rfl (lv_at hl 1 rfl) ?_
  refine lv_iload_n hx hb dX7_chance_1 rfl (lv_at hl 2 rfl) ?_
  refine wg_ci hS (wg_rS (As := [.int n, .int mm]) (rest := []) F hP hS (c_X7_arePieces l E A C n mm) ok_X7_arePieces tb_500 rfl rfl ⟨Nat.le_of_ble_eq_true rfl, Nat.le_of_ble_eq_true rfl⟩ rfl hl.1 rfl (Nat.le_of_ble_eq_true rfl) dX7_chance_2 ⟨Nat.le_of_ble_eq_true rfl, Nat.le_of_ble_eq_true rfl⟩) (fun r_2 A1 C_2 H locs w_2 hP hS => ?_)
  obtain ⟨w_2, rfl, rfl⟩ := w_2
  rcases w_2 with ⟨n1, m1, hn1, hn60, hmn, en, em, w2⟩ | ⟨ho, w2⟩
  · have tn : n.toInt = (n1 : Int) := by rw [en, nI_toInt (by omega)]
    have tm : mm.toInt = (m1 : Int) := by rw [em, nI_toInt (by omega)]
    refine lv_if_eq (tgt := 28) hx hb dX7_chance_5 (by decide) (fun c_5 => ?_) (fun c_5 => ?_)
    · exact absurd (w2.symm.trans c_5) (by decide)
    · refine lv_iload_n hx hb dX7_chance_8 rfl (lv_at hl 3 rfl) ?_
      refine lv_if_lt (tgt := 28) hx hb dX7_chance_9 (by decide) (fun c_9 => ?_) (fun c_9 => ?_)
      · simp only [Int32.lt_iff_toInt_lt, Int32.le_iff_toInt_le, lc_t0i, lc_t1i, lc_t2i, lc_t60i, lc_tMi] at c_9
        refine lv_ldc2 (v := (-1)) hx hb hown (hts _ tb_503) dX7_chance_28 ?_
        exact wg_lret F hP hS hr hlk (⟨by unfold lc_chance; rw [if_neg (by omega)], rfl, rfl⟩) dX7_chance_31
      · simp only [Int32.lt_iff_toInt_lt, Int32.le_iff_toInt_le, lc_t0i, lc_t1i, lc_t2i, lc_t60i, lc_tMi] at c_9
        refine lv_iload_n hx hb dX7_chance_12 rfl (lv_at hl 3 rfl) ?_
        refine lv_iload_n hx hb dX7_chance_13 rfl (lv_at hl 1 rfl) ?_
        refine lv_icmp_gt (tgt := 28) hx hb dX7_chance_14 (by decide) (fun c_14 => ?_) (fun c_14 => ?_)
        · simp only [Int32.lt_iff_toInt_lt, Int32.le_iff_toInt_le, lc_t0i, lc_t1i, lc_t2i, lc_t60i, lc_tMi] at c_14
          refine lv_ldc2 (v := (-1)) hx hb hown (hts _ tb_503) dX7_chance_28 ?_
          exact wg_lret F hP hS hr hlk (⟨by unfold lc_chance; rw [if_neg (by omega)], rfl, rfl⟩) dX7_chance_31
        · simp only [Int32.lt_iff_toInt_lt, Int32.le_iff_toInt_le, lc_t0i, lc_t1i, lc_t2i, lc_t60i, lc_tMi] at c_14
          refine lv_iload hx hb dX7_chance_17 (lv_at hl 4 rfl) ?_
          refine lv_if_lt (tgt := 28) hx hb dX7_chance_19 (by decide) (fun c_19 => ?_) (fun c_19 => ?_)
          · simp only [Int32.lt_iff_toInt_lt, Int32.le_iff_toInt_le, lc_t0i, lc_t1i, lc_t2i, lc_t60i, lc_tMi] at c_19
            refine lv_ldc2 (v := (-1)) hx hb hown (hts _ tb_503) dX7_chance_28 ?_
            exact wg_lret F hP hS hr hlk (⟨by unfold lc_chance; rw [if_neg (by omega)], rfl, rfl⟩) dX7_chance_31
          · simp only [Int32.lt_iff_toInt_lt, Int32.le_iff_toInt_le, lc_t0i, lc_t1i, lc_t2i, lc_t60i, lc_tMi] at c_19
            refine lv_iload hx hb dX7_chance_22 (lv_at hl 4 rfl) ?_
            refine lv_iconst (v := 1) hx hb dX7_chance_24 (by decide) ?_
            refine lv_icmp_le (tgt := 32) hx hb dX7_chance_25 (by decide) (fun c_25 => ?_) (fun c_25 => ?_)
            · simp only [Int32.lt_iff_toInt_lt, Int32.le_iff_toInt_le, lc_t0i, lc_t1i, lc_t2i, lc_t60i, lc_tMi] at c_25
              obtain ⟨s1, hs31, es⟩ := nI_of (x := s0) (by rw [Int32.lt_iff_toInt_lt, lc_t0i]; omega)
              have ts : s0.toInt = (s1 : Int) := by rw [es, nI_toInt hs31]
              obtain ⟨d1, hd31, ed⟩ := nI_of (x := d) (by rw [Int32.lt_iff_toInt_lt, lc_t0i]; omega)
              have td : d.toInt = (d1 : Int) := by rw [ed, nI_toInt hd31]
              have hCp := lc_C_pos hn60 (show s1 ≤ n1 by omega)
              have hC1 := lc_C_lt (n := n1) (k := s1) hn60
              have hC2 := lc_C_lt (n := n1 - m1) (k := s1) (by omega)
              have hgp : 0 < Nat.gcd (lc_C (n1 - m1) s1) (lc_C n1 s1) := Nat.gcd_pos_of_pos_right _ hCp
              have hgl : Nat.gcd (lc_C (n1 - m1) s1) (lc_C n1 s1) ≤ lc_C n1 s1 := Nat.le_of_dvd hCp (Nat.gcd_dvd_right _ _)
              have hval : lc_chance n mm s0 d = lN (lc_side n1 m1 s1 d1) := by unfold lc_chance; rw [if_pos (by omega), tn, tm, ts, td]; rfl
              refine lv_iload_n hx hb dX7_chance_32 rfl (lv_at hl 1 rfl) ?_
              refine lv_iload_n hx hb dX7_chance_33 rfl (lv_at hl 2 rfl) ?_
              refine lv_isub hx hb dX7_chance_34 ?_
              refine wg_topi (y := nI (n1 - m1)) (by rw [en, em, pk_sub (by omega)]) ?_
              refine lv_iload_n hx hb dX7_chance_35 rfl (lv_at hl 3 rfl) ?_
              refine wg_topi (y := nI s1) es ?_
              refine wg_cl_ hS (wg_rS (As := [.int (nI (n1 - m1)), .int (nI s1)]) (rest := []) F hP hS (c_X7_choose l E A C (n1 - m1) s1 (by omega) (by omega)) ok_X7_choose tb_504 rfl rfl ⟨Nat.le_of_ble_eq_true rfl, Nat.le_of_ble_eq_true rfl⟩ rfl hl.1 rfl (Nat.le_of_ble_eq_true rfl) dX7_chance_36 ⟨Nat.le_of_ble_eq_true rfl, Nat.le_of_ble_eq_true rfl⟩) (fun r_36 A1 C_36 H locs w_36 hP hS => ?_)
              obtain ⟨w_36, rfl, rfl⟩ := w_36
              refine wg_topl (y := lN (lc_C (n1 - m1) s1)) w_36 ?_
              refine lv_lstore (lv' := [(5, .long (lN (lc_C (n1 - m1) s1))), (0, .ref (A 0)), (1, .int n), (2, .int mm), (3, .int s0), (4, .int d)]) hx hb dX7_chance_39 hl (by decide) rfl (fun ls hl => ?_)
              refine lv_iload_n hx hb dX7_chance_41 rfl (lv_at hl 2 rfl) ?_
              refine wg_topi (y := nI n1) en ?_
              refine lv_iload_n hx hb dX7_chance_42 rfl (lv_at hl 4 rfl) ?_
              refine wg_topi (y := nI s1) es ?_
              refine wg_cl_ hS (wg_rS (As := [.int (nI n1), .int (nI s1)]) (rest := []) F hP hS (c_X7_choose l E A C n1 s1 hn60 (by omega)) ok_X7_choose tb_504 rfl rfl ⟨Nat.le_of_ble_eq_true rfl, Nat.le_of_ble_eq_true rfl⟩ rfl hl.1 rfl (Nat.le_of_ble_eq_true rfl) dX7_chance_43 ⟨Nat.le_of_ble_eq_true rfl, Nat.le_of_ble_eq_true rfl⟩) (fun r_43 A1 C_43 H locs w_43 hP hS => ?_)
              obtain ⟨w_43, rfl, rfl⟩ := w_43
              refine wg_topl (y := lN (lc_C n1 s1)) w_43 ?_
              refine lv_lstore (lv' := [(7, .long (lN (lc_C n1 s1))), (5, .long (lN (lc_C (n1 - m1) s1))), (0, .ref (A 0)), (1, .int n), (2, .int mm), (3, .int s0), (4, .int d)]) hx hb dX7_chance_46 hl (by decide) rfl (fun ls hl => ?_)
              refine lv_iload hx hb dX7_chance_48 (lv_at hl 6 rfl) ?_
              refine lv_if_ne (tgt := 58) hx hb dX7_chance_50 (by decide) (fun c_50 => ?_) (fun c_50 => ?_)
              · have hd0 : ¬ d1 = 0 := fun q => c_50 (by rw [ed, q]; rfl)
                refine lv_lload hx hb dX7_chance_58 (lv_at hl 0 rfl) ?_
                refine lv_lload hx hb dX7_chance_60 (lv_at hl 1 rfl) ?_
                refine lv_lload hx hb dX7_chance_62 (lv_at hl 0 rfl) ?_
                refine wg_cl_ hS (wg_rS (As := [.long (lN (lc_C (n1 - m1) s1)), .long (lN (lc_C n1 s1))]) (rest := [.long (lN (lc_C n1 s1))]) F hP hS (c_X7_commonDivisor l E A C (lc_C (n1 - m1) s1) (lc_C n1 s1) (by omega) (by omega) hCp) ok_X7_commonDivisor tb_507 rfl rfl ⟨Nat.le_of_ble_eq_true rfl, Nat.le_of_ble_eq_true rfl⟩ rfl hl.1 rfl (Nat.le_of_ble_eq_true rfl) dX7_chance_64 ⟨Nat.le_of_ble_eq_true rfl, Nat.le_of_ble_eq_true rfl⟩) (fun r_64 A1 C_64 H locs w_64 hP hS => ?_)
                obtain ⟨w_64, rfl, rfl⟩ := w_64
                refine wg_topl (y := lN (Nat.gcd (lc_C (n1 - m1) s1) (lc_C n1 s1))) w_64 ?_
                refine lv_ldiv hx hb dX7_chance_67 (by rw [show (0 : Int64) = lN 0 from rfl, pk_lEQ (by omega) (by decide)]; omega) ?_
                exact wg_lret F hP hS hr hlk (⟨by rw [hval, pk_lDiv (by omega) hgp (by omega)]; unfold lc_side; first | rw [if_pos hd0] | rw [if_neg hd0], rfl, rfl⟩) dX7_chance_68
              · have hd0 : d1 = 0 := by rw [c_50, lc_t0i] at td; omega
                refine lv_lload hx hb dX7_chance_53 (lv_at hl 1 rfl) ?_
                refine lv_goto (tgt := 60) hx hb dX7_chance_55 (by decide) ?_
                refine lv_lload hx hb dX7_chance_60 (lv_at hl 1 rfl) ?_
                refine lv_lload hx hb dX7_chance_62 (lv_at hl 0 rfl) ?_
                refine wg_cl_ hS (wg_rS (As := [.long (lN (lc_C (n1 - m1) s1)), .long (lN (lc_C n1 s1))]) (rest := [.long (lN (lc_C (n1 - m1) s1))]) F hP hS (c_X7_commonDivisor l E A C (lc_C (n1 - m1) s1) (lc_C n1 s1) (by omega) (by omega) hCp) ok_X7_commonDivisor tb_507 rfl rfl ⟨Nat.le_of_ble_eq_true rfl, Nat.le_of_ble_eq_true rfl⟩ rfl hl.1 rfl (Nat.le_of_ble_eq_true rfl) dX7_chance_64 ⟨Nat.le_of_ble_eq_true rfl, Nat.le_of_ble_eq_true rfl⟩) (fun r_64 A1 C_64 H locs w_64 hP hS => ?_)
                obtain ⟨w_64, rfl, rfl⟩ := w_64
                refine wg_topl (y := lN (Nat.gcd (lc_C (n1 - m1) s1) (lc_C n1 s1))) w_64 ?_
                refine lv_ldiv hx hb dX7_chance_67 (by rw [show (0 : Int64) = lN 0 from rfl, pk_lEQ (by omega) (by decide)]; omega) ?_
                exact wg_lret F hP hS hr hlk (⟨by rw [hval, pk_lDiv (by omega) hgp (by omega)]; unfold lc_side; first | rw [if_pos hd0] | rw [if_neg hd0], rfl, rfl⟩) dX7_chance_68
            · simp only [Int32.lt_iff_toInt_lt, Int32.le_iff_toInt_le, lc_t0i, lc_t1i, lc_t2i, lc_t60i, lc_tMi] at c_25
              refine lv_ldc2 (v := (-1)) hx hb hown (hts _ tb_503) dX7_chance_28 ?_
              exact wg_lret F hP hS hr hlk (⟨by unfold lc_chance; rw [if_neg (by omega)], rfl, rfl⟩) dX7_chance_31
  · simp only [Int32.lt_iff_toInt_lt, Int32.le_iff_toInt_le, lc_t0i, lc_t1i, lc_t2i, lc_t60i, lc_tMi] at ho
    refine lv_if_eq (tgt := 28) hx hb dX7_chance_5 (by decide) (fun c_5 => ?_) (fun c_5 => ?_)
    · refine lv_ldc2 (v := (-1)) hx hb hown (hts _ tb_503) dX7_chance_28 ?_
      exact wg_lret F hP hS hr hlk (⟨by unfold lc_chance; rw [if_neg (by omega)], rfl, rfl⟩) dX7_chance_31
    · exact absurd w2 c_5
set_option maxHeartbeats 4000000 in
set_option maxRecDepth 100000 in
theorem c_X8_chance (l : Launch) (E : wg_E) (A : Nat → Nat) (C : wg_C) (n mm s0 d : Int32)   : Met l yX8_chance (wg_ws yX8_chance cX8_chance 11 (some .long)) (wg_rm 2 0 0) (wg_Pc E A C [.ref (A 1000), .int n, .int mm, .int s0, .int d]) (wg_Ql E (fun r A1 C1 => r = lc_chance n mm s0 d ∧ A = A1 ∧ C = C1)) 0 0 (wg_A E) := by
  refine wg_met (by decide) (Nat.le_of_ble_eq_true rfl) ?_
  intro p e s m below meth c ls F hr hlk hnm hP hS hl
  have F : wg_F p m c cX8_chance 11 s ([.ref (A 1000), .int n, .int mm, .int s0, .int d] : List Value).toArray "LightChecksModel" E := F
  have hx := F.1
  have hb := F.2.1
  have hml := F.2.2.1
  have hown := F.2.2.2.1
  have hts := F.2.2.2.2.1
  have hl : lv_has ls 11 [(0, .ref (A 1000)), (1, .int n), (2, .int mm), (3, .int s0), (4, .int d)] := hl
  refine lv_iload_n hx hb dX8_chance_0 rfl (lv_at hl 1 rfl) ?_
  refine lv_i2l (v := n.toInt64) hx hb dX8_chance_1 rfl ?_
  refine lv_lconst (v := 1) hx hb dX8_chance_2 (by decide) ?_
  refine lv_ldc2 (v := 60) hx hb hown (hts _ tb_789) dX8_chance_3 ?_
  refine wg_ci hS (wg_rS (As := [.long n.toInt64, .long 1, .long 60]) (rest := []) F hP hS (c_X8_in l E A C _ _ _) ok_X8_in tb_532 rfl rfl ⟨Nat.le_of_ble_eq_true rfl, Nat.le_of_ble_eq_true rfl⟩ rfl hl.1 rfl (Nat.le_of_ble_eq_true rfl) dX8_chance_6 ⟨Nat.le_of_ble_eq_true rfl, Nat.le_of_ble_eq_true rfl⟩) (fun r_6 A1 C_6 H locs w_6 hP hS => ?_)
  obtain ⟨w_6, rfl, rfl⟩ := w_6
  simp only [lc_i2l, show (1 : Int64).toInt = 1 from by decide, show (0 : Int64).toInt = 0 from by decide, show (60 : Int64).toInt = 60 from by decide, show (1000000 : Int64).toInt = 1000000 from by decide, show (100000 : Int64).toInt = 100000 from by decide] at w_6
  refine lv_if_eq (tgt := 45) hx hb dX8_chance_9 (by decide) (fun c_9 => ?_) (fun c_9 => ?_)
  · have q_9 := lc_if1 w_6 c_9
    refine lv_ldc2 (v := (-1)) hx hb hown (hts _ tb_790) dX8_chance_45 ?_
    exact wg_lret F hP hS hr hlk (⟨by unfold lc_chance; rw [if_neg (by omega)], rfl, rfl⟩) dX8_chance_48
  · have q_9 := lc_if2 w_6 c_9
    refine lv_iload_n hx hb dX8_chance_12 rfl (lv_at hl 2 rfl) ?_
    refine lv_i2l (v := mm.toInt64) hx hb dX8_chance_13 rfl ?_
    refine lv_lconst (v := 0) hx hb dX8_chance_14 (by decide) ?_
    refine lv_iload_n hx hb dX8_chance_15 rfl (lv_at hl 1 rfl) ?_
    refine lv_i2l (v := n.toInt64) hx hb dX8_chance_16 rfl ?_
    refine wg_ci hS (wg_rS (As := [.long mm.toInt64, .long 0, .long n.toInt64]) (rest := []) F hP hS (c_X8_in l E A C _ _ _) ok_X8_in tb_532 rfl rfl ⟨Nat.le_of_ble_eq_true rfl, Nat.le_of_ble_eq_true rfl⟩ rfl hl.1 rfl (Nat.le_of_ble_eq_true rfl) dX8_chance_17 ⟨Nat.le_of_ble_eq_true rfl, Nat.le_of_ble_eq_true rfl⟩) (fun r_17 A1 C_17 H locs w_17 hP hS => ?_)
    obtain ⟨w_17, rfl, rfl⟩ := w_17
    simp only [lc_i2l, show (1 : Int64).toInt = 1 from by decide, show (0 : Int64).toInt = 0 from by decide, show (60 : Int64).toInt = 60 from by decide, show (1000000 : Int64).toInt = 1000000 from by decide, show (100000 : Int64).toInt = 100000 from by decide] at w_17
    refine lv_if_eq (tgt := 45) hx hb dX8_chance_20 (by decide) (fun c_20 => ?_) (fun c_20 => ?_)
    · have q_20 := lc_if1 w_17 c_20
      refine lv_ldc2 (v := (-1)) hx hb hown (hts _ tb_790) dX8_chance_45 ?_
      exact wg_lret F hP hS hr hlk (⟨by unfold lc_chance; rw [if_neg (by omega)], rfl, rfl⟩) dX8_chance_48
    · have q_20 := lc_if2 w_17 c_20
      refine lv_iload_n hx hb dX8_chance_23 rfl (lv_at hl 3 rfl) ?_
      refine lv_i2l (v := s0.toInt64) hx hb dX8_chance_24 rfl ?_
      refine lv_lconst (v := 0) hx hb dX8_chance_25 (by decide) ?_
      refine lv_iload_n hx hb dX8_chance_26 rfl (lv_at hl 1 rfl) ?_
      refine lv_i2l (v := n.toInt64) hx hb dX8_chance_27 rfl ?_
      refine wg_ci hS (wg_rS (As := [.long s0.toInt64, .long 0, .long n.toInt64]) (rest := []) F hP hS (c_X8_in l E A C _ _ _) ok_X8_in tb_532 rfl rfl ⟨Nat.le_of_ble_eq_true rfl, Nat.le_of_ble_eq_true rfl⟩ rfl hl.1 rfl (Nat.le_of_ble_eq_true rfl) dX8_chance_28 ⟨Nat.le_of_ble_eq_true rfl, Nat.le_of_ble_eq_true rfl⟩) (fun r_28 A1 C_28 H locs w_28 hP hS => ?_)
      obtain ⟨w_28, rfl, rfl⟩ := w_28
      simp only [lc_i2l, show (1 : Int64).toInt = 1 from by decide, show (0 : Int64).toInt = 0 from by decide, show (60 : Int64).toInt = 60 from by decide, show (1000000 : Int64).toInt = 1000000 from by decide, show (100000 : Int64).toInt = 100000 from by decide] at w_28
      refine lv_if_eq (tgt := 45) hx hb dX8_chance_31 (by decide) (fun c_31 => ?_) (fun c_31 => ?_)
      · have q_31 := lc_if1 w_28 c_31
        refine lv_ldc2 (v := (-1)) hx hb hown (hts _ tb_790) dX8_chance_45 ?_
        exact wg_lret F hP hS hr hlk (⟨by unfold lc_chance; rw [if_neg (by omega)], rfl, rfl⟩) dX8_chance_48
      · have q_31 := lc_if2 w_28 c_31
        refine lv_iload hx hb dX8_chance_34 (lv_at hl 4 rfl) ?_
        refine lv_i2l (v := d.toInt64) hx hb dX8_chance_36 rfl ?_
        refine lv_lconst (v := 0) hx hb dX8_chance_37 (by decide) ?_
        refine lv_lconst (v := 1) hx hb dX8_chance_38 (by decide) ?_
        refine wg_ci hS (wg_rS (As := [.long d.toInt64, .long 0, .long 1]) (rest := []) F hP hS (c_X8_in l E A C _ _ _) ok_X8_in tb_532 rfl rfl ⟨Nat.le_of_ble_eq_true rfl, Nat.le_of_ble_eq_true rfl⟩ rfl hl.1 rfl (Nat.le_of_ble_eq_true rfl) dX8_chance_39 ⟨Nat.le_of_ble_eq_true rfl, Nat.le_of_ble_eq_true rfl⟩) (fun r_39 A1 C_39 H locs w_39 hP hS => ?_)
        obtain ⟨w_39, rfl, rfl⟩ := w_39
        simp only [lc_i2l, show (1 : Int64).toInt = 1 from by decide, show (0 : Int64).toInt = 0 from by decide, show (60 : Int64).toInt = 60 from by decide, show (1000000 : Int64).toInt = 1000000 from by decide, show (100000 : Int64).toInt = 100000 from by decide] at w_39
        refine lv_if_ne (tgt := 49) hx hb dX8_chance_42 (by decide) (fun c_42 => ?_) (fun c_42 => ?_)
        · have q_42 := lc_if2 w_39 c_42
          obtain ⟨n1, hn31, en⟩ := nI_of (x := n) (by rw [Int32.lt_iff_toInt_lt, lc_t0i]; omega)
          have tn : n.toInt = (n1 : Int) := by rw [en, nI_toInt hn31]
          obtain ⟨m1, hm31, em⟩ := nI_of (x := mm) (by rw [Int32.lt_iff_toInt_lt, lc_t0i]; omega)
          have tm : mm.toInt = (m1 : Int) := by rw [em, nI_toInt hm31]
          obtain ⟨s1, hs31, es⟩ := nI_of (x := s0) (by rw [Int32.lt_iff_toInt_lt, lc_t0i]; omega)
          have ts : s0.toInt = (s1 : Int) := by rw [es, nI_toInt hs31]
          obtain ⟨d1, hd31, ed⟩ := nI_of (x := d) (by rw [Int32.lt_iff_toInt_lt, lc_t0i]; omega)
          have td : d.toInt = (d1 : Int) := by rw [ed, nI_toInt hd31]
          have hn60 : n1 ≤ 60 := by omega
          have hCp := lc_C_pos hn60 (show s1 ≤ n1 by omega)
          have hC1 := lc_C_lt (n := n1) (k := s1) hn60
          have hC2 := lc_C_lt (n := n1 - m1) (k := s1) (by omega)
          have hgp : 0 < Nat.gcd (lc_C (n1 - m1) s1) (lc_C n1 s1) := Nat.gcd_pos_of_pos_right _ hCp
          have hgl : Nat.gcd (lc_C (n1 - m1) s1) (lc_C n1 s1) ≤ lc_C n1 s1 := Nat.le_of_dvd hCp (Nat.gcd_dvd_right _ _)
          have hval : lc_chance n mm s0 d = lN (lc_side n1 m1 s1 d1) := by unfold lc_chance; rw [if_pos (by omega), tn, tm, ts, td]; rfl
          refine lv_iload_n hx hb dX8_chance_49 rfl (lv_at hl 1 rfl) ?_
          refine lv_iload_n hx hb dX8_chance_50 rfl (lv_at hl 2 rfl) ?_
          refine lv_isub hx hb dX8_chance_51 ?_
          refine wg_topi (y := nI (n1 - m1)) (by rw [en, em, pk_sub (by omega)]) ?_
          refine lv_iload_n hx hb dX8_chance_52 rfl (lv_at hl 3 rfl) ?_
          refine wg_topi (y := nI s1) es ?_
          refine wg_cl_ hS (wg_rS (As := [.int (nI (n1 - m1)), .int (nI s1)]) (rest := []) F hP hS (c_X8_choose l E A C (n1 - m1) s1 (by omega) (by omega)) ok_X8_choose tb_791 rfl rfl ⟨Nat.le_of_ble_eq_true rfl, Nat.le_of_ble_eq_true rfl⟩ rfl hl.1 rfl (Nat.le_of_ble_eq_true rfl) dX8_chance_53 ⟨Nat.le_of_ble_eq_true rfl, Nat.le_of_ble_eq_true rfl⟩) (fun r_53 A1 C_53 H locs w_53 hP hS => ?_)
          obtain ⟨w_53, rfl, rfl⟩ := w_53
          refine wg_topl (y := lN (lc_C (n1 - m1) s1)) w_53 ?_
          refine lv_lstore (lv' := [(5, .long (lN (lc_C (n1 - m1) s1))), (0, .ref (A 1000)), (1, .int n), (2, .int mm), (3, .int s0), (4, .int d)]) hx hb dX8_chance_56 hl (by decide) rfl (fun ls hl => ?_)
          refine lv_iload_n hx hb dX8_chance_58 rfl (lv_at hl 2 rfl) ?_
          refine wg_topi (y := nI n1) en ?_
          refine lv_iload_n hx hb dX8_chance_59 rfl (lv_at hl 4 rfl) ?_
          refine wg_topi (y := nI s1) es ?_
          refine wg_cl_ hS (wg_rS (As := [.int (nI n1), .int (nI s1)]) (rest := []) F hP hS (c_X8_choose l E A C n1 s1 hn60 (by omega)) ok_X8_choose tb_791 rfl rfl ⟨Nat.le_of_ble_eq_true rfl, Nat.le_of_ble_eq_true rfl⟩ rfl hl.1 rfl (Nat.le_of_ble_eq_true rfl) dX8_chance_60 ⟨Nat.le_of_ble_eq_true rfl, Nat.le_of_ble_eq_true rfl⟩) (fun r_60 A1 C_60 H locs w_60 hP hS => ?_)
          obtain ⟨w_60, rfl, rfl⟩ := w_60
          refine wg_topl (y := lN (lc_C n1 s1)) w_60 ?_
          refine lv_lstore (lv' := [(7, .long (lN (lc_C n1 s1))), (5, .long (lN (lc_C (n1 - m1) s1))), (0, .ref (A 1000)), (1, .int n), (2, .int mm), (3, .int s0), (4, .int d)]) hx hb dX8_chance_63 hl (by decide) rfl (fun ls hl => ?_)
          refine lv_lload hx hb dX8_chance_65 (lv_at hl 0 rfl) ?_
          refine lv_lload hx hb dX8_chance_67 (lv_at hl 1 rfl) ?_
          refine wg_cl_ hS (wg_rS (As := [.long (lN (lc_C n1 s1)), .long (lN (lc_C (n1 - m1) s1))]) (rest := []) F hP hS (c_X8_gcd l E A C (lc_C n1 s1) (lc_C (n1 - m1) s1) (by omega) (by omega)) ok_X8_gcd tb_794 rfl rfl ⟨Nat.le_of_ble_eq_true rfl, Nat.le_of_ble_eq_true rfl⟩ rfl hl.1 rfl (Nat.le_of_ble_eq_true rfl) dX8_chance_69 ⟨Nat.le_of_ble_eq_true rfl, Nat.le_of_ble_eq_true rfl⟩) (fun r_69 A1 C_69 H locs w_69 hP hS => ?_)
          obtain ⟨w_69, rfl, rfl⟩ := w_69
          refine wg_topl (y := lN (Nat.gcd (lc_C (n1 - m1) s1) (lc_C n1 s1))) (by rw [w_69, Nat.gcd_comm]) ?_
          refine lv_lstore (lv' := [(9, .long (lN (Nat.gcd (lc_C (n1 - m1) s1) (lc_C n1 s1)))), (7, .long (lN (lc_C n1 s1))), (5, .long (lN (lc_C (n1 - m1) s1))), (0, .ref (A 1000)), (1, .int n), (2, .int mm), (3, .int s0), (4, .int d)]) hx hb dX8_chance_72 hl (by decide) rfl (fun ls hl => ?_)
          refine lv_iload hx hb dX8_chance_74 (lv_at hl 7 rfl) ?_
          refine lv_if_ne (tgt := 87) hx hb dX8_chance_76 (by decide) (fun c_76 => ?_) (fun c_76 => ?_)
          · have hd0 : ¬ d1 = 0 := fun q => c_76 (by rw [ed, q]; rfl)
            refine lv_lload hx hb dX8_chance_87 (lv_at hl 1 rfl) ?_
            refine lv_lload hx hb dX8_chance_89 (lv_at hl 0 rfl) ?_
            refine lv_ldiv hx hb dX8_chance_91 (by rw [show (0 : Int64) = lN 0 from rfl, pk_lEQ (by omega) (by decide)]; omega) ?_
            exact wg_lret F hP hS hr hlk (⟨by rw [hval, pk_lDiv (by omega) hgp (by omega)]; unfold lc_side; first | rw [if_pos hd0] | rw [if_neg hd0], rfl, rfl⟩) dX8_chance_92
          · have hd0 : d1 = 0 := by rw [c_76, lc_t0i] at td; omega
            refine lv_lload hx hb dX8_chance_79 (lv_at hl 2 rfl) ?_
            refine lv_lload hx hb dX8_chance_81 (lv_at hl 0 rfl) ?_
            refine lv_ldiv hx hb dX8_chance_83 (by rw [show (0 : Int64) = lN 0 from rfl, pk_lEQ (by omega) (by decide)]; omega) ?_
            refine lv_goto (tgt := 92) hx hb dX8_chance_84 (by decide) ?_
            exact wg_lret F hP hS hr hlk (⟨by rw [hval, pk_lDiv (by omega) hgp (by omega)]; unfold lc_side; first | rw [if_pos hd0] | rw [if_neg hd0], rfl, rfl⟩) dX8_chance_92
        · have q_42 := lc_if1 w_39 c_42
          refine lv_ldc2 (v := (-1)) hx hb hown (hts _ tb_790) dX8_chance_45 ?_
          exact wg_lret F hP hS hr hlk (⟨by unfold lc_chance; rw [if_neg (by omega)], rfl, rfl⟩) dX8_chance_48
set_option maxHeartbeats 4000000 in
set_option maxRecDepth 100000 in
theorem c_X7_samples (l : Launch) (E : wg_E) (A : Nat → Nat) (C : wg_C) (n mm w : Int32)   : Met l yX7_samples (wg_ws yX7_samples cX7_samples 5 (some .int)) (wg_rm 2 0 0) (wg_Pc E A C [.ref (A 0), .int n, .int mm, .int w]) (wg_Qi E (fun r A1 C1 => r = lc_samples n mm w ∧ A = A1 ∧ C = C1)) 0 0 (wg_A E) := by
  refine wg_met (by decide) (Nat.le_of_ble_eq_true rfl) ?_
  intro p e s m below meth c ls F hr hlk hnm hP hS hl
  have F : wg_F p m c cX7_samples 5 s ([.ref (A 0), .int n, .int mm, .int w] : List Value).toArray "LightChecks" E := F
  have hx := F.1
  have hb := F.2.1
  have hml := F.2.2.1
  have hown := F.2.2.2.1
  have hts := F.2.2.2.2.1
  have hl : lv_has ls 5 [(0, .ref (A 0)), (1, .int n), (2, .int mm), (3, .int w)] := hl
  refine lv_iload_n hx hb dX7_samples_0 rfl (lv_at hl 1 rfl) ?_
  refine lv_iload_n hx hb dX7_samples_1 rfl (lv_at hl 2 rfl) ?_
  refine wg_ci hS (wg_rS (As := [.int n, .int mm]) (rest := []) F hP hS (c_X7_arePieces l E A C n mm) ok_X7_arePieces tb_500 rfl rfl ⟨Nat.le_of_ble_eq_true rfl, Nat.le_of_ble_eq_true rfl⟩ rfl hl.1 rfl (Nat.le_of_ble_eq_true rfl) dX7_samples_2 ⟨Nat.le_of_ble_eq_true rfl, Nat.le_of_ble_eq_true rfl⟩) (fun r_2 A1 C_2 H locs w_2 hP hS => ?_)
  obtain ⟨w_2, rfl, rfl⟩ := w_2
  rcases w_2 with ⟨n1, m1, hn1, hn60, hmn, en, em, w2⟩ | ⟨ho, w2⟩
  · have tn : n.toInt = (n1 : Int) := by rw [en, nI_toInt (by omega)]
    have tm : mm.toInt = (m1 : Int) := by rw [em, nI_toInt (by omega)]
    refine lv_if_eq (tgt := 19) hx hb dX7_samples_5 (by decide) (fun c_5 => ?_) (fun c_5 => ?_)
    · exact absurd (w2.symm.trans c_5) (by decide)
    · refine lv_iload_n hx hb dX7_samples_8 rfl (lv_at hl 3 rfl) ?_
      refine lv_iconst (v := 1) hx hb dX7_samples_9 (by decide) ?_
      refine lv_icmp_lt (tgt := 19) hx hb dX7_samples_10 (by decide) (fun c_10 => ?_) (fun c_10 => ?_)
      · simp only [Int32.lt_iff_toInt_lt, Int32.le_iff_toInt_le, lc_t0i, lc_t1i, lc_t2i, lc_t60i, lc_tMi] at c_10
        refine lv_iconst (v := (-1)) hx hb dX7_samples_19 (by decide) ?_
        exact wg_iret F hP hS hr hlk (⟨by unfold lc_samples; rw [if_neg (by omega)], rfl, rfl⟩) dX7_samples_20
      · simp only [Int32.lt_iff_toInt_lt, Int32.le_iff_toInt_le, lc_t0i, lc_t1i, lc_t2i, lc_t60i, lc_tMi] at c_10
        refine lv_iload_n hx hb dX7_samples_13 rfl (lv_at hl 3 rfl) ?_
        refine lv_ldc (v := 1000000) hx hb hown (hts _ tb_406) dX7_samples_14 ?_
        refine lv_icmp_le (tgt := 21) hx hb dX7_samples_16 (by decide) (fun c_16 => ?_) (fun c_16 => ?_)
        · simp only [Int32.lt_iff_toInt_lt, Int32.le_iff_toInt_le, lc_t0i, lc_t1i, lc_t2i, lc_t60i, lc_tMi] at c_16
          obtain ⟨w1, hw31, ew⟩ := nI_of (x := w) (by rw [Int32.lt_iff_toInt_lt, lc_t0i]; omega)
          have tw : w.toInt = (w1 : Int) := by rw [ew, nI_toInt hw31]
          have hval : lc_samples n mm w = lc_I (lc_sm n1 m1 w1 (n1 + 1) 0) := by unfold lc_samples; rw [if_pos (by omega), tn, tm, tw]; rfl
          refine lv_iconst (v := 0) hx hb dX7_samples_21 (by decide) ?_
          refine lv_istore (lv' := [(4, .int 0), (0, .ref (A 0)), (1, .int n), (2, .int mm), (3, .int w)]) hx hb dX7_samples_22 hl (by decide) rfl (fun ls hl => ?_)
          have loop_24 : ∀ (fuel : Nat) (i : Nat) (q : Nat) (x4 : Int32), q < fuel → (i + q = n1 + 1) → (x4 = nI i) → (lc_samples n mm w = lc_I (lc_sm n1 m1 w1 q i)) → ∀ (H : Heap) (locs : List Loc) (ls : Array Slot), wg_P E A C H → va_S (wg_A E) s.heap H locs → lv_has ls 5 [(0, .ref (A 0)), (1, .int n), (2, .int mm), (3, .int w), (4, .int x4)] → W p l e (wg_rm 2 0 0) s m ([.ref (A 0), .int n, .int mm, .int w] : List Value).toArray below meth c H locs 0 0 (MQ below (wg_Qi E (fun r A1 C1 => r = lc_samples n mm w ∧ A = A1 ∧ C = C1)) ([.ref (A 0), .int n, .int mm, .int w] : List Value).toArray s 0 0 (wg_A E)) (F0 m 24 ls []) := by
            intro fuel
            induction fuel with
            | zero => intro i q x4 hm; exact absurd hm (Nat.not_lt_zero _)
            | succ fuel ih_loop_24 =>
              intro i q x4 hm_loop_24 hq ex4 hsm H locs ls hP hS hl
              subst ex4
              refine lv_iload hx hb dX7_samples_24 (lv_at hl 4 rfl) ?_
              refine lv_iload_n hx hb dX7_samples_26 rfl (lv_at hl 1 rfl) ?_
              refine lv_icmp_gt (tgt := 60) hx hb dX7_samples_27 (by decide) (fun c_27 => ?_) (fun c_27 => ?_)
              · have hend : q = 0 := by rw [en, nI_ltI (by omega) (by omega)] at c_27; omega
                refine lv_bipush (v := (-2)) hx hb dX7_samples_60 (by decide) ?_
                exact wg_iret F hP hS hr hlk (⟨by rw [hsm, hend]; rfl, rfl, rfl⟩) dX7_samples_62
              · obtain ⟨q, rfl⟩ : ∃ z, q = z + 1 := ⟨q - 1, by rw [en, nI_ltI (by omega) (by omega)] at c_27; omega⟩
                have hC1 := lc_C_lt (n := n1) (k := i) hn60
                have hC2 := lc_C_lt (n := n1 - m1) (k := i) (by omega)
                have hdl : lc_C n1 i / w1 ≤ lc_C n1 i := Nat.div_le_self _ _
                refine lv_iload_n hx hb dX7_samples_30 rfl (lv_at hl 1 rfl) ?_
                refine lv_iload_n hx hb dX7_samples_31 rfl (lv_at hl 2 rfl) ?_
                refine lv_isub hx hb dX7_samples_32 ?_
                refine wg_topi (y := nI (n1 - m1)) (by rw [en, em, pk_sub (by omega)]) ?_
                refine lv_iload hx hb dX7_samples_33 (lv_at hl 4 rfl) ?_
                refine wg_cl_ hS (wg_rS (As := [.int (nI (n1 - m1)), .int (nI i)]) (rest := []) F hP hS (c_X7_choose l E A C (n1 - m1) i (by omega) (by omega)) ok_X7_choose tb_504 rfl rfl ⟨Nat.le_of_ble_eq_true rfl, Nat.le_of_ble_eq_true rfl⟩ rfl hl.1 rfl (Nat.le_of_ble_eq_true rfl) dX7_samples_35 ⟨Nat.le_of_ble_eq_true rfl, Nat.le_of_ble_eq_true rfl⟩) (fun r_35 A1 C_35 H locs w_35 hP hS => ?_)
                obtain ⟨w_35, rfl, rfl⟩ := w_35
                refine wg_topl (y := lN (lc_C (n1 - m1) i)) w_35 ?_
                refine lv_iload_n hx hb dX7_samples_38 rfl (lv_at hl 1 rfl) ?_
                refine wg_topi (y := nI n1) en ?_
                refine lv_iload hx hb dX7_samples_39 (lv_at hl 4 rfl) ?_
                refine wg_cl_ hS (wg_rS (As := [.int (nI n1), .int (nI i)]) (rest := [.long (lN (lc_C (n1 - m1) i))]) F hP hS (c_X7_choose l E A C n1 i hn60 (by omega)) ok_X7_choose tb_504 rfl rfl ⟨Nat.le_of_ble_eq_true rfl, Nat.le_of_ble_eq_true rfl⟩ rfl hl.1 rfl (Nat.le_of_ble_eq_true rfl) dX7_samples_41 ⟨Nat.le_of_ble_eq_true rfl, Nat.le_of_ble_eq_true rfl⟩) (fun r_41 A1 C_41 H locs w_41 hP hS => ?_)
                obtain ⟨w_41, rfl, rfl⟩ := w_41
                refine wg_topl (y := lN (lc_C n1 i)) w_41 ?_
                refine lv_iload_n hx hb dX7_samples_44 rfl (lv_at hl 3 rfl) ?_
                refine lv_i2l (v := w.toInt64) hx hb dX7_samples_45 rfl ?_
                refine wg_topl (y := lN w1) (by rw [ew, nI_l hw31]) ?_
                refine lv_ldiv hx hb dX7_samples_46 (by rw [show (0 : Int64) = lN 0 from rfl, pk_lEQ (by omega) (by decide)]; omega) ?_
                refine wg_topl (y := lN (lc_C n1 i / w1)) (pk_lDiv (by omega) (by omega) (by omega)) ?_
                refine W.lcmp hx hb dX7_samples_47 ?_
                refine lv_if_gt (tgt := 54) hx hb dX7_samples_48 (by decide) (fun c_48 => ?_) (fun c_48 => ?_)
                · have hsm2 : lc_samples n mm w = lc_I (lc_sm n1 m1 w1 q (i + 1)) := by rw [lg_cmp_gt, pk_lLT (by omega) (by omega)] at c_48; rw [hsm]; simp only [lc_sm]; rw [if_neg (by omega)]
                  obtain ⟨x_54, ex_54⟩ : ∃ y : Int32, y = nI i + 1 := ⟨_, rfl⟩
                  refine lv_iinc (v := x_54) (lv' := [(4, .int x_54), (0, .ref (A 0)), (1, .int n), (2, .int mm), (3, .int w)]) hx hb dX7_samples_54 hl (k := 4) rfl (by rw [ex_54]; rfl) (by decide) rfl (fun ls hl => ?_)
                  refine lv_goto (tgt := 24) hx hb dX7_samples_57 (by decide) ?_
                  exact ih_loop_24 (i + 1) q x_54 (by omega) (by omega) (by rw [ex_54, nI_1]) hsm2 _ _ _ hP hS (lv_sub hl [1, 2, 3, 4, 0] rfl)
                · have hsm3 : lc_samples n mm w = nI i := by rw [lg_cmp_gt, pk_lLT (by omega) (by omega)] at c_48; rw [hsm]; simp only [lc_sm]; rw [if_pos (by omega)]; rfl
                  refine lv_iload hx hb dX7_samples_51 (lv_at hl 4 rfl) ?_
                  exact wg_iret F hP hS hr hlk (⟨hsm3.symm, rfl, rfl⟩) dX7_samples_53
          exact loop_24 _ 0 (n1 + 1) 0 (Nat.lt_succ_self _) (by omega) rfl hval _ _ _ hP hS (lv_sub hl [1, 2, 3, 4, 0] rfl)
        · simp only [Int32.lt_iff_toInt_lt, Int32.le_iff_toInt_le, lc_t0i, lc_t1i, lc_t2i, lc_t60i, lc_tMi] at c_16
          refine lv_iconst (v := (-1)) hx hb dX7_samples_19 (by decide) ?_
          exact wg_iret F hP hS hr hlk (⟨by unfold lc_samples; rw [if_neg (by omega)], rfl, rfl⟩) dX7_samples_20
  · simp only [Int32.lt_iff_toInt_lt, Int32.le_iff_toInt_le, lc_t0i, lc_t1i, lc_t2i, lc_t60i, lc_tMi] at ho
    refine lv_if_eq (tgt := 19) hx hb dX7_samples_5 (by decide) (fun c_5 => ?_) (fun c_5 => ?_)
    · refine lv_iconst (v := (-1)) hx hb dX7_samples_19 (by decide) ?_
      exact wg_iret F hP hS hr hlk (⟨by unfold lc_samples; rw [if_neg (by omega)], rfl, rfl⟩) dX7_samples_20
    · exact absurd w2 c_5
set_option maxHeartbeats 4000000 in
set_option maxRecDepth 100000 in
theorem c_X8_samples (l : Launch) (E : wg_E) (A : Nat → Nat) (C : wg_C) (n mm w : Int32)   : Met l yX8_samples (wg_ws yX8_samples cX8_samples 5 (some .int)) (wg_rm 2 0 0) (wg_Pc E A C [.ref (A 1000), .int n, .int mm, .int w]) (wg_Qi E (fun r A1 C1 => r = lc_samples n mm w ∧ A = A1 ∧ C = C1)) 0 0 (wg_A E) := by
  refine wg_met (by decide) (Nat.le_of_ble_eq_true rfl) ?_
  intro p e s m below meth c ls F hr hlk hnm hP hS hl
  have F : wg_F p m c cX8_samples 5 s ([.ref (A 1000), .int n, .int mm, .int w] : List Value).toArray "LightChecksModel" E := F
  have hx := F.1
  have hb := F.2.1
  have hml := F.2.2.1
  have hown := F.2.2.2.1
  have hts := F.2.2.2.2.1
  have hl : lv_has ls 5 [(0, .ref (A 1000)), (1, .int n), (2, .int mm), (3, .int w)] := hl
  refine lv_iload_n hx hb dX8_samples_0 rfl (lv_at hl 1 rfl) ?_
  refine lv_i2l (v := n.toInt64) hx hb dX8_samples_1 rfl ?_
  refine lv_lconst (v := 1) hx hb dX8_samples_2 (by decide) ?_
  refine lv_ldc2 (v := 60) hx hb hown (hts _ tb_789) dX8_samples_3 ?_
  refine wg_ci hS (wg_rS (As := [.long n.toInt64, .long 1, .long 60]) (rest := []) F hP hS (c_X8_in l E A C _ _ _) ok_X8_in tb_532 rfl rfl ⟨Nat.le_of_ble_eq_true rfl, Nat.le_of_ble_eq_true rfl⟩ rfl hl.1 rfl (Nat.le_of_ble_eq_true rfl) dX8_samples_6 ⟨Nat.le_of_ble_eq_true rfl, Nat.le_of_ble_eq_true rfl⟩) (fun r_6 A1 C_6 H locs w_6 hP hS => ?_)
  obtain ⟨w_6, rfl, rfl⟩ := w_6
  simp only [lc_i2l, show (1 : Int64).toInt = 1 from by decide, show (0 : Int64).toInt = 0 from by decide, show (60 : Int64).toInt = 60 from by decide, show (1000000 : Int64).toInt = 1000000 from by decide, show (100000 : Int64).toInt = 100000 from by decide] at w_6
  refine lv_if_eq (tgt := 35) hx hb dX8_samples_9 (by decide) (fun c_9 => ?_) (fun c_9 => ?_)
  · have q_9 := lc_if1 w_6 c_9
    refine lv_iconst (v := (-1)) hx hb dX8_samples_35 (by decide) ?_
    exact wg_iret F hP hS hr hlk (⟨by unfold lc_samples; rw [if_neg (by omega)], rfl, rfl⟩) dX8_samples_36
  · have q_9 := lc_if2 w_6 c_9
    refine lv_iload_n hx hb dX8_samples_12 rfl (lv_at hl 2 rfl) ?_
    refine lv_i2l (v := mm.toInt64) hx hb dX8_samples_13 rfl ?_
    refine lv_lconst (v := 0) hx hb dX8_samples_14 (by decide) ?_
    refine lv_iload_n hx hb dX8_samples_15 rfl (lv_at hl 1 rfl) ?_
    refine lv_i2l (v := n.toInt64) hx hb dX8_samples_16 rfl ?_
    refine wg_ci hS (wg_rS (As := [.long mm.toInt64, .long 0, .long n.toInt64]) (rest := []) F hP hS (c_X8_in l E A C _ _ _) ok_X8_in tb_532 rfl rfl ⟨Nat.le_of_ble_eq_true rfl, Nat.le_of_ble_eq_true rfl⟩ rfl hl.1 rfl (Nat.le_of_ble_eq_true rfl) dX8_samples_17 ⟨Nat.le_of_ble_eq_true rfl, Nat.le_of_ble_eq_true rfl⟩) (fun r_17 A1 C_17 H locs w_17 hP hS => ?_)
    obtain ⟨w_17, rfl, rfl⟩ := w_17
    simp only [lc_i2l, show (1 : Int64).toInt = 1 from by decide, show (0 : Int64).toInt = 0 from by decide, show (60 : Int64).toInt = 60 from by decide, show (1000000 : Int64).toInt = 1000000 from by decide, show (100000 : Int64).toInt = 100000 from by decide] at w_17
    refine lv_if_eq (tgt := 35) hx hb dX8_samples_20 (by decide) (fun c_20 => ?_) (fun c_20 => ?_)
    · have q_20 := lc_if1 w_17 c_20
      refine lv_iconst (v := (-1)) hx hb dX8_samples_35 (by decide) ?_
      exact wg_iret F hP hS hr hlk (⟨by unfold lc_samples; rw [if_neg (by omega)], rfl, rfl⟩) dX8_samples_36
    · have q_20 := lc_if2 w_17 c_20
      refine lv_iload_n hx hb dX8_samples_23 rfl (lv_at hl 3 rfl) ?_
      refine lv_i2l (v := w.toInt64) hx hb dX8_samples_24 rfl ?_
      refine lv_lconst (v := 1) hx hb dX8_samples_25 (by decide) ?_
      refine lv_ldc2 (v := 1000000) hx hb hown (hts _ tb_801) dX8_samples_26 ?_
      refine wg_ci hS (wg_rS (As := [.long w.toInt64, .long 1, .long 1000000]) (rest := []) F hP hS (c_X8_in l E A C _ _ _) ok_X8_in tb_532 rfl rfl ⟨Nat.le_of_ble_eq_true rfl, Nat.le_of_ble_eq_true rfl⟩ rfl hl.1 rfl (Nat.le_of_ble_eq_true rfl) dX8_samples_29 ⟨Nat.le_of_ble_eq_true rfl, Nat.le_of_ble_eq_true rfl⟩) (fun r_29 A1 C_29 H locs w_29 hP hS => ?_)
      obtain ⟨w_29, rfl, rfl⟩ := w_29
      simp only [lc_i2l, show (1 : Int64).toInt = 1 from by decide, show (0 : Int64).toInt = 0 from by decide, show (60 : Int64).toInt = 60 from by decide, show (1000000 : Int64).toInt = 1000000 from by decide, show (100000 : Int64).toInt = 100000 from by decide] at w_29
      refine lv_if_ne (tgt := 37) hx hb dX8_samples_32 (by decide) (fun c_32 => ?_) (fun c_32 => ?_)
      · have q_32 := lc_if2 w_29 c_32
        obtain ⟨n1, hn31, en⟩ := nI_of (x := n) (by rw [Int32.lt_iff_toInt_lt, lc_t0i]; omega)
        have tn : n.toInt = (n1 : Int) := by rw [en, nI_toInt hn31]
        obtain ⟨m1, hm31, em⟩ := nI_of (x := mm) (by rw [Int32.lt_iff_toInt_lt, lc_t0i]; omega)
        have tm : mm.toInt = (m1 : Int) := by rw [em, nI_toInt hm31]
        have hn60 : n1 ≤ 60 := by omega
        obtain ⟨w1, hw31, ew⟩ := nI_of (x := w) (by rw [Int32.lt_iff_toInt_lt, lc_t0i]; omega)
        have tw : w.toInt = (w1 : Int) := by rw [ew, nI_toInt hw31]
        have hval : lc_samples n mm w = lc_I (lc_sm n1 m1 w1 (n1 + 1) 0) := by unfold lc_samples; rw [if_pos (by omega), tn, tm, tw]; rfl
        refine lv_iconst (v := 0) hx hb dX8_samples_37 (by decide) ?_
        refine lv_istore (lv' := [(4, .int 0), (0, .ref (A 1000)), (1, .int n), (2, .int mm), (3, .int w)]) hx hb dX8_samples_38 hl (by decide) rfl (fun ls hl => ?_)
        have loop_40 : ∀ (fuel : Nat) (i : Nat) (q : Nat) (x4 : Int32), q < fuel → (i + q = n1 + 1) → (x4 = nI i) → (lc_samples n mm w = lc_I (lc_sm n1 m1 w1 q i)) → ∀ (H : Heap) (locs : List Loc) (ls : Array Slot), wg_P E A C H → va_S (wg_A E) s.heap H locs → lv_has ls 5 [(0, .ref (A 1000)), (1, .int n), (2, .int mm), (3, .int w), (4, .int x4)] → W p l e (wg_rm 2 0 0) s m ([.ref (A 1000), .int n, .int mm, .int w] : List Value).toArray below meth c H locs 0 0 (MQ below (wg_Qi E (fun r A1 C1 => r = lc_samples n mm w ∧ A = A1 ∧ C = C1)) ([.ref (A 1000), .int n, .int mm, .int w] : List Value).toArray s 0 0 (wg_A E)) (F0 m 40 ls []) := by
          intro fuel
          induction fuel with
          | zero => intro i q x4 hm; exact absurd hm (Nat.not_lt_zero _)
          | succ fuel ih_loop_40 =>
            intro i q x4 hm_loop_40 hq ex4 hsm H locs ls hP hS hl
            subst ex4
            refine lv_iload hx hb dX8_samples_40 (lv_at hl 4 rfl) ?_
            refine lv_iload_n hx hb dX8_samples_42 rfl (lv_at hl 1 rfl) ?_
            refine lv_icmp_gt (tgt := 76) hx hb dX8_samples_43 (by decide) (fun c_43 => ?_) (fun c_43 => ?_)
            · have hend : q = 0 := by rw [en, nI_ltI (by omega) (by omega)] at c_43; omega
              refine lv_bipush (v := (-2)) hx hb dX8_samples_76 (by decide) ?_
              exact wg_iret F hP hS hr hlk (⟨by rw [hsm, hend]; rfl, rfl, rfl⟩) dX8_samples_78
            · obtain ⟨q, rfl⟩ : ∃ z, q = z + 1 := ⟨q - 1, by rw [en, nI_ltI (by omega) (by omega)] at c_43; omega⟩
              have hC1 := lc_C_lt (n := n1) (k := i) hn60
              have hC2 := lc_C_lt (n := n1 - m1) (k := i) (by omega)
              have hdl : lc_C n1 i / w1 ≤ lc_C n1 i := Nat.div_le_self _ _
              refine lv_iload_n hx hb dX8_samples_46 rfl (lv_at hl 1 rfl) ?_
              refine lv_iload_n hx hb dX8_samples_47 rfl (lv_at hl 2 rfl) ?_
              refine lv_isub hx hb dX8_samples_48 ?_
              refine wg_topi (y := nI (n1 - m1)) (by rw [en, em, pk_sub (by omega)]) ?_
              refine lv_iload hx hb dX8_samples_49 (lv_at hl 4 rfl) ?_
              refine wg_cl_ hS (wg_rS (As := [.int (nI (n1 - m1)), .int (nI i)]) (rest := []) F hP hS (c_X8_choose l E A C (n1 - m1) i (by omega) (by omega)) ok_X8_choose tb_791 rfl rfl ⟨Nat.le_of_ble_eq_true rfl, Nat.le_of_ble_eq_true rfl⟩ rfl hl.1 rfl (Nat.le_of_ble_eq_true rfl) dX8_samples_51 ⟨Nat.le_of_ble_eq_true rfl, Nat.le_of_ble_eq_true rfl⟩) (fun r_51 A1 C_51 H locs w_51 hP hS => ?_)
              obtain ⟨w_51, rfl, rfl⟩ := w_51
              refine wg_topl (y := lN (lc_C (n1 - m1) i)) w_51 ?_
              refine lv_iload_n hx hb dX8_samples_54 rfl (lv_at hl 1 rfl) ?_
              refine wg_topi (y := nI n1) en ?_
              refine lv_iload hx hb dX8_samples_55 (lv_at hl 4 rfl) ?_
              refine wg_cl_ hS (wg_rS (As := [.int (nI n1), .int (nI i)]) (rest := [.long (lN (lc_C (n1 - m1) i))]) F hP hS (c_X8_choose l E A C n1 i hn60 (by omega)) ok_X8_choose tb_791 rfl rfl ⟨Nat.le_of_ble_eq_true rfl, Nat.le_of_ble_eq_true rfl⟩ rfl hl.1 rfl (Nat.le_of_ble_eq_true rfl) dX8_samples_57 ⟨Nat.le_of_ble_eq_true rfl, Nat.le_of_ble_eq_true rfl⟩) (fun r_57 A1 C_57 H locs w_57 hP hS => ?_)
              obtain ⟨w_57, rfl, rfl⟩ := w_57
              refine wg_topl (y := lN (lc_C n1 i)) w_57 ?_
              refine lv_iload_n hx hb dX8_samples_60 rfl (lv_at hl 3 rfl) ?_
              refine lv_i2l (v := w.toInt64) hx hb dX8_samples_61 rfl ?_
              refine wg_topl (y := lN w1) (by rw [ew, nI_l hw31]) ?_
              refine lv_ldiv hx hb dX8_samples_62 (by rw [show (0 : Int64) = lN 0 from rfl, pk_lEQ (by omega) (by decide)]; omega) ?_
              refine wg_topl (y := lN (lc_C n1 i / w1)) (pk_lDiv (by omega) (by omega) (by omega)) ?_
              refine W.lcmp hx hb dX8_samples_63 ?_
              refine lv_if_gt (tgt := 70) hx hb dX8_samples_64 (by decide) (fun c_64 => ?_) (fun c_64 => ?_)
              · have hsm2 : lc_samples n mm w = lc_I (lc_sm n1 m1 w1 q (i + 1)) := by rw [lg_cmp_gt, pk_lLT (by omega) (by omega)] at c_64; rw [hsm]; simp only [lc_sm]; rw [if_neg (by omega)]
                obtain ⟨x_70, ex_70⟩ : ∃ y : Int32, y = nI i + 1 := ⟨_, rfl⟩
                refine lv_iinc (v := x_70) (lv' := [(4, .int x_70), (0, .ref (A 1000)), (1, .int n), (2, .int mm), (3, .int w)]) hx hb dX8_samples_70 hl (k := 4) rfl (by rw [ex_70]; rfl) (by decide) rfl (fun ls hl => ?_)
                refine lv_goto (tgt := 40) hx hb dX8_samples_73 (by decide) ?_
                exact ih_loop_40 (i + 1) q x_70 (by omega) (by omega) (by rw [ex_70, nI_1]) hsm2 _ _ _ hP hS (lv_sub hl [1, 2, 3, 4, 0] rfl)
              · have hsm3 : lc_samples n mm w = nI i := by rw [lg_cmp_gt, pk_lLT (by omega) (by omega)] at c_64; rw [hsm]; simp only [lc_sm]; rw [if_pos (by omega)]; rfl
                refine lv_iload hx hb dX8_samples_67 (lv_at hl 4 rfl) ?_
                exact wg_iret F hP hS hr hlk (⟨hsm3.symm, rfl, rfl⟩) dX8_samples_69
        exact loop_40 _ 0 (n1 + 1) 0 (Nat.lt_succ_self _) (by omega) rfl hval _ _ _ hP hS (lv_sub hl [1, 2, 3, 4, 0] rfl)
      · have q_32 := lc_if1 w_29 c_32
        refine lv_iconst (v := (-1)) hx hb dX8_samples_35 (by decide) ?_
        exact wg_iret F hP hS hr hlk (⟨by unfold lc_samples; rw [if_neg (by omega)], rfl, rfl⟩) dX8_samples_36
