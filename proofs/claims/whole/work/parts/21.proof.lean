set_option maxHeartbeats 4000000 in
set_option maxRecDepth 100000 in
theorem c_X4_isOnWay (l : Launch) (E : wg_E) (A : Nat → Nat) (C : wg_C) (a b k : Nat) (va vb : Int64) (ct : Int32) (ha : a < 8) (hb8 : b < 8) (hk : k < 17) (f11 : C 11 = some (.inr (4, [.int (nI a), .int (nI b), .long va, .long vb, .ref (A 12), .int ct, .ref (A 13)]))) : Met l yX4_isOnWay (wg_ws yX4_isOnWay cX4_isOnWay 3 (some .boolean)) (wg_rm 0 0 0) (wg_Pc E A C [.ref (A 11), .int (nI k)]) (wg_Qi E (fun r A1 C1 => r = (if lc_on a b k = true then 1 else 0) ∧ A = A1 ∧ C = C1)) 0 0 (wg_A E) := by
  refine wg_met (by decide) (Nat.le_of_ble_eq_true rfl) ?_
  intro p e s m below meth c ls F hr hlk hnm hP hS hl
  have F : wg_F p m c cX4_isOnWay 3 s ([.ref (A 11), .int (nI k)] : List Value).toArray "LightChecks$Proof" E := F
  have hx := F.1
  have hb := F.2.1
  have hml := F.2.2.1
  have hown := F.2.2.2.1
  have hts := F.2.2.2.2.1
  have hl : lv_has ls 3 [(0, .ref (A 11)), (1, .int (nI k))] := hl
  refine lv_iconst (v := 0) hx hb dX4_isOnWay_0 (by decide) ?_
  refine lv_istore_n (lv' := [(2, .int 0), (0, .ref (A 11)), (1, .int (nI k))]) hx hb dX4_isOnWay_1 rfl hl (by decide) rfl (fun ls hl => ?_)
  have loop_2 : ∀ (fuel : Nat) (u : Nat) (x2 : Int32), 4 - u < fuel → (u ≤ 4) → (x2 = nI u) → (∀ v, v < u → (8 + a) / 2 ^ v ≠ k ∧ (8 + b) / 2 ^ v ≠ k) → ∀ (H : Heap) (locs : List Loc) (ls : Array Slot), wg_P E A C H → va_S (wg_A E) s.heap H locs → lv_has ls 3 [(0, .ref (A 11)), (1, .int (nI k)), (2, .int x2)] → W p l e (wg_rm 0 0 0) s m ([.ref (A 11), .int (nI k)] : List Value).toArray below meth c H locs 0 0 (MQ below (wg_Qi E (fun r A1 C1 => r = (if lc_on a b k = true then 1 else 0) ∧ A = A1 ∧ C = C1)) ([.ref (A 11), .int (nI k)] : List Value).toArray s 0 0 (wg_A E)) (F0 m 2 ls []) := by
    intro fuel
    induction fuel with
    | zero => intro u x2 hm; exact absurd hm (Nat.not_lt_zero _)
    | succ fuel ih_loop_2 =>
      intro u x2 hm_loop_2 hu ex2 hno H locs ls hP hS hl
      subst ex2
      refine lv_iload_n hx hb dX4_isOnWay_2 rfl (lv_at hl 2 rfl) ?_
      refine lv_iconst (v := 4) hx hb dX4_isOnWay_3 (by decide) ?_
      refine lv_icmp_ge (tgt := 41) hx hb dX4_isOnWay_4 (by decide) (fun c_4 => ?_) (fun c_4 => ?_)
      · have hu4 : u = 4 := by rw [show (4 : Int32) = nI 4 from rfl, nI_leI (by decide) (by omega)] at c_4; omega
        subst hu4
        refine lv_iconst (v := 0) hx hb dX4_isOnWay_41 (by decide) ?_
        exact wg_zret F hP hS hr hlk (by decide) ⟨by rw [if_neg (fun q => by obtain ⟨v, hv, h⟩ := (lc_on_iff a ha b hb8 k hk).mp q; rcases h with h | h; exact (hno v hv).1 h; exact (hno v hv).2 h)], rfl, rfl⟩ dX4_isOnWay_42
      · have hu4 : u < 4 := by rw [show (4 : Int32) = nI 4 from rfl, nI_leI (by decide) (by omega)] at c_4; omega
        have hda : (8 + a) / 2 ^ u ≤ 8 + a := Nat.div_le_self _ _
        have hdb : (8 + b) / 2 ^ u ≤ 8 + b := Nat.div_le_self _ _
        refine lv_bipush (v := 8) hx hb dX4_isOnWay_7 (by decide) ?_
        refine lv_aload_n hx hb dX4_isOnWay_9 rfl (lv_at hl 0 rfl) ?_
        refine wg_get F hP f11 rfl iw_X4 0 (by decide) tb_82 rfl rfl dX4_isOnWay_10 ?_
        refine lv_iadd hx hb dX4_isOnWay_13 ?_
        refine lv_iload_n hx hb dX4_isOnWay_14 rfl (lv_at hl 2 rfl) ?_
        refine lv_iushr (v := ((8 + (nI a)).toUInt32 >>> ((nI u).toUInt32 &&& Int32.toUInt32 31)).toInt32) hx hb dX4_isOnWay_15 rfl ?_
        refine lv_iload_n hx hb dX4_isOnWay_16 rfl (lv_at hl 1 rfl) ?_
        refine lv_icmp_eq (tgt := 33) hx hb dX4_isOnWay_17 (by decide) (fun c_17 => ?_) (fun c_17 => ?_)
        · rw [lc_wayshift a ha u hu4, nI_eq (by omega) (by omega)] at c_17
          refine lv_iconst (v := 1) hx hb dX4_isOnWay_33 (by decide) ?_
          exact wg_zret F hP hS hr hlk (by decide) ⟨by rw [if_pos ((lc_on_iff a ha b hb8 k hk).mpr ⟨u, hu4, by first | exact Or.inl c_17 | exact Or.inr c_30⟩)], rfl, rfl⟩ dX4_isOnWay_34
        · have hna : (8 + a) / 2 ^ u ≠ k := by rw [lc_wayshift a ha u hu4, nI_eq (by omega) (by omega)] at c_17; exact c_17
          refine lv_bipush (v := 8) hx hb dX4_isOnWay_20 (by decide) ?_
          refine lv_aload_n hx hb dX4_isOnWay_22 rfl (lv_at hl 0 rfl) ?_
          refine wg_get F hP f11 rfl iw_X4 1 (by decide) tb_83 rfl rfl dX4_isOnWay_23 ?_
          refine lv_iadd hx hb dX4_isOnWay_26 ?_
          refine lv_iload_n hx hb dX4_isOnWay_27 rfl (lv_at hl 2 rfl) ?_
          refine lv_iushr (v := ((8 + (nI b)).toUInt32 >>> ((nI u).toUInt32 &&& Int32.toUInt32 31)).toInt32) hx hb dX4_isOnWay_28 rfl ?_
          refine lv_iload_n hx hb dX4_isOnWay_29 rfl (lv_at hl 1 rfl) ?_
          refine lv_icmp_ne (tgt := 35) hx hb dX4_isOnWay_30 (by decide) (fun c_30 => ?_) (fun c_30 => ?_)
          · have hnb : (8 + b) / 2 ^ u ≠ k := by rw [lc_wayshift b hb8 u hu4, nI_eq (by omega) (by omega)] at c_30; exact c_30
            obtain ⟨x_35, ex_35⟩ : ∃ y : Int32, y = nI u + 1 := ⟨_, rfl⟩
            refine lv_iinc (v := x_35) (lv' := [(2, .int x_35), (0, .ref (A 11)), (1, .int (nI k))]) hx hb dX4_isOnWay_35 hl (k := 2) rfl (by rw [ex_35]; rfl) (by decide) rfl (fun ls hl => ?_)
            refine lv_goto (tgt := 2) hx hb dX4_isOnWay_38 (by decide) ?_
            exact ih_loop_2 (u + 1) x_35 (by omega) (by omega) (by rw [ex_35, nI_1]) (fun v hv => by rcases (show v < u ∨ v = u by omega) with h | h; exact hno v h; rw [h]; exact ⟨hna, hnb⟩) _ _ _ hP hS (lv_sub hl [1, 2, 0] rfl)
          · rw [lc_wayshift b hb8 u hu4, nI_eq (by omega) (by omega)] at c_30
            refine lv_iconst (v := 1) hx hb dX4_isOnWay_33 (by decide) ?_
            exact wg_zret F hP hS hr hlk (by decide) ⟨by rw [if_pos ((lc_on_iff a ha b hb8 k hk).mpr ⟨u, hu4, by first | exact Or.inl c_17 | exact Or.inr c_30⟩)], rfl, rfl⟩ dX4_isOnWay_34
  exact loop_2 _ 0 0 (Nat.lt_succ_self _) (by decide) rfl (fun v hv => absurd hv (Nat.not_lt_zero _)) _ _ _ hP hS (lv_sub hl [1, 2, 0] rfl)
set_option maxHeartbeats 4000000 in
set_option maxRecDepth 100000 in
theorem c_X4_isBeside (l : Launch) (E : wg_E) (A : Nat → Nat) (C : wg_C) (a b k : Nat) (va vb : Int64) (ct : Int32) (ha : a < 8) (hb8 : b < 8) (hk : k < 16) (f11 : C 11 = some (.inr (4, [.int (nI a), .int (nI b), .long va, .long vb, .ref (A 12), .int ct, .ref (A 13)]))) : Met l yX4_isBeside (wg_ws yX4_isBeside cX4_isBeside 2 (some .boolean)) (wg_rm 1 0 0) (wg_Pc E A C [.ref (A 11), .int (nI k)]) (wg_Qi E (fun r A1 C1 => r = (if lc_bs a b k = true then 1 else 0) ∧ A = A1 ∧ C = C1)) 0 0 (wg_A E) := by
  refine wg_met (by decide) (Nat.le_of_ble_eq_true rfl) ?_
  intro p e s m below meth c ls F hr hlk hnm hP hS hl
  have F : wg_F p m c cX4_isBeside 2 s ([.ref (A 11), .int (nI k)] : List Value).toArray "LightChecks$Proof" E := F
  have hx := F.1
  have hb := F.2.1
  have hml := F.2.2.1
  have hown := F.2.2.2.1
  have hts := F.2.2.2.2.1
  have hl : lv_has ls 2 [(0, .ref (A 11)), (1, .int (nI k))] := hl
  refine lv_aload_n hx hb dX4_isBeside_0 rfl (lv_at hl 0 rfl) ?_
  refine lv_iload_n hx hb dX4_isBeside_1 rfl (lv_at hl 1 rfl) ?_
  refine wg_ci hS (wg_rV (As := [.int (nI k)]) (rest := []) F hP hS (c_X4_isOnWay l E A C a b k va vb ct ha hb8 (by omega) f11) ok_X4_isOnWay tb_155 rfl rfl ⟨Nat.le_of_ble_eq_true rfl, Nat.le_of_ble_eq_true rfl⟩ f11 rfl rfl rfl hl.1 rfl (Nat.le_of_ble_eq_true rfl) dX4_isBeside_2 ⟨Nat.le_of_ble_eq_true rfl, Nat.le_of_ble_eq_true rfl⟩) (fun r_2 A1 C_2 H locs w_2 hP hS => ?_)
  obtain ⟨w_2, rfl, rfl⟩ := w_2
  refine lv_if_ne (tgt := 22) hx hb dX4_isBeside_5 (by decide) (fun c_5 => ?_) (fun c_5 => ?_)
  · have ho : lc_on a b k = true := Decidable.byContradiction (fun q => c_5 (by rw [w_2, if_neg q]))
    refine lv_iconst (v := 0) hx hb dX4_isBeside_22 (by decide) ?_
    exact wg_zret F hP hS hr hlk (by decide) ⟨by unfold lc_bs; first | (rw [ho, hs]; rfl) | (rw [ho]; rfl), rfl, rfl⟩ dX4_isBeside_23
  · have ho : lc_on a b k = false := by
      cases q : lc_on a b k
      · rfl
      · rw [q] at w_2; exact absurd (w_2.symm.trans c_5) (by decide)
    refine lv_aload_n hx hb dX4_isBeside_8 rfl (lv_at hl 0 rfl) ?_
    refine lv_iload_n hx hb dX4_isBeside_9 rfl (lv_at hl 1 rfl) ?_
    refine lv_iconst (v := 1) hx hb dX4_isBeside_10 (by decide) ?_
    refine lv_ixor hx hb dX4_isBeside_11 ?_
    refine wg_topi (y := nI (lc_sib k)) ((lc_xor1 k hk).1) ?_
    refine wg_ci hS (wg_rV (As := [.int (nI (lc_sib k))]) (rest := []) F hP hS (c_X4_isOnWay l E A C a b (lc_sib k) va vb ct ha hb8 (by have := (lc_xor1 k hk).2; omega) f11) ok_X4_isOnWay tb_155 rfl rfl ⟨Nat.le_of_ble_eq_true rfl, Nat.le_of_ble_eq_true rfl⟩ f11 rfl rfl rfl hl.1 rfl (Nat.le_of_ble_eq_true rfl) dX4_isBeside_12 ⟨Nat.le_of_ble_eq_true rfl, Nat.le_of_ble_eq_true rfl⟩) (fun r_12 A1 C_12 H locs w_12 hP hS => ?_)
    obtain ⟨w_12, rfl, rfl⟩ := w_12
    refine lv_if_eq (tgt := 22) hx hb dX4_isBeside_15 (by decide) (fun c_15 => ?_) (fun c_15 => ?_)
    · have hs : lc_on a b (lc_sib k) = false := by
        cases q : lc_on a b (lc_sib k)
        · rfl
        · rw [q] at w_12; exact absurd (w_12.symm.trans c_15) (by decide)
      refine lv_iconst (v := 0) hx hb dX4_isBeside_22 (by decide) ?_
      exact wg_zret F hP hS hr hlk (by decide) ⟨by unfold lc_bs; first | (rw [ho, hs]; rfl) | (rw [ho]; rfl), rfl, rfl⟩ dX4_isBeside_23
    · have hs : lc_on a b (lc_sib k) = true := Decidable.byContradiction (fun q => c_15 (by rw [w_12, if_neg q]))
      refine lv_iconst (v := 1) hx hb dX4_isBeside_18 (by decide) ?_
      refine lv_goto (tgt := 23) hx hb dX4_isBeside_19 (by decide) ?_
      exact wg_zret F hP hS hr hlk (by decide) ⟨by unfold lc_bs; rw [ho, hs]; rfl, rfl, rfl⟩ dX4_isBeside_23
set_option maxHeartbeats 4000000 in
set_option maxRecDepth 100000 in
theorem c_X4_hasNode (l : Launch) (E : wg_E) (A : Nat → Nat) (C : wg_C) (a b ct : Nat) (va vb : Int64) (k : Int32) (hct : ct ≤ 4) (f11 : C 11 = some (.inr (4, [.int (nI a), .int (nI b), .long va, .long vb, .ref (A 12), .int (nI ct), .ref (A 13)]))) : Met l yX4_hasNode (wg_ws yX4_hasNode cX4_hasNode 2 (some .boolean)) (wg_rm 0 0 0) (wg_Pc E A C [.ref (A 11), .int k]) (wg_Qi E (fun r A1 C1 => r = (if 0 ≤ k.toInt ∧ k.toInt < ct then 1 else 0) ∧ A = A1 ∧ C = C1)) 0 0 (wg_A E) := by
  refine wg_met (by decide) (Nat.le_of_ble_eq_true rfl) ?_
  intro p e s m below meth c ls F hr hlk hnm hP hS hl
  have F : wg_F p m c cX4_hasNode 2 s ([.ref (A 11), .int k] : List Value).toArray "LightChecks$Proof" E := F
  have hx := F.1
  have hb := F.2.1
  have hml := F.2.2.1
  have hown := F.2.2.2.1
  have hts := F.2.2.2.2.1
  have hl : lv_has ls 2 [(0, .ref (A 11)), (1, .int k)] := hl
  refine lv_iload_n hx hb dX4_hasNode_0 rfl (lv_at hl 1 rfl) ?_
  refine lv_if_lt (tgt := 21) hx hb dX4_hasNode_1 (by decide) (fun c_1 => ?_) (fun c_1 => ?_)
  · have hneg : k.toInt < 0 := by rw [Int32.lt_iff_toInt_lt, show (0 : Int32).toInt = 0 from by decide] at c_1; exact c_1
    refine lv_iconst (v := 0) hx hb dX4_hasNode_21 (by decide) ?_
    exact wg_zret F hP hS hr hlk (by decide) ⟨by rw [if_neg (by omega)], rfl, rfl⟩ dX4_hasNode_22
  · obtain ⟨j, hj, rfl⟩ := nI_of c_1
    refine lv_iload_n hx hb dX4_hasNode_4 rfl (lv_at hl 1 rfl) ?_
    refine lv_aload_n hx hb dX4_hasNode_5 rfl (lv_at hl 0 rfl) ?_
    refine wg_get F hP f11 rfl iw_X4 5 (by decide) tb_87 rfl rfl dX4_hasNode_6 ?_
    refine lv_icmp_ge (tgt := 21) hx hb dX4_hasNode_9 (by decide) (fun c_9 => ?_) (fun c_9 => ?_)
    · rw [nI_leI (by omega) hj] at c_9
      refine lv_iconst (v := 0) hx hb dX4_hasNode_21 (by decide) ?_
      exact wg_zret F hP hS hr hlk (by decide) ⟨by rw [nI_toInt hj, if_neg (by omega)], rfl, rfl⟩ dX4_hasNode_22
    · rw [nI_leI (by omega) hj] at c_9
      refine lv_iload_n hx hb dX4_hasNode_12 rfl (lv_at hl 1 rfl) ?_
      refine lv_iconst (v := 4) hx hb dX4_hasNode_13 (by decide) ?_
      refine lv_icmp_ge (tgt := 21) hx hb dX4_hasNode_14 (by decide) (fun c_14 => ?_) (fun c_14 => ?_)
      · exact absurd c_14 (by rw [show (4 : Int32) = nI 4 from rfl, nI_leI (by decide) hj]; omega)
      · refine lv_iconst (v := 1) hx hb dX4_hasNode_17 (by decide) ?_
        refine lv_goto (tgt := 22) hx hb dX4_hasNode_18 (by decide) ?_
        exact wg_zret F hP hS hr hlk (by decide) ⟨by rw [nI_toInt hj, if_pos (by omega)], rfl, rfl⟩ dX4_hasNode_22
set_option maxHeartbeats 4000000 in
set_option maxRecDepth 100000 in
theorem c_X4_numberAt (l : Launch) (E : wg_E) (A : Nat → Nat) (C : wg_C) (a b ct : Nat) (va vb : Int64) (pn : Nat → Int64) (k : Int32) (hct : ct ≤ 4) (f11 : C 11 = some (.inr (4, [.int (nI a), .int (nI b), .long va, .long vb, .ref (A 12), .int (nI ct), .ref (A 13)]))) (f12 : C 12 = some (.inl (E.2.1 1, 4, .inr (.inl pn)))) : Met l yX4_numberAt (wg_ws yX4_numberAt cX4_numberAt 2 (some .long)) (wg_rm 1 0 0) (wg_Pc E A C [.ref (A 11), .int k]) (wg_Ql E (fun r A1 C1 => r = lc_num a b va vb ct pn k ∧ A = A1 ∧ C = C1)) 0 0 (wg_A E) := by
  refine wg_met (by decide) (Nat.le_of_ble_eq_true rfl) ?_
  intro p e s m below meth c ls F hr hlk hnm hP hS hl
  have F : wg_F p m c cX4_numberAt 2 s ([.ref (A 11), .int k] : List Value).toArray "LightChecks$Proof" E := F
  have hx := F.1
  have hb := F.2.1
  have hml := F.2.2.1
  have hown := F.2.2.2.1
  have hts := F.2.2.2.2.1
  have hl : lv_has ls 2 [(0, .ref (A 11)), (1, .int k)] := hl
  refine lv_iload_n hx hb dX4_numberAt_0 rfl (lv_at hl 1 rfl) ?_
  rcases lc_sw4 k with rfl | rfl | rfl | rfl | ho
  · refine lv_tableIn (off := 31) (tgt := 32) hx hb dX4_numberAt_1 (by decide) (by decide) (by decide) (by decide) ?_
    refine lv_aload_n hx hb dX4_numberAt_32 rfl (lv_at hl 0 rfl) ?_
    refine wg_get F hP f11 rfl iw_X4 0 (by decide) tb_82 rfl rfl dX4_numberAt_33 ?_
    refine lv_i2l (v := (nI a).toInt64) hx hb dX4_numberAt_36 rfl ?_
    exact wg_lret F hP hS hr hlk (⟨rfl, rfl, rfl⟩) dX4_numberAt_37
  · refine lv_tableIn (off := 37) (tgt := 38) hx hb dX4_numberAt_1 (by decide) (by decide) (by decide) (by decide) ?_
    refine lv_aload_n hx hb dX4_numberAt_38 rfl (lv_at hl 0 rfl) ?_
    refine wg_get F hP f11 rfl iw_X4 1 (by decide) tb_83 rfl rfl dX4_numberAt_39 ?_
    refine lv_i2l (v := (nI b).toInt64) hx hb dX4_numberAt_42 rfl ?_
    exact wg_lret F hP hS hr hlk (⟨rfl, rfl, rfl⟩) dX4_numberAt_43
  · refine lv_tableIn (off := 43) (tgt := 44) hx hb dX4_numberAt_1 (by decide) (by decide) (by decide) (by decide) ?_
    refine lv_aload_n hx hb dX4_numberAt_44 rfl (lv_at hl 0 rfl) ?_
    refine wg_get F hP f11 rfl iw_X4 2 (by decide) tb_84 rfl rfl dX4_numberAt_45 ?_
    exact wg_lret F hP hS hr hlk (⟨rfl, rfl, rfl⟩) dX4_numberAt_48
  · refine lv_tableIn (off := 48) (tgt := 49) hx hb dX4_numberAt_1 (by decide) (by decide) (by decide) (by decide) ?_
    refine lv_aload_n hx hb dX4_numberAt_49 rfl (lv_at hl 0 rfl) ?_
    refine wg_get F hP f11 rfl iw_X4 3 (by decide) tb_85 rfl rfl dX4_numberAt_50 ?_
    exact wg_lret F hP hS hr hlk (⟨rfl, rfl, rfl⟩) dX4_numberAt_53
  · refine lv_tableOut (tgt := 54) hx hb dX4_numberAt_1 ho (by decide) ?_
    refine lv_aload_n hx hb dX4_numberAt_54 rfl (lv_at hl 0 rfl) ?_
    refine lv_iload_n hx hb dX4_numberAt_55 rfl (lv_at hl 1 rfl) ?_
    refine lv_iconst (v := 4) hx hb dX4_numberAt_56 (by decide) ?_
    refine lv_isub hx hb dX4_numberAt_57 ?_
    refine wg_ci hS (wg_rV (As := [.int (k - 4)]) (rest := []) F hP hS (c_X4_hasNode l E A C a b ct va vb _ hct f11) ok_X4_hasNode tb_465 rfl rfl ⟨Nat.le_of_ble_eq_true rfl, Nat.le_of_ble_eq_true rfl⟩ f11 rfl rfl rfl hl.1 rfl (Nat.le_of_ble_eq_true rfl) dX4_numberAt_58 ⟨Nat.le_of_ble_eq_true rfl, Nat.le_of_ble_eq_true rfl⟩) (fun r_58 A1 C_58 H locs w_58 hP hS => ?_)
    obtain ⟨w_58, rfl, rfl⟩ := w_58
    refine lv_if_eq (tgt := 75) hx hb dX4_numberAt_61 (by decide) (fun c_61 => ?_) (fun c_61 => ?_)
    · have h4 := (lc_not4 (k := k) hct (fun q => by rw [w_58, if_pos q] at c_61; exact absurd c_61 (by decide))).1
      refine lv_lconst (v := 0) hx hb dX4_numberAt_75 (by decide) ?_
      exact wg_lret F hP hS hr hlk (⟨by rw [lc_num_out ho, if_neg h4], rfl, rfl⟩) dX4_numberAt_76
    · obtain ⟨i, hic, ek, e4, eT, eC⟩ := lc_has4 (k := k) hct (Decidable.byContradiction (fun q => c_61 (by rw [w_58, if_neg q])))
      refine lv_aload_n hx hb dX4_numberAt_64 rfl (lv_at hl 0 rfl) ?_
      refine wg_get F hP f11 rfl iw_X4 4 (by decide) tb_86 rfl rfl dX4_numberAt_65 ?_
      refine lv_iload_n hx hb dX4_numberAt_68 rfl (lv_at hl 1 rfl) ?_
      refine lv_iconst (v := 4) hx hb dX4_numberAt_69 (by decide) ?_
      refine lv_isub hx hb dX4_numberAt_70 ?_
      refine wg_lld F hP f12 (by rw [e4]; exact vp_in_nI (by omega) (by decide)) dX4_numberAt_71 ?_
      refine lv_goto (tgt := 76) hx hb dX4_numberAt_72 (by decide) ?_
      exact wg_lret F hP hS hr hlk (⟨by rw [lc_num_out ho, if_pos (by omega), e4, nI_clamp (by omega), eC, Nat.add_sub_cancel], rfl, rfl⟩) dX4_numberAt_76
set_option maxHeartbeats 4000000 in
set_option maxRecDepth 100000 in
theorem c_X4_replace (l : Launch) (E : wg_E) (A : Nat → Nat) (C : wg_C) (a b ct : Nat) (va vb : Int64) (pn : Nat → Int64) (k : Int32) (v : Int64) (hct : ct ≤ 4) (f11 : C 11 = some (.inr (4, [.int (nI a), .int (nI b), .long va, .long vb, .ref (A 12), .int (nI ct), .ref (A 13)]))) (f12 : C 12 = some (.inl (E.2.1 1, 4, .inr (.inl pn)))) : Met l yX4_replace (wg_ws yX4_replace cX4_replace 4 (some .boolean)) (wg_rm 1 0 0) (wg_Pc E A C [.ref (A 11), .int k, .long v]) (wg_Qi E (fun r A1 C1 => A = A1 ∧ ((r = 1 ∧ ((k = 2 ∧ C1 = va_up C 11 (some (.inr (4, [.int (nI a), .int (nI b), .long v, .long vb, .ref (A 12), .int (nI ct), .ref (A 13)])))) ∨ (k = 3 ∧ C1 = va_up C 11 (some (.inr (4, [.int (nI a), .int (nI b), .long va, .long v, .ref (A 12), .int (nI ct), .ref (A 13)])))) ∨ (∃ i, i < ct ∧ k = nI (i + 4) ∧ C1 = va_up C 12 (some (.inl (E.2.1 1, 4, .inr (.inl (vp_updL pn i v)))))))) ∨ (r = 0 ∧ ¬ k = 2 ∧ ¬ k = 3 ∧ (¬ ∃ i, i < ct ∧ k = nI (i + 4)) ∧ C = C1)))) 0 0 (wg_A E) := by
  refine wg_met (by decide) (Nat.le_of_ble_eq_true rfl) ?_
  intro p e s m below meth c ls F hr hlk hnm hP hS hl
  have F : wg_F p m c cX4_replace 4 s ([.ref (A 11), .int k, .long v] : List Value).toArray "LightChecks$Proof" E := F
  have hx := F.1
  have hb := F.2.1
  have hml := F.2.2.1
  have hown := F.2.2.2.1
  have hts := F.2.2.2.2.1
  have hl : lv_has ls 4 [(0, .ref (A 11)), (1, .int k), (2, .long v)] := hl
  refine lv_iload_n hx hb dX4_replace_0 rfl (lv_at hl 1 rfl) ?_
  refine lv_iconst (v := 2) hx hb dX4_replace_1 (by decide) ?_
  refine lv_icmp_ne (tgt := 13) hx hb dX4_replace_2 (by decide) (fun c_2 => ?_) (fun c_2 => ?_)
  · refine lv_iload_n hx hb dX4_replace_13 rfl (lv_at hl 1 rfl) ?_
    refine lv_iconst (v := 3) hx hb dX4_replace_14 (by decide) ?_
    refine lv_icmp_ne (tgt := 26) hx hb dX4_replace_15 (by decide) (fun c_15 => ?_) (fun c_15 => ?_)
    · refine lv_aload_n hx hb dX4_replace_26 rfl (lv_at hl 0 rfl) ?_
      refine lv_iload_n hx hb dX4_replace_27 rfl (lv_at hl 1 rfl) ?_
      refine lv_iconst (v := 4) hx hb dX4_replace_28 (by decide) ?_
      refine lv_isub hx hb dX4_replace_29 ?_
      refine wg_ci hS (wg_rV (As := [.int (k - 4)]) (rest := []) F hP hS (c_X4_hasNode l E A C a b ct va vb _ hct f11) ok_X4_hasNode tb_465 rfl rfl ⟨Nat.le_of_ble_eq_true rfl, Nat.le_of_ble_eq_true rfl⟩ f11 rfl rfl rfl hl.1 rfl (Nat.le_of_ble_eq_true rfl) dX4_replace_30 ⟨Nat.le_of_ble_eq_true rfl, Nat.le_of_ble_eq_true rfl⟩) (fun r_30 A1 C_30 H locs w_30 hP hS => ?_)
      obtain ⟨w_30, rfl, rfl⟩ := w_30
      refine lv_if_eq (tgt := 48) hx hb dX4_replace_33 (by decide) (fun c_33 => ?_) (fun c_33 => ?_)
      · have hno := (lc_not4 (k := k) hct (fun q => by rw [w_30, if_pos q] at c_33; exact absurd c_33 (by decide))).2
        refine lv_iconst (v := 0) hx hb dX4_replace_48 (by decide) ?_
        exact wg_zret F hP hS hr hlk (by decide) ⟨rfl, Or.inr ⟨rfl, c_2, c_15, fun ⟨i2, h1, h2⟩ => hno i2 h1 h2, rfl⟩⟩ dX4_replace_49
      · obtain ⟨i, hic, ek, e4, eT, eC⟩ := lc_has4 (k := k) hct (Decidable.byContradiction (fun q => c_33 (by rw [w_30, if_neg q])))
        refine lv_aload_n hx hb dX4_replace_36 rfl (lv_at hl 0 rfl) ?_
        refine wg_get F hP f11 rfl iw_X4 4 (by decide) tb_86 rfl rfl dX4_replace_37 ?_
        refine lv_iload_n hx hb dX4_replace_40 rfl (lv_at hl 1 rfl) ?_
        refine lv_iconst (v := 4) hx hb dX4_replace_41 (by decide) ?_
        refine lv_isub hx hb dX4_replace_42 ?_
        refine lv_lload_n hx hb dX4_replace_43 rfl (lv_at hl 2 rfl) ?_
        refine wg_lst F hP hS f12 (by rw [e4]; exact vp_in_nI (by omega) (by decide)) dX4_replace_44 (fun H locs hP hS => ?_)
        obtain ⟨C_44, hC_44⟩ : ∃ z : wg_C, z = va_up C 12 (some (.inl (E.2.1 1, 4, .inr (.inl (vp_updL pn (k - 4).toNatClampNeg v))))) := ⟨_, rfl⟩
        have hP : wg_P E A C_44 H := by rw [hC_44]; exact hP
        have f11_c44 : C_44 11 = some (.inr (4, [.int (nI a), .int (nI b), .long va, .long vb, .ref (A 12), .int (nI ct), .ref (A 13)])) := by rw [hC_44]; rw [va_up_ne _ _ (by decide)]; exact f11
        have f12_c44 : C_44 12 = some (.inl (E.2.1 1, 4, .inr (.inl (vp_updL pn (k - 4).toNatClampNeg v)))) := by rw [hC_44]; exact va_up_self _ _ _
        refine lv_goto (tgt := 50) hx hb dX4_replace_45 (by decide) ?_
        refine lv_iconst (v := 1) hx hb dX4_replace_50 (by decide) ?_
        exact wg_zret F hP hS hr hlk (by decide) ⟨rfl, Or.inl ⟨rfl, Or.inr (Or.inr ⟨i, hic, ek, by rw [hC_44, e4, nI_clamp (by omega)]⟩)⟩⟩ dX4_replace_51
    · refine lv_aload_n hx hb dX4_replace_18 rfl (lv_at hl 0 rfl) ?_
      refine lv_lload_n hx hb dX4_replace_19 rfl (lv_at hl 2 rfl) ?_
      refine wg_put F hP hS f11 rfl iw_X4 tyX4_ok nmX4 3 (by decide) tb_85 rfl rfl rfl (Nat.le_of_ble_eq_true rfl) dX4_replace_20 (fun H locs hP hS => ?_)
      obtain ⟨C_20, hC_20⟩ : ∃ z : wg_C, z = va_up C 11 (some (.inr (4, [.int (nI a), .int (nI b), .long va, .long v, .ref (A 12), .int (nI ct), .ref (A 13)]))) := ⟨_, rfl⟩
      have hP : wg_P E A C_20 H := by rw [hC_20]; exact hP
      have f11_c20 : C_20 11 = some (.inr (4, [.int (nI a), .int (nI b), .long va, .long v, .ref (A 12), .int (nI ct), .ref (A 13)])) := by rw [hC_20]; exact va_up_self _ _ _
      have f12_c20 : C_20 12 = some (.inl (E.2.1 1, 4, .inr (.inl pn))) := by rw [hC_20]; rw [va_up_ne _ _ (by decide)]; exact f12
      refine lv_goto (tgt := 50) hx hb dX4_replace_23 (by decide) ?_
      refine lv_iconst (v := 1) hx hb dX4_replace_50 (by decide) ?_
      exact wg_zret F hP hS hr hlk (by decide) ⟨rfl, Or.inl ⟨rfl, Or.inr (Or.inl ⟨c_15, hC_20⟩)⟩⟩ dX4_replace_51
  · refine lv_aload_n hx hb dX4_replace_5 rfl (lv_at hl 0 rfl) ?_
    refine lv_lload_n hx hb dX4_replace_6 rfl (lv_at hl 2 rfl) ?_
    refine wg_put F hP hS f11 rfl iw_X4 tyX4_ok nmX4 2 (by decide) tb_84 rfl rfl rfl (Nat.le_of_ble_eq_true rfl) dX4_replace_7 (fun H locs hP hS => ?_)
    obtain ⟨C_7, hC_7⟩ : ∃ z : wg_C, z = va_up C 11 (some (.inr (4, [.int (nI a), .int (nI b), .long v, .long vb, .ref (A 12), .int (nI ct), .ref (A 13)]))) := ⟨_, rfl⟩
    have hP : wg_P E A C_7 H := by rw [hC_7]; exact hP
    have f11_c7 : C_7 11 = some (.inr (4, [.int (nI a), .int (nI b), .long v, .long vb, .ref (A 12), .int (nI ct), .ref (A 13)])) := by rw [hC_7]; exact va_up_self _ _ _
    have f12_c7 : C_7 12 = some (.inl (E.2.1 1, 4, .inr (.inl pn))) := by rw [hC_7]; rw [va_up_ne _ _ (by decide)]; exact f12
    refine lv_goto (tgt := 50) hx hb dX4_replace_10 (by decide) ?_
    refine lv_iconst (v := 1) hx hb dX4_replace_50 (by decide) ?_
    exact wg_zret F hP hS hr hlk (by decide) ⟨rfl, Or.inl ⟨rfl, Or.inl ⟨c_2, hC_7⟩⟩⟩ dX4_replace_51
set_option maxHeartbeats 4000000 in
set_option maxRecDepth 100000 in
theorem c_X4_take (l : Launch) (E : wg_E) (A : Nat → Nat) (C : wg_C) (a b : Nat) (a0 b0 ct0 : Int32) (va0 vb0 : Int64) (pn lf nd : Nat → Int64) (ha : a < 8) (hb8 : b < 8) (hab : a ≠ b) (hnd : ∀ j, 1 ≤ j → j < 16 → nd j = lc_node lf j) (f11 : C 11 = some (.inr (4, [.int a0, .int b0, .long va0, .long vb0, .ref (A 12), .int ct0, .ref (A 13)]))) (f12 : C 12 = some (.inl (E.2.1 1, 4, .inr (.inl pn)))) (f8 : C 8 = some (.inr (5, [.ref (A 9), .ref (A 10)]))) (f9 : C 9 = some (.inl (E.2.1 1, 8, .inr (.inl lf)))) (f10 : C 10 = some (.inl (E.2.1 1, 16, .inr (.inl nd)))) : Met l yX4_take (wg_ws yX4_take cX4_take 5 none) (wg_rm 3 0 0) (wg_Pc E A C [.ref (A 11), .ref (A 8), .int (nI a), .int (nI b)]) (wg_Qv E (fun A1 C1 => A = A1 ∧ (∀ r, r ≠ 11 → r ≠ 12 → C1 r = C r) ∧ C1 11 = some (.inr (4, [.int (nI a), .int (nI b), .long (lf a), .long (lf b), .ref (A 12), .int (nI (lc_cnt a b 1)), .ref (A 13)])) ∧ C1 12 = some (.inl (E.2.1 1, 4, .inr (.inl (lc_tk a b lf pn 1)))))) 0 0 (wg_A E) := by
  refine wg_met (by decide) (Nat.le_of_ble_eq_true rfl) ?_
  intro p e s m below meth c ls F hr hlk hnm hP hS hl
  have F : wg_F p m c cX4_take 5 s ([.ref (A 11), .ref (A 8), .int (nI a), .int (nI b)] : List Value).toArray "LightChecks$Proof" E := F
  have hx := F.1
  have hb := F.2.1
  have hml := F.2.2.1
  have hown := F.2.2.2.1
  have hts := F.2.2.2.2.1
  have hl : lv_has ls 5 [(0, .ref (A 11)), (1, .ref (A 8)), (2, .int (nI a)), (3, .int (nI b))] := hl
  refine lv_aload_n hx hb dX4_take_0 rfl (lv_at hl 0 rfl) ?_
  refine lv_iload_n hx hb dX4_take_1 rfl (lv_at hl 2 rfl) ?_
  refine wg_put F hP hS f11 rfl iw_X4 tyX4_ok nmX4 0 (by decide) tb_82 rfl rfl rfl (Nat.le_of_ble_eq_true rfl) dX4_take_2 (fun H locs hP hS => ?_)
  obtain ⟨C_2, hC_2⟩ : ∃ z : wg_C, z = va_up C 11 (some (.inr (4, [.int (nI a), .int b0, .long va0, .long vb0, .ref (A 12), .int ct0, .ref (A 13)]))) := ⟨_, rfl⟩
  have hP : wg_P E A C_2 H := by rw [hC_2]; exact hP
  have f11_c2 : C_2 11 = some (.inr (4, [.int (nI a), .int b0, .long va0, .long vb0, .ref (A 12), .int ct0, .ref (A 13)])) := by rw [hC_2]; exact va_up_self _ _ _
  have f12_c2 : C_2 12 = some (.inl (E.2.1 1, 4, .inr (.inl pn))) := by rw [hC_2]; rw [va_up_ne _ _ (by decide)]; exact f12
  have f8_c2 : C_2 8 = some (.inr (5, [.ref (A 9), .ref (A 10)])) := by rw [hC_2]; rw [va_up_ne _ _ (by decide)]; exact f8
  have f9_c2 : C_2 9 = some (.inl (E.2.1 1, 8, .inr (.inl lf))) := by rw [hC_2]; rw [va_up_ne _ _ (by decide)]; exact f9
  have f10_c2 : C_2 10 = some (.inl (E.2.1 1, 16, .inr (.inl nd))) := by rw [hC_2]; rw [va_up_ne _ _ (by decide)]; exact f10
  refine lv_aload_n hx hb dX4_take_5 rfl (lv_at hl 0 rfl) ?_
  refine lv_iload_n hx hb dX4_take_6 rfl (lv_at hl 3 rfl) ?_
  refine wg_put F hP hS f11_c2 rfl iw_X4 tyX4_ok nmX4 1 (by decide) tb_83 rfl rfl rfl (Nat.le_of_ble_eq_true rfl) dX4_take_7 (fun H locs hP hS => ?_)
  obtain ⟨C_7, hC_7⟩ : ∃ z : wg_C, z = va_up C_2 11 (some (.inr (4, [.int (nI a), .int (nI b), .long va0, .long vb0, .ref (A 12), .int ct0, .ref (A 13)]))) := ⟨_, rfl⟩
  have hP : wg_P E A C_7 H := by rw [hC_7]; exact hP
  have f11_c7 : C_7 11 = some (.inr (4, [.int (nI a), .int (nI b), .long va0, .long vb0, .ref (A 12), .int ct0, .ref (A 13)])) := by rw [hC_7]; exact va_up_self _ _ _
  have f12_c7 : C_7 12 = some (.inl (E.2.1 1, 4, .inr (.inl pn))) := by rw [hC_7]; rw [va_up_ne _ _ (by decide)]; exact f12_c2
  have f8_c7 : C_7 8 = some (.inr (5, [.ref (A 9), .ref (A 10)])) := by rw [hC_7]; rw [va_up_ne _ _ (by decide)]; exact f8_c2
  have f9_c7 : C_7 9 = some (.inl (E.2.1 1, 8, .inr (.inl lf))) := by rw [hC_7]; rw [va_up_ne _ _ (by decide)]; exact f9_c2
  have f10_c7 : C_7 10 = some (.inl (E.2.1 1, 16, .inr (.inl nd))) := by rw [hC_7]; rw [va_up_ne _ _ (by decide)]; exact f10_c2
  refine lv_aload_n hx hb dX4_take_10 rfl (lv_at hl 0 rfl) ?_
  refine lv_aload_n hx hb dX4_take_11 rfl (lv_at hl 1 rfl) ?_
  refine lv_iload_n hx hb dX4_take_12 rfl (lv_at hl 2 rfl) ?_
  refine wg_cl_ hS (wg_rVN (As := [.int (nI a)]) (rest := [.ref (A 11)]) F hP hS (c_X5_leafAt l E A C_7 lf nd a ha f8_c7 f9_c7 f10_c7) ok_X5_leafAt nb_144 rfl rfl ⟨Nat.le_of_ble_eq_true rfl, Nat.le_of_ble_eq_true rfl⟩ f8_c7 rfl rfl rfl hl.1 rfl (Nat.le_of_ble_eq_true rfl) dX4_take_13 ⟨Nat.le_of_ble_eq_true rfl, Nat.le_of_ble_eq_true rfl⟩) (fun r_13 A1 C_13 H locs w_13 hP hS => ?_)
  obtain ⟨w_13, rfl, rfl⟩ := w_13
  refine wg_topl (y := lf a) w_13 ?_
  refine wg_put F hP hS f11_c7 rfl iw_X4 tyX4_ok nmX4 2 (by decide) tb_84 rfl rfl rfl (Nat.le_of_ble_eq_true rfl) dX4_take_16 (fun H locs hP hS => ?_)
  obtain ⟨C_16, hC_16⟩ : ∃ z : wg_C, z = va_up C_7 11 (some (.inr (4, [.int (nI a), .int (nI b), .long (lf a), .long vb0, .ref (A 12), .int ct0, .ref (A 13)]))) := ⟨_, rfl⟩
  have hP : wg_P E A C_16 H := by rw [hC_16]; exact hP
  have f11_c16 : C_16 11 = some (.inr (4, [.int (nI a), .int (nI b), .long (lf a), .long vb0, .ref (A 12), .int ct0, .ref (A 13)])) := by rw [hC_16]; exact va_up_self _ _ _
  have f12_c16 : C_16 12 = some (.inl (E.2.1 1, 4, .inr (.inl pn))) := by rw [hC_16]; rw [va_up_ne _ _ (by decide)]; exact f12_c7
  have f8_c16 : C_16 8 = some (.inr (5, [.ref (A 9), .ref (A 10)])) := by rw [hC_16]; rw [va_up_ne _ _ (by decide)]; exact f8_c7
  have f9_c16 : C_16 9 = some (.inl (E.2.1 1, 8, .inr (.inl lf))) := by rw [hC_16]; rw [va_up_ne _ _ (by decide)]; exact f9_c7
  have f10_c16 : C_16 10 = some (.inl (E.2.1 1, 16, .inr (.inl nd))) := by rw [hC_16]; rw [va_up_ne _ _ (by decide)]; exact f10_c7
  refine lv_aload_n hx hb dX4_take_19 rfl (lv_at hl 0 rfl) ?_
  refine lv_aload_n hx hb dX4_take_20 rfl (lv_at hl 1 rfl) ?_
  refine lv_iload_n hx hb dX4_take_21 rfl (lv_at hl 3 rfl) ?_
  refine wg_cl_ hS (wg_rVN (As := [.int (nI b)]) (rest := [.ref (A 11)]) F hP hS (c_X5_leafAt l E A C_16 lf nd b hb8 f8_c16 f9_c16 f10_c16) ok_X5_leafAt nb_144 rfl rfl ⟨Nat.le_of_ble_eq_true rfl, Nat.le_of_ble_eq_true rfl⟩ f8_c16 rfl rfl rfl hl.1 rfl (Nat.le_of_ble_eq_true rfl) dX4_take_22 ⟨Nat.le_of_ble_eq_true rfl, Nat.le_of_ble_eq_true rfl⟩) (fun r_22 A1 C_22 H locs w_22 hP hS => ?_)
  obtain ⟨w_22, rfl, rfl⟩ := w_22
  refine wg_topl (y := lf b) w_22 ?_
  refine wg_put F hP hS f11_c16 rfl iw_X4 tyX4_ok nmX4 3 (by decide) tb_85 rfl rfl rfl (Nat.le_of_ble_eq_true rfl) dX4_take_25 (fun H locs hP hS => ?_)
  obtain ⟨C_25, hC_25⟩ : ∃ z : wg_C, z = va_up C_16 11 (some (.inr (4, [.int (nI a), .int (nI b), .long (lf a), .long (lf b), .ref (A 12), .int ct0, .ref (A 13)]))) := ⟨_, rfl⟩
  have hP : wg_P E A C_25 H := by rw [hC_25]; exact hP
  have f11_c25 : C_25 11 = some (.inr (4, [.int (nI a), .int (nI b), .long (lf a), .long (lf b), .ref (A 12), .int ct0, .ref (A 13)])) := by rw [hC_25]; exact va_up_self _ _ _
  have f12_c25 : C_25 12 = some (.inl (E.2.1 1, 4, .inr (.inl pn))) := by rw [hC_25]; rw [va_up_ne _ _ (by decide)]; exact f12_c16
  have f8_c25 : C_25 8 = some (.inr (5, [.ref (A 9), .ref (A 10)])) := by rw [hC_25]; rw [va_up_ne _ _ (by decide)]; exact f8_c16
  have f9_c25 : C_25 9 = some (.inl (E.2.1 1, 8, .inr (.inl lf))) := by rw [hC_25]; rw [va_up_ne _ _ (by decide)]; exact f9_c16
  have f10_c25 : C_25 10 = some (.inl (E.2.1 1, 16, .inr (.inl nd))) := by rw [hC_25]; rw [va_up_ne _ _ (by decide)]; exact f10_c16
  refine lv_aload_n hx hb dX4_take_28 rfl (lv_at hl 0 rfl) ?_
  refine lv_iconst (v := 0) hx hb dX4_take_29 (by decide) ?_
  refine wg_put F hP hS f11_c25 rfl iw_X4 tyX4_ok nmX4 5 (by decide) tb_87 rfl rfl rfl (Nat.le_of_ble_eq_true rfl) dX4_take_30 (fun H locs hP hS => ?_)
  obtain ⟨C_30, hC_30⟩ : ∃ z : wg_C, z = va_up C_25 11 (some (.inr (4, [.int (nI a), .int (nI b), .long (lf a), .long (lf b), .ref (A 12), .int 0, .ref (A 13)]))) := ⟨_, rfl⟩
  have hP : wg_P E A C_30 H := by rw [hC_30]; exact hP
  have f11_c30 : C_30 11 = some (.inr (4, [.int (nI a), .int (nI b), .long (lf a), .long (lf b), .ref (A 12), .int 0, .ref (A 13)])) := by rw [hC_30]; exact va_up_self _ _ _
  have f12_c30 : C_30 12 = some (.inl (E.2.1 1, 4, .inr (.inl pn))) := by rw [hC_30]; rw [va_up_ne _ _ (by decide)]; exact f12_c25
  have f8_c30 : C_30 8 = some (.inr (5, [.ref (A 9), .ref (A 10)])) := by rw [hC_30]; rw [va_up_ne _ _ (by decide)]; exact f8_c25
  have f9_c30 : C_30 9 = some (.inl (E.2.1 1, 8, .inr (.inl lf))) := by rw [hC_30]; rw [va_up_ne _ _ (by decide)]; exact f9_c25
  have f10_c30 : C_30 10 = some (.inl (E.2.1 1, 16, .inr (.inl nd))) := by rw [hC_30]; rw [va_up_ne _ _ (by decide)]; exact f10_c25
  refine lv_bipush (v := 15) hx hb dX4_take_33 (by decide) ?_
  refine lv_istore (lv' := [(4, .int 15), (0, .ref (A 11)), (1, .ref (A 8)), (2, .int (nI a)), (3, .int (nI b))]) hx hb dX4_take_35 hl (by decide) rfl (fun ls hl => ?_)
  have loop_37 : ∀ (fuel : Nat) (k : Nat) (x4 : Int32) (fi : Nat → Int64) (ct : Int32), k < fuel → (1 ≤ k) → (k < 16) → (x4 = nI k) → (fi = lc_tk a b lf pn k) → (ct = nI (lc_cnt a b k)) → ∀ (Cw : wg_C) , Cw 11 = some (.inr (4, [.int (nI a), .int (nI b), .long (lf a), .long (lf b), .ref (A 12), .int ct, .ref (A 13)])) → Cw 12 = some (.inl (E.2.1 1, 4, .inr (.inl fi))) → Cw 8 = some (.inr (5, [.ref (A 9), .ref (A 10)])) → Cw 9 = some (.inl (E.2.1 1, 8, .inr (.inl lf))) → Cw 10 = some (.inl (E.2.1 1, 16, .inr (.inl nd))) → (∀ r, r ≠ 11 → r ≠ 12 → Cw r = C r) → ∀ (H : Heap) (locs : List Loc) (ls : Array Slot), wg_P E A Cw H → va_S (wg_A E) s.heap H locs → lv_has ls 5 [(0, .ref (A 11)), (1, .ref (A 8)), (4, .int x4)] → W p l e (wg_rm 3 0 0) s m ([.ref (A 11), .ref (A 8), .int (nI a), .int (nI b)] : List Value).toArray below meth c H locs 0 0 (MQ below (wg_Qv E (fun A1 C1 => A = A1 ∧ (∀ r, r ≠ 11 → r ≠ 12 → C1 r = C r) ∧ C1 11 = some (.inr (4, [.int (nI a), .int (nI b), .long (lf a), .long (lf b), .ref (A 12), .int (nI (lc_cnt a b 1)), .ref (A 13)])) ∧ C1 12 = some (.inl (E.2.1 1, 4, .inr (.inl (lc_tk a b lf pn 1)))))) ([.ref (A 11), .ref (A 8), .int (nI a), .int (nI b)] : List Value).toArray s 0 0 (wg_A E)) (F0 m 37 ls []) := by
    intro fuel
    induction fuel with
    | zero => intro k x4 fi ct hm; exact absurd hm (Nat.not_lt_zero _)
    | succ fuel ih_loop_37 =>
      intro k x4 fi ct hm_loop_37 hk1 hk ex4 hfi hct Cw f11w f12w f8w f9w f10w hbase H locs ls hP hS hl
      subst ex4 hfi hct
      refine lv_iload hx hb dX4_take_37 (lv_at hl 2 rfl) ?_
      refine lv_iconst (v := 1) hx hb dX4_take_39 (by decide) ?_
      refine lv_icmp_le (tgt := 91) hx hb dX4_take_40 (by decide) (fun c_40 => ?_) (fun c_40 => ?_)
      · have hk0 : k = 1 := by rw [show (1 : Int32) = nI 1 from rfl, nI_leI (by omega) (by decide)] at c_40; omega
        subst hk0
        exact wg_vret F hP hS hr hlk (⟨rfl, fun r h1 h2 => by rw [hbase r h1 h2], f11w, f12w⟩) dX4_take_91
      · have hk2 : 1 < k := by rw [show (1 : Int32) = nI 1 from rfl, nI_leI (by omega) (by decide)] at c_40; omega
        obtain ⟨k, rfl⟩ : ∃ q, k = q + 1 := ⟨k - 1, by omega⟩
        have hk2 : 1 ≤ k := by omega
        have h4 := lc_cnt_small ha hb8 hab (k := k) (by omega)
        refine lv_aload_n hx hb dX4_take_43 rfl (lv_at hl 0 rfl) ?_
        refine lv_iload hx hb dX4_take_44 (lv_at hl 2 rfl) ?_
        refine wg_ci hS (wg_rV (As := [.int (nI (k + 1))]) (rest := []) F hP hS (c_X4_isBeside l E A Cw a b (k + 1) (lf a) (lf b) _ ha hb8 hk f11w) ok_X4_isBeside tb_151 rfl rfl ⟨Nat.le_of_ble_eq_true rfl, Nat.le_of_ble_eq_true rfl⟩ f11w rfl rfl rfl hl.1 rfl (Nat.le_of_ble_eq_true rfl) dX4_take_46 ⟨Nat.le_of_ble_eq_true rfl, Nat.le_of_ble_eq_true rfl⟩) (fun r_46 A1 C_46 H locs w_46 hP hS => ?_)
        obtain ⟨w_46, rfl, rfl⟩ := w_46
        refine lv_if_eq (tgt := 85) hx hb dX4_take_49 (by decide) (fun c_49 => ?_) (fun c_49 => ?_)
        · have hbs : ¬ lc_bs a b (k + 1) = true := fun q => by rw [w_46, if_pos q] at c_49; exact absurd c_49 (by decide)
          have hfn := lc_tk_no (lf := lf) (pn := pn) (k := k) (by omega) hbs
          have hcn : nI (lc_cnt a b (k + 1)) = nI (lc_cnt a b k) := by rw [lc_cnt_no (by omega) hbs]
          obtain ⟨x_85, ex_85⟩ : ∃ y : Int32, y = nI (k + 1) + (-1) := ⟨_, rfl⟩
          refine lv_iinc (v := x_85) (lv' := [(4, .int x_85), (0, .ref (A 11)), (1, .ref (A 8))]) hx hb dX4_take_85 hl (k := 2) rfl (by rw [ex_85]; rfl) (by decide) rfl (fun ls hl => ?_)
          refine lv_goto (tgt := 37) hx hb dX4_take_88 (by decide) ?_
          exact ih_loop_37 k x_85 ((lc_tk a b lf pn (k + 1))) (nI (lc_cnt a b (k + 1))) (by omega) hk2 (by omega) (lc_dec ex_85) hfn hcn Cw f11w f12w f8w f9w f10w (fun r h1 h2 => by rw [hbase r h1 h2]) _ _ _ hP hS (lv_sub hl [1, 2, 0] rfl)
        · have hbs : lc_bs a b (k + 1) = true := Decidable.byContradiction (fun q => c_49 (by rw [w_46, if_neg q]))
          have hlt := lc_cnt_lt ha hb8 hab hk (by omega) hbs
          have hc4 := lc_cnt_le a ha b hb8 hab
          refine lv_aload_n hx hb dX4_take_52 rfl (lv_at hl 0 rfl) ?_
          refine wg_get F hP f11w rfl iw_X4 5 (by decide) tb_87 rfl rfl dX4_take_53 ?_
          refine lv_iconst (v := 4) hx hb dX4_take_56 (by decide) ?_
          refine lv_icmp_ge (tgt := 85) hx hb dX4_take_57 (by decide) (fun c_57 => ?_) (fun c_57 => ?_)
          · exact absurd c_57 (by rw [show (4 : Int32) = nI 4 from rfl, nI_leI (by decide) (by omega)]; omega)
          · refine lv_aload_n hx hb dX4_take_60 rfl (lv_at hl 0 rfl) ?_
            refine wg_get F hP f11w rfl iw_X4 4 (by decide) tb_86 rfl rfl dX4_take_61 ?_
            refine lv_aload_n hx hb dX4_take_64 rfl (lv_at hl 0 rfl) ?_
            refine wg_get F hP f11w rfl iw_X4 5 (by decide) tb_87 rfl rfl dX4_take_65 ?_
            refine lv_aload_n hx hb dX4_take_68 rfl (lv_at hl 1 rfl) ?_
            refine lv_iload hx hb dX4_take_69 (lv_at hl 2 rfl) ?_
            refine wg_cl_ hS (wg_rVN (As := [.int (nI (k + 1))]) (rest := [.int (nI (lc_cnt a b (k + 1))), .ref (A 12)]) F hP hS (c_X5_nodeAt l E A Cw lf nd (nI (k + 1)) hnd f8w f9w f10w) ok_X5_nodeAt nb_159 rfl rfl ⟨Nat.le_of_ble_eq_true rfl, Nat.le_of_ble_eq_true rfl⟩ f8w rfl rfl rfl hl.1 rfl (Nat.le_of_ble_eq_true rfl) dX4_take_71 ⟨Nat.le_of_ble_eq_true rfl, Nat.le_of_ble_eq_true rfl⟩) (fun r_71 A1 C_71 H locs w_71 hP hS => ?_)
            obtain ⟨w_71, rfl, rfl⟩ := w_71
            have w3 : r_71 = lc_node lf (k + 1) := by
              rcases w_71 with ⟨j, _, h2, h3, h5⟩ | ⟨h, _⟩
              · rw [nI_eq (by omega) (by omega)] at h3; rw [h5, h3]
              · exact absurd h (by rintro (h | h); rw [show (1 : Int32) = nI 1 from rfl, nI_ltI (by omega) (by decide)] at h; omega; rw [nI_leI (by decide) (by omega)] at h; omega)
            refine wg_topl (y := lc_node lf (k + 1)) w3 ?_
            refine lv_topl (fun x_74 ex_74 => ?_)
            refine wg_lst F hP hS f12w (vp_in_nI (by omega) (by decide)) dX4_take_74 (fun H locs hP hS => ?_)
            obtain ⟨C_74, hC_74⟩ : ∃ z : wg_C, z = va_up Cw 12 (some (.inl (E.2.1 1, 4, .inr (.inl (vp_updL ((lc_tk a b lf pn (k + 1))) (nI (lc_cnt a b (k + 1))).toNatClampNeg x_74))))) := ⟨_, rfl⟩
            have hP : wg_P E A C_74 H := by rw [hC_74]; exact hP
            have f11w_c74 : C_74 11 = some (.inr (4, [.int (nI a), .int (nI b), .long (lf a), .long (lf b), .ref (A 12), .int (nI (lc_cnt a b (k + 1))), .ref (A 13)])) := by rw [hC_74]; rw [va_up_ne _ _ (by decide)]; exact f11w
            have f12w_c74 : C_74 12 = some (.inl (E.2.1 1, 4, .inr (.inl (vp_updL ((lc_tk a b lf pn (k + 1))) (nI (lc_cnt a b (k + 1))).toNatClampNeg x_74)))) := by rw [hC_74]; exact va_up_self _ _ _
            have f8w_c74 : C_74 8 = some (.inr (5, [.ref (A 9), .ref (A 10)])) := by rw [hC_74]; rw [va_up_ne _ _ (by decide)]; exact f8w
            have f9w_c74 : C_74 9 = some (.inl (E.2.1 1, 8, .inr (.inl lf))) := by rw [hC_74]; rw [va_up_ne _ _ (by decide)]; exact f9w
            have f10w_c74 : C_74 10 = some (.inl (E.2.1 1, 16, .inr (.inl nd))) := by rw [hC_74]; rw [va_up_ne _ _ (by decide)]; exact f10w
            have f12w_c74n : C_74 12 = some (.inl (E.2.1 1, 4, .inr (.inl (vp_updL ((lc_tk a b lf pn (k + 1))) ((lc_cnt a b (k + 1))) x_74)))) := by rw [f12w_c74, nI_clamp (by omega)]
            refine lv_aload_n hx hb dX4_take_75 rfl (lv_at hl 0 rfl) ?_
            refine lv_dup hx hb dX4_take_76 rfl ?_
            refine wg_get F hP f11w_c74 rfl iw_X4 5 (by decide) tb_87 rfl rfl dX4_take_77 ?_
            refine lv_iconst (v := 1) hx hb dX4_take_80 (by decide) ?_
            refine lv_iadd hx hb dX4_take_81 ?_
            refine lv_topi (fun x_82 ex_82 => ?_)
            refine wg_put F hP hS f11w_c74 rfl iw_X4 tyX4_ok nmX4 5 (by decide) tb_87 rfl rfl rfl (Nat.le_of_ble_eq_true rfl) dX4_take_82 (fun H locs hP hS => ?_)
            obtain ⟨C_82, hC_82⟩ : ∃ z : wg_C, z = va_up C_74 11 (some (.inr (4, [.int (nI a), .int (nI b), .long (lf a), .long (lf b), .ref (A 12), .int x_82, .ref (A 13)]))) := ⟨_, rfl⟩
            have hP : wg_P E A C_82 H := by rw [hC_82]; exact hP
            have f11w_c82 : C_82 11 = some (.inr (4, [.int (nI a), .int (nI b), .long (lf a), .long (lf b), .ref (A 12), .int x_82, .ref (A 13)])) := by rw [hC_82]; exact va_up_self _ _ _
            have f12w_c82 : C_82 12 = some (.inl (E.2.1 1, 4, .inr (.inl (vp_updL ((lc_tk a b lf pn (k + 1))) ((lc_cnt a b (k + 1))) x_74)))) := by rw [hC_82]; rw [va_up_ne _ _ (by decide)]; exact f12w_c74n
            have f8w_c82 : C_82 8 = some (.inr (5, [.ref (A 9), .ref (A 10)])) := by rw [hC_82]; rw [va_up_ne _ _ (by decide)]; exact f8w_c74
            have f9w_c82 : C_82 9 = some (.inl (E.2.1 1, 8, .inr (.inl lf))) := by rw [hC_82]; rw [va_up_ne _ _ (by decide)]; exact f9w_c74
            have f10w_c82 : C_82 10 = some (.inl (E.2.1 1, 16, .inr (.inl nd))) := by rw [hC_82]; rw [va_up_ne _ _ (by decide)]; exact f10w_c74
            have hcn : x_82 = nI (lc_cnt a b k) := by rw [ex_82, nI_1, lc_cnt_yes (by omega) hbs]
            have hfn : vp_updL ((lc_tk a b lf pn (k + 1))) ((lc_cnt a b (k + 1))) x_74 = lc_tk a b lf pn k := by rw [ex_74]; exact lc_tk_yes (by omega) hbs hlt.2
            obtain ⟨x_85, ex_85⟩ : ∃ y : Int32, y = nI (k + 1) + (-1) := ⟨_, rfl⟩
            refine lv_iinc (v := x_85) (lv' := [(4, .int x_85), (0, .ref (A 11)), (1, .ref (A 8))]) hx hb dX4_take_85 hl (k := 2) rfl (by rw [ex_85]; rfl) (by decide) rfl (fun ls hl => ?_)
            refine lv_goto (tgt := 37) hx hb dX4_take_88 (by decide) ?_
            exact ih_loop_37 k x_85 (vp_updL ((lc_tk a b lf pn (k + 1))) ((lc_cnt a b (k + 1))) x_74) x_82 (by omega) hk2 (by omega) (lc_dec ex_85) hfn hcn C_82 f11w_c82 f12w_c82 f8w_c82 f9w_c82 f10w_c82 (fun r h1 h2 => by rw [hC_82, va_up_ne _ _ h1, hC_74, va_up_ne _ _ h2, hbase r h1 h2]) _ _ _ hP hS (lv_sub hl [1, 2, 0] rfl)
  exact loop_37 _ 15 15 pn 0 (Nat.lt_succ_self _) (by decide) (by decide) rfl (lc_tk_15 a b lf pn) rfl C_30 f11_c30 f12_c30 f8_c30 f9_c30 f10_c30 (fun r h1 h2 => by rw [hC_30, va_up_ne _ _ h1, hC_25, va_up_ne _ _ h1, hC_16, va_up_ne _ _ h1, hC_7, va_up_ne _ _ h1, hC_2, va_up_ne _ _ h1]) _ _ _ hP hS (lv_sub hl [1, 2, 0] rfl)
set_option maxHeartbeats 4000000 in
set_option maxRecDepth 100000 in
theorem c_X4_topWith (l : Launch) (E : wg_E) (A : Nat → Nat) (C : wg_C) (a b : Nat) (va vb x y : Int64) (pn rk : Nat → Int64) (ha : a < 8) (hb8 : b < 8) (hab : a ≠ b) (f11 : C 11 = some (.inr (4, [.int (nI a), .int (nI b), .long va, .long vb, .ref (A 12), .int (nI (lc_cnt a b 1)), .ref (A 13)]))) (f12 : C 12 = some (.inl (E.2.1 1, 4, .inr (.inl pn)))) (f13 : C 13 = some (.inl (E.2.1 1, 16, .inr (.inl rk)))) : Met l yX4_topWith (wg_ws yX4_topWith cX4_topWith 7 (some .long)) (wg_rm 2 0 0) (wg_Pc E A C [.ref (A 11), .long x, .long y]) (wg_Ql E (fun r A1 C1 => r = lc_top a b x y pn ∧ A = A1 ∧ (∀ q, q ≠ 13 → C1 q = C q) ∧ ∃ rk1 : Nat → Int64, C1 13 = some (.inl (E.2.1 1, 16, .inr (.inl rk1))))) 0 0 (wg_A E) := by
  refine wg_met (by decide) (Nat.le_of_ble_eq_true rfl) ?_
  intro p e s m below meth c ls F hr hlk hnm hP hS hl
  have F : wg_F p m c cX4_topWith 7 s ([.ref (A 11), .long x, .long y] : List Value).toArray "LightChecks$Proof" E := F
  have hx := F.1
  have hb := F.2.1
  have hml := F.2.2.1
  have hown := F.2.2.2.1
  have hts := F.2.2.2.2.1
  have hl : lv_has ls 7 [(0, .ref (A 11)), (1, .long x), (3, .long y)] := hl
  refine lv_iconst (v := 0) hx hb dX4_topWith_0 (by decide) ?_
  refine lv_istore (lv' := [(5, .int 0), (0, .ref (A 11)), (1, .long x), (3, .long y)]) hx hb dX4_topWith_1 hl (by decide) rfl (fun ls hl => ?_)
  refine lv_bipush (v := 15) hx hb dX4_topWith_3 (by decide) ?_
  refine lv_istore (lv' := [(6, .int 15), (5, .int 0), (0, .ref (A 11)), (1, .long x), (3, .long y)]) hx hb dX4_topWith_5 hl (by decide) rfl (fun ls hl => ?_)
  have loop_7 : ∀ (fuel : Nat) (k : Nat) (x5 : Int32) (x6 : Int32) (fi : Nat → Int64), k < fuel → (k < 16) → (x5 = nI (lc_cnt a b k)) → (x6 = nI k) → (∀ j, k < j → j < 16 → (lc_on a b j = true ∨ lc_bs a b j = true) → fi j = lc_tv a b x y pn j) → ∀ (Cw : wg_C) , Cw 11 = some (.inr (4, [.int (nI a), .int (nI b), .long va, .long vb, .ref (A 12), .int (nI (lc_cnt a b 1)), .ref (A 13)])) → Cw 12 = some (.inl (E.2.1 1, 4, .inr (.inl pn))) → Cw 13 = some (.inl (E.2.1 1, 16, .inr (.inl fi))) → (∀ r, r ≠ 13 → Cw r = C r) → ∀ (H : Heap) (locs : List Loc) (ls : Array Slot), wg_P E A Cw H → va_S (wg_A E) s.heap H locs → lv_has ls 7 [(0, .ref (A 11)), (1, .long x), (3, .long y), (5, .int x5), (6, .int x6)] → W p l e (wg_rm 2 0 0) s m ([.ref (A 11), .long x, .long y] : List Value).toArray below meth c H locs 0 0 (MQ below (wg_Ql E (fun r A1 C1 => r = lc_top a b x y pn ∧ A = A1 ∧ (∀ q, q ≠ 13 → C1 q = C q) ∧ ∃ rk1 : Nat → Int64, C1 13 = some (.inl (E.2.1 1, 16, .inr (.inl rk1))))) ([.ref (A 11), .long x, .long y] : List Value).toArray s 0 0 (wg_A E)) (F0 m 7 ls []) := by
    intro fuel
    induction fuel with
    | zero => intro k x5 x6 fi hm; exact absurd hm (Nat.not_lt_zero _)
    | succ fuel ih_loop_7 =>
      intro k x5 x6 fi hm_loop_7 hk ex5 ex6 hfi Cw f11w f12w f13w hbase H locs ls hP hS hl
      subst ex5 ex6
      have hc4 := lc_cnt_le a ha b hb8 hab
      refine lv_iload hx hb dX4_topWith_7 (lv_at hl 4 rfl) ?_
      refine lv_iconst (v := 1) hx hb dX4_topWith_9 (by decide) ?_
      refine lv_icmp_lt (tgt := 126) hx hb dX4_topWith_10 (by decide) (fun c_10 => ?_) (fun c_10 => ?_)
      · have hk0 : k = 0 := by rw [show (1 : Int32) = nI 1 from rfl, nI_ltI (by omega) (by decide)] at c_10; omega
        subst hk0
        refine lv_aload_n hx hb dX4_topWith_126 rfl (lv_at hl 0 rfl) ?_
        refine wg_get F hP f11w rfl iw_X4 6 (by decide) tb_89 rfl rfl dX4_topWith_127 ?_
        refine lv_iconst (v := 1) hx hb dX4_topWith_130 (by decide) ?_
        refine wg_lld F hP f13w (vp_in_nI (n := 1) (by decide) (by decide)) dX4_topWith_131 ?_
        exact wg_lret F hP hS hr hlk (⟨hfi 1 (by decide) (by decide) (Or.inl (lc_on_1 a ha b hb8)), rfl, fun r h2 => by rw [hbase r h2], _, f13w⟩) dX4_topWith_132
      · have hk1 : 1 ≤ k := by rw [show (1 : Int32) = nI 1 from rfl, nI_ltI (by omega) (by decide)] at c_10; omega
        obtain ⟨k, rfl⟩ : ∃ q, k = q + 1 := ⟨k - 1, by omega⟩
        refine lv_aload_n hx hb dX4_topWith_13 rfl (lv_at hl 0 rfl) ?_
        refine lv_iload hx hb dX4_topWith_14 (lv_at hl 4 rfl) ?_
        refine wg_ci hS (wg_rV (As := [.int (nI (k + 1))]) (rest := []) F hP hS (c_X4_isOnWay l E A Cw a b (k + 1) va vb _ ha hb8 (by omega) f11w) ok_X4_isOnWay tb_155 rfl rfl ⟨Nat.le_of_ble_eq_true rfl, Nat.le_of_ble_eq_true rfl⟩ f11w rfl rfl rfl hl.1 rfl (Nat.le_of_ble_eq_true rfl) dX4_topWith_16 ⟨Nat.le_of_ble_eq_true rfl, Nat.le_of_ble_eq_true rfl⟩) (fun r_16 A1 C_16 H locs w_16 hP hS => ?_)
        obtain ⟨w_16, rfl, rfl⟩ := w_16
        refine lv_if_eq (tgt := 85) hx hb dX4_topWith_19 (by decide) (fun c_19 => ?_) (fun c_19 => ?_)
        · have hon : lc_on a b (k + 1) = false := by
            cases q : lc_on a b (k + 1)
            · rfl
            · rw [q] at w_16; exact absurd (w_16.symm.trans c_19) (by decide)
          refine lv_aload_n hx hb dX4_topWith_85 rfl (lv_at hl 0 rfl) ?_
          refine lv_iload hx hb dX4_topWith_86 (lv_at hl 4 rfl) ?_
          refine wg_ci hS (wg_rV (As := [.int (nI (k + 1))]) (rest := []) F hP hS (c_X4_isBeside l E A Cw a b (k + 1) va vb _ ha hb8 hk f11w) ok_X4_isBeside tb_151 rfl rfl ⟨Nat.le_of_ble_eq_true rfl, Nat.le_of_ble_eq_true rfl⟩ f11w rfl rfl rfl hl.1 rfl (Nat.le_of_ble_eq_true rfl) dX4_topWith_88 ⟨Nat.le_of_ble_eq_true rfl, Nat.le_of_ble_eq_true rfl⟩) (fun r_88 A1 C_88 H locs w_88 hP hS => ?_)
          obtain ⟨w_88, rfl, rfl⟩ := w_88
          refine lv_if_eq (tgt := 120) hx hb dX4_topWith_91 (by decide) (fun c_91 => ?_) (fun c_91 => ?_)
          · have hbs : ¬ lc_bs a b (k + 1) = true := fun q => by rw [w_88, if_pos q] at c_91; exact absurd c_91 (by decide)
            have hcn : nI (lc_cnt a b (k + 1)) = nI (lc_cnt a b k) := by rw [lc_cnt_no (by omega) hbs]
            have hfn : ∀ j, k < j → j < 16 → (lc_on a b j = true ∨ lc_bs a b j = true) → fi j = lc_tv a b x y pn j := fun j h1 h2 h3 => hfi j (by rcases (show j = k + 1 ∨ k + 1 < j by omega) with e | e; rw [e] at h3; rcases h3 with h3 | h3; rw [h3] at hon; cases hon; exact absurd h3 hbs; exact e) h2 h3
            obtain ⟨x_120, ex_120⟩ : ∃ y : Int32, y = nI (k + 1) + (-1) := ⟨_, rfl⟩
            refine lv_iinc (v := x_120) (lv' := [(6, .int x_120), (0, .ref (A 11)), (1, .long x), (3, .long y), (5, .int (nI (lc_cnt a b (k + 1))))]) hx hb dX4_topWith_120 hl (k := 4) rfl (by rw [ex_120]; rfl) (by decide) rfl (fun ls hl => ?_)
            refine lv_goto (tgt := 7) hx hb dX4_topWith_123 (by decide) ?_
            exact ih_loop_7 k ((nI (lc_cnt a b (k + 1)))) x_120 fi (by omega) (by omega) hcn (lc_dec ex_120) hfn Cw f11w f12w f13w (fun r h2 => by rw [hbase r h2]) _ _ _ hP hS (lv_sub hl [1, 2, 3, 4, 0] rfl)
          · have hbs : lc_bs a b (k + 1) = true := Decidable.byContradiction (fun q => c_91 (by rw [w_88, if_neg q]))
            have hlt := lc_bs_cnt ha hb8 hab hk hbs
            refine lv_aload_n hx hb dX4_topWith_94 rfl (lv_at hl 0 rfl) ?_
            refine lv_iload hx hb dX4_topWith_95 (lv_at hl 3 rfl) ?_
            refine wg_ci hS (wg_rV (As := [.int (nI (lc_cnt a b (k + 1)))]) (rest := []) F hP hS (c_X4_hasNode l E A Cw a b (lc_cnt a b 1) va vb _ hc4 f11w) ok_X4_hasNode tb_465 rfl rfl ⟨Nat.le_of_ble_eq_true rfl, Nat.le_of_ble_eq_true rfl⟩ f11w rfl rfl rfl hl.1 rfl (Nat.le_of_ble_eq_true rfl) dX4_topWith_97 ⟨Nat.le_of_ble_eq_true rfl, Nat.le_of_ble_eq_true rfl⟩) (fun r_97 A1 C_97 H locs w_97 hP hS => ?_)
            obtain ⟨w_97, rfl, rfl⟩ := w_97
            refine lv_if_eq (tgt := 120) hx hb dX4_topWith_100 (by decide) (fun c_100 => ?_) (fun c_100 => ?_)
            · exact absurd c_100 (by rw [w_97, nI_toInt (by omega), if_pos (by omega)]; decide)
            · refine lv_aload_n hx hb dX4_topWith_103 rfl (lv_at hl 0 rfl) ?_
              refine wg_get F hP f11w rfl iw_X4 6 (by decide) tb_89 rfl rfl dX4_topWith_104 ?_
              refine lv_iload hx hb dX4_topWith_107 (lv_at hl 4 rfl) ?_
              refine lv_aload_n hx hb dX4_topWith_109 rfl (lv_at hl 0 rfl) ?_
              refine wg_get F hP f11w rfl iw_X4 4 (by decide) tb_86 rfl rfl dX4_topWith_110 ?_
              refine lv_iload hx hb dX4_topWith_113 (lv_at hl 3 rfl) ?_
              refine wg_lld F hP f12w (vp_in_nI (by omega) (by decide)) dX4_topWith_115 ?_
              refine wg_topl (y := lc_tv a b x y pn (k + 1)) (by rw [nI_clamp (by omega)]; exact (lc_tv_bs hon).symm) ?_
              refine lv_topl (fun x_116 ex_116 => ?_)
              refine wg_lst F hP hS f13w (vp_in_nI (by omega) (by decide)) dX4_topWith_116 (fun H locs hP hS => ?_)
              obtain ⟨C_116, hC_116⟩ : ∃ z : wg_C, z = va_up Cw 13 (some (.inl (E.2.1 1, 16, .inr (.inl (vp_updL fi (nI (k + 1)).toNatClampNeg x_116))))) := ⟨_, rfl⟩
              have hP : wg_P E A C_116 H := by rw [hC_116]; exact hP
              have f11w_c116 : C_116 11 = some (.inr (4, [.int (nI a), .int (nI b), .long va, .long vb, .ref (A 12), .int (nI (lc_cnt a b 1)), .ref (A 13)])) := by rw [hC_116]; rw [va_up_ne _ _ (by decide)]; exact f11w
              have f12w_c116 : C_116 12 = some (.inl (E.2.1 1, 4, .inr (.inl pn))) := by rw [hC_116]; rw [va_up_ne _ _ (by decide)]; exact f12w
              have f13w_c116 : C_116 13 = some (.inl (E.2.1 1, 16, .inr (.inl (vp_updL fi (nI (k + 1)).toNatClampNeg x_116)))) := by rw [hC_116]; exact va_up_self _ _ _
              have f13w_c116n : C_116 13 = some (.inl (E.2.1 1, 16, .inr (.inl (vp_updL fi ((k + 1)) x_116)))) := by rw [f13w_c116, nI_clamp (by omega)]
              have hfn : ∀ j, k < j → j < 16 → (lc_on a b j = true ∨ lc_bs a b j = true) → (vp_updL fi ((k + 1)) x_116) j = lc_tv a b x y pn j := fun j h1 h2 h3 => by
                by_cases e : j = k + 1
                · rw [e, pk_uLs]; exact ex_116
                · rw [pk_uLn e]; exact hfi j (by omega) h2 h3
              obtain ⟨x_117, ex_117⟩ : ∃ y : Int32, y = nI (lc_cnt a b (k + 1)) + 1 := ⟨_, rfl⟩
              refine lv_iinc (v := x_117) (lv' := [(5, .int x_117), (0, .ref (A 11)), (1, .long x), (3, .long y), (6, .int (nI (k + 1)))]) hx hb dX4_topWith_117 hl (k := 3) rfl (by rw [ex_117]; rfl) (by decide) rfl (fun ls hl => ?_)
              have hcn : x_117 = nI (lc_cnt a b k) := by rw [ex_117, nI_1, lc_cnt_yes (by omega) hbs]
              obtain ⟨x_120, ex_120⟩ : ∃ y : Int32, y = nI (k + 1) + (-1) := ⟨_, rfl⟩
              refine lv_iinc (v := x_120) (lv' := [(6, .int x_120), (5, .int x_117), (0, .ref (A 11)), (1, .long x), (3, .long y)]) hx hb dX4_topWith_120 hl (k := 4) rfl (by rw [ex_120]; rfl) (by decide) rfl (fun ls hl => ?_)
              refine lv_goto (tgt := 7) hx hb dX4_topWith_123 (by decide) ?_
              exact ih_loop_7 k x_117 x_120 (vp_updL fi ((k + 1)) x_116) (by omega) (by omega) hcn (lc_dec ex_120) hfn C_116 f11w_c116 f12w_c116 f13w_c116n (fun r h2 => by rw [hC_116, va_up_ne _ _ h2, hbase r h2]) _ _ _ hP hS (lv_sub hl [2, 3, 4, 1, 0] rfl)
        · have hon : lc_on a b (k + 1) = true := Decidable.byContradiction (fun q => c_19 (by rw [w_16, if_neg q]))
          have hbs : ¬ lc_bs a b (k + 1) = true := fun q => by rw [lc_bs_off q] at hon; cases hon
          have hcn : nI (lc_cnt a b (k + 1)) = nI (lc_cnt a b k) := by rw [lc_cnt_no (by omega) hbs]
          refine lv_aload_n hx hb dX4_topWith_22 rfl (lv_at hl 0 rfl) ?_
          refine wg_get F hP f11w rfl iw_X4 6 (by decide) tb_89 rfl rfl dX4_topWith_23 ?_
          refine lv_iload hx hb dX4_topWith_26 (lv_at hl 4 rfl) ?_
          refine lv_iload hx hb dX4_topWith_28 (lv_at hl 4 rfl) ?_
          refine lv_bipush (v := 8) hx hb dX4_topWith_30 (by decide) ?_
          refine lv_icmp_lt (tgt := 58) hx hb dX4_topWith_32 (by decide) (fun c_32 => ?_) (fun c_32 => ?_)
          · have hk8 : k + 1 < 8 := by rw [show (8 : Int32) = nI 8 from rfl, nI_ltI (by omega) (by decide)] at c_32; exact c_32
            have kids := lc_on_kids ha hb8 hk8 (by omega) hon
            have e2 : (2 : Int32) * nI (k + 1) = nI (2 * (k + 1)) := by rw [show (2 : Int32) = nI 2 from rfl, pk_mul]
            have e3 : nI (2 * (k + 1)) + 1 = nI (2 * (k + 1) + 1) := nI_1 _
            refine lv_aload_n hx hb dX4_topWith_58 rfl (lv_at hl 0 rfl) ?_
            refine wg_get F hP f11w rfl iw_X4 6 (by decide) tb_89 rfl rfl dX4_topWith_59 ?_
            refine lv_iconst (v := 2) hx hb dX4_topWith_62 (by decide) ?_
            refine lv_iload hx hb dX4_topWith_63 (lv_at hl 4 rfl) ?_
            refine lv_imul hx hb dX4_topWith_65 ?_
            refine wg_lld F hP f13w (by rw [e2]; exact vp_in_nI (by omega) (by decide)) dX4_topWith_66 ?_
            refine wg_topl (y := lc_tv a b x y pn (2 * (k + 1))) (by rw [e2, nI_clamp (by omega)]; exact hfi _ (by omega) (by omega) kids.1) ?_
            refine lv_aload_n hx hb dX4_topWith_67 rfl (lv_at hl 0 rfl) ?_
            refine wg_get F hP f11w rfl iw_X4 6 (by decide) tb_89 rfl rfl dX4_topWith_68 ?_
            refine lv_iconst (v := 2) hx hb dX4_topWith_71 (by decide) ?_
            refine lv_iload hx hb dX4_topWith_72 (lv_at hl 4 rfl) ?_
            refine lv_imul hx hb dX4_topWith_74 ?_
            refine lv_iconst (v := 1) hx hb dX4_topWith_75 (by decide) ?_
            refine lv_iadd hx hb dX4_topWith_76 ?_
            refine wg_lld F hP f13w (by rw [e2, e3]; exact vp_in_nI (by omega) (by decide)) dX4_topWith_77 ?_
            refine wg_topl (y := lc_tv a b x y pn (2 * (k + 1) + 1)) (by rw [e2, e3, nI_clamp (by omega)]; exact hfi _ (by omega) (by omega) kids.2) ?_
            refine wg_cl_ hS (wg_rSN (As := [.long (lc_tv a b x y pn (2 * (k + 1))), .long (lc_tv a b x y pn (2 * (k + 1) + 1))]) (rest := [.int (nI (k + 1)), .ref (A 13)]) F hP hS (c_X7_pair l E A Cw _ _) ok_X7_pair nb_490 rfl rfl ⟨Nat.le_of_ble_eq_true rfl, Nat.le_of_ble_eq_true rfl⟩ rfl hl.1 rfl (Nat.le_of_ble_eq_true rfl) dX4_topWith_78 ⟨Nat.le_of_ble_eq_true rfl, Nat.le_of_ble_eq_true rfl⟩) (fun r_78 A1 C_78 H locs w_78 hP hS => ?_)
            obtain ⟨w_78, rfl, rfl⟩ := w_78
            refine wg_topl (y := lc_tv a b x y pn (k + 1)) (w_78.trans (lc_tv_lo hon (by omega) hk8).symm) ?_
            refine lv_topl (fun x_81 ex_81 => ?_)
            refine wg_lst F hP hS f13w (vp_in_nI (by omega) (by decide)) dX4_topWith_81 (fun H locs hP hS => ?_)
            obtain ⟨C_81, hC_81⟩ : ∃ z : wg_C, z = va_up Cw 13 (some (.inl (E.2.1 1, 16, .inr (.inl (vp_updL fi (nI (k + 1)).toNatClampNeg x_81))))) := ⟨_, rfl⟩
            have hP : wg_P E A C_81 H := by rw [hC_81]; exact hP
            have f11w_c81 : C_81 11 = some (.inr (4, [.int (nI a), .int (nI b), .long va, .long vb, .ref (A 12), .int (nI (lc_cnt a b 1)), .ref (A 13)])) := by rw [hC_81]; rw [va_up_ne _ _ (by decide)]; exact f11w
            have f12w_c81 : C_81 12 = some (.inl (E.2.1 1, 4, .inr (.inl pn))) := by rw [hC_81]; rw [va_up_ne _ _ (by decide)]; exact f12w
            have f13w_c81 : C_81 13 = some (.inl (E.2.1 1, 16, .inr (.inl (vp_updL fi (nI (k + 1)).toNatClampNeg x_81)))) := by rw [hC_81]; exact va_up_self _ _ _
            have f13w_c81n : C_81 13 = some (.inl (E.2.1 1, 16, .inr (.inl (vp_updL fi ((k + 1)) x_81)))) := by rw [f13w_c81, nI_clamp (by omega)]
            have hfn : ∀ j, k < j → j < 16 → (lc_on a b j = true ∨ lc_bs a b j = true) → (vp_updL fi ((k + 1)) x_81) j = lc_tv a b x y pn j := fun j h1 h2 h3 => by
              by_cases e : j = k + 1
              · rw [e, pk_uLs]; exact ex_81
              · rw [pk_uLn e]; exact hfi j (by omega) h2 h3
            refine lv_goto (tgt := 120) hx hb dX4_topWith_82 (by decide) ?_
            obtain ⟨x_120, ex_120⟩ : ∃ y : Int32, y = nI (k + 1) + (-1) := ⟨_, rfl⟩
            refine lv_iinc (v := x_120) (lv' := [(6, .int x_120), (0, .ref (A 11)), (1, .long x), (3, .long y), (5, .int (nI (lc_cnt a b (k + 1))))]) hx hb dX4_topWith_120 hl (k := 4) rfl (by rw [ex_120]; rfl) (by decide) rfl (fun ls hl => ?_)
            refine lv_goto (tgt := 7) hx hb dX4_topWith_123 (by decide) ?_
            exact ih_loop_7 k ((nI (lc_cnt a b (k + 1)))) x_120 (vp_updL fi ((k + 1)) x_81) (by omega) (by omega) hcn (lc_dec ex_120) hfn C_81 f11w_c81 f12w_c81 f13w_c81n (fun r h2 => by rw [hC_81, va_up_ne _ _ h2, hbase r h2]) _ _ _ hP hS (lv_sub hl [1, 2, 3, 4, 0] rfl)
          · have hk8 : 8 ≤ k + 1 := by rw [show (8 : Int32) = nI 8 from rfl, nI_ltI (by omega) (by decide)] at c_32; omega
            refine lv_iload hx hb dX4_topWith_35 (lv_at hl 4 rfl) ?_
            refine lv_bipush (v := 8) hx hb dX4_topWith_37 (by decide) ?_
            refine lv_aload_n hx hb dX4_topWith_39 rfl (lv_at hl 0 rfl) ?_
            refine wg_get F hP f11w rfl iw_X4 0 (by decide) tb_82 rfl rfl dX4_topWith_40 ?_
            refine lv_iadd hx hb dX4_topWith_43 ?_
            refine lv_icmp_ne (tgt := 51) hx hb dX4_topWith_44 (by decide) (fun c_44 => ?_) (fun c_44 => ?_)
            · have hka : ¬ k + 1 = 8 + a := by rw [show (8 : Int32) = nI 8 from rfl, nI_add, nI_eq (by omega) (by omega)] at c_44; exact c_44
              refine lv_lload_n hx hb dX4_topWith_51 rfl (lv_at hl 2 rfl) ?_
              refine wg_cl_ hS (wg_rSN (As := [.long y]) (rest := [.int (nI (k + 1)), .ref (A 13)]) F hP hS (c_X7_mix l E A Cw _) ok_X7_mix nb_489 rfl rfl ⟨Nat.le_of_ble_eq_true rfl, Nat.le_of_ble_eq_true rfl⟩ rfl hl.1 rfl (Nat.le_of_ble_eq_true rfl) dX4_topWith_52 ⟨Nat.le_of_ble_eq_true rfl, Nat.le_of_ble_eq_true rfl⟩) (fun r_52 A1 C_52 H locs w_52 hP hS => ?_)
              obtain ⟨w_52, rfl, rfl⟩ := w_52
              refine wg_topl (y := lc_tv a b x y pn (k + 1)) (w_52.trans (by rw [lc_tv_hi hon hk8]; first | rw [if_pos hka] | rw [if_neg hka])) ?_
              refine lv_goto (tgt := 81) hx hb dX4_topWith_55 (by decide) ?_
              refine lv_topl (fun x_81 ex_81 => ?_)
              refine wg_lst F hP hS f13w (vp_in_nI (by omega) (by decide)) dX4_topWith_81 (fun H locs hP hS => ?_)
              obtain ⟨C_81, hC_81⟩ : ∃ z : wg_C, z = va_up Cw 13 (some (.inl (E.2.1 1, 16, .inr (.inl (vp_updL fi (nI (k + 1)).toNatClampNeg x_81))))) := ⟨_, rfl⟩
              have hP : wg_P E A C_81 H := by rw [hC_81]; exact hP
              have f11w_c81 : C_81 11 = some (.inr (4, [.int (nI a), .int (nI b), .long va, .long vb, .ref (A 12), .int (nI (lc_cnt a b 1)), .ref (A 13)])) := by rw [hC_81]; rw [va_up_ne _ _ (by decide)]; exact f11w
              have f12w_c81 : C_81 12 = some (.inl (E.2.1 1, 4, .inr (.inl pn))) := by rw [hC_81]; rw [va_up_ne _ _ (by decide)]; exact f12w
              have f13w_c81 : C_81 13 = some (.inl (E.2.1 1, 16, .inr (.inl (vp_updL fi (nI (k + 1)).toNatClampNeg x_81)))) := by rw [hC_81]; exact va_up_self _ _ _
              have f13w_c81n : C_81 13 = some (.inl (E.2.1 1, 16, .inr (.inl (vp_updL fi ((k + 1)) x_81)))) := by rw [f13w_c81, nI_clamp (by omega)]
              have hfn : ∀ j, k < j → j < 16 → (lc_on a b j = true ∨ lc_bs a b j = true) → (vp_updL fi ((k + 1)) x_81) j = lc_tv a b x y pn j := fun j h1 h2 h3 => by
                by_cases e : j = k + 1
                · rw [e, pk_uLs]; exact ex_81
                · rw [pk_uLn e]; exact hfi j (by omega) h2 h3
              refine lv_goto (tgt := 120) hx hb dX4_topWith_82 (by decide) ?_
              obtain ⟨x_120, ex_120⟩ : ∃ y : Int32, y = nI (k + 1) + (-1) := ⟨_, rfl⟩
              refine lv_iinc (v := x_120) (lv' := [(6, .int x_120), (0, .ref (A 11)), (1, .long x), (3, .long y), (5, .int (nI (lc_cnt a b (k + 1))))]) hx hb dX4_topWith_120 hl (k := 4) rfl (by rw [ex_120]; rfl) (by decide) rfl (fun ls hl => ?_)
              refine lv_goto (tgt := 7) hx hb dX4_topWith_123 (by decide) ?_
              exact ih_loop_7 k ((nI (lc_cnt a b (k + 1)))) x_120 (vp_updL fi ((k + 1)) x_81) (by omega) (by omega) hcn (lc_dec ex_120) hfn C_81 f11w_c81 f12w_c81 f13w_c81n (fun r h2 => by rw [hC_81, va_up_ne _ _ h2, hbase r h2]) _ _ _ hP hS (lv_sub hl [1, 2, 3, 4, 0] rfl)
            · have hka : k + 1 = 8 + a := by rw [show (8 : Int32) = nI 8 from rfl, nI_add, nI_eq (by omega) (by omega)] at c_44; exact c_44
              refine lv_lload_n hx hb dX4_topWith_47 rfl (lv_at hl 1 rfl) ?_
              refine lv_goto (tgt := 52) hx hb dX4_topWith_48 (by decide) ?_
              refine wg_cl_ hS (wg_rSN (As := [.long x]) (rest := [.int (nI (k + 1)), .ref (A 13)]) F hP hS (c_X7_mix l E A Cw _) ok_X7_mix nb_489 rfl rfl ⟨Nat.le_of_ble_eq_true rfl, Nat.le_of_ble_eq_true rfl⟩ rfl hl.1 rfl (Nat.le_of_ble_eq_true rfl) dX4_topWith_52 ⟨Nat.le_of_ble_eq_true rfl, Nat.le_of_ble_eq_true rfl⟩) (fun r_52 A1 C_52 H locs w_52 hP hS => ?_)
              obtain ⟨w_52, rfl, rfl⟩ := w_52
              refine wg_topl (y := lc_tv a b x y pn (k + 1)) (w_52.trans (by rw [lc_tv_hi hon hk8]; first | rw [if_pos hka] | rw [if_neg hka])) ?_
              refine lv_goto (tgt := 81) hx hb dX4_topWith_55 (by decide) ?_
              refine lv_topl (fun x_81 ex_81 => ?_)
              refine wg_lst F hP hS f13w (vp_in_nI (by omega) (by decide)) dX4_topWith_81 (fun H locs hP hS => ?_)
              obtain ⟨C_81, hC_81⟩ : ∃ z : wg_C, z = va_up Cw 13 (some (.inl (E.2.1 1, 16, .inr (.inl (vp_updL fi (nI (k + 1)).toNatClampNeg x_81))))) := ⟨_, rfl⟩
              have hP : wg_P E A C_81 H := by rw [hC_81]; exact hP
              have f11w_c81 : C_81 11 = some (.inr (4, [.int (nI a), .int (nI b), .long va, .long vb, .ref (A 12), .int (nI (lc_cnt a b 1)), .ref (A 13)])) := by rw [hC_81]; rw [va_up_ne _ _ (by decide)]; exact f11w
              have f12w_c81 : C_81 12 = some (.inl (E.2.1 1, 4, .inr (.inl pn))) := by rw [hC_81]; rw [va_up_ne _ _ (by decide)]; exact f12w
              have f13w_c81 : C_81 13 = some (.inl (E.2.1 1, 16, .inr (.inl (vp_updL fi (nI (k + 1)).toNatClampNeg x_81)))) := by rw [hC_81]; exact va_up_self _ _ _
              have f13w_c81n : C_81 13 = some (.inl (E.2.1 1, 16, .inr (.inl (vp_updL fi ((k + 1)) x_81)))) := by rw [f13w_c81, nI_clamp (by omega)]
              have hfn : ∀ j, k < j → j < 16 → (lc_on a b j = true ∨ lc_bs a b j = true) → (vp_updL fi ((k + 1)) x_81) j = lc_tv a b x y pn j := fun j h1 h2 h3 => by
                by_cases e : j = k + 1
                · rw [e, pk_uLs]; exact ex_81
                · rw [pk_uLn e]; exact hfi j (by omega) h2 h3
              refine lv_goto (tgt := 120) hx hb dX4_topWith_82 (by decide) ?_
              obtain ⟨x_120, ex_120⟩ : ∃ y : Int32, y = nI (k + 1) + (-1) := ⟨_, rfl⟩
              refine lv_iinc (v := x_120) (lv' := [(6, .int x_120), (0, .ref (A 11)), (1, .long x), (3, .long y), (5, .int (nI (lc_cnt a b (k + 1))))]) hx hb dX4_topWith_120 hl (k := 4) rfl (by rw [ex_120]; rfl) (by decide) rfl (fun ls hl => ?_)
              refine lv_goto (tgt := 7) hx hb dX4_topWith_123 (by decide) ?_
              exact ih_loop_7 k ((nI (lc_cnt a b (k + 1)))) x_120 (vp_updL fi ((k + 1)) x_81) (by omega) (by omega) hcn (lc_dec ex_120) hfn C_81 f11w_c81 f12w_c81 f13w_c81n (fun r h2 => by rw [hC_81, va_up_ne _ _ h2, hbase r h2]) _ _ _ hP hS (lv_sub hl [1, 2, 3, 4, 0] rfl)
  exact loop_7 _ 15 0 15 rk (Nat.lt_succ_self _) (by decide) rfl rfl (fun j h1 h2 => absurd h1 (by omega)) C f11 f12 f13 (fun r h2 => rfl) _ _ _ hP hS (lv_sub hl [2, 3, 4, 1, 0] rfl)
