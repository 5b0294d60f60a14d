set_option maxHeartbeats 4000000 in
set_option maxRecDepth 100000 in
theorem c_X1_placeOf (l : Launch) (E : wg_E) (A : Nat → Nat) (C : wg_C) (i n : Nat) (f : Nat → Option Nat) (g : Nat → Nat) (B : lc_B) (x : Nat) (hn : n ≤ 60) (hf : ∀ j, j < n → f j = some (A (200 + g j))) (hg : ∀ j, j < n → g j < lc_nh B) (hDB : lc_DB A C B) (hx31 : x < 2 ^ 31) (f32i : C (32 + i) = some (.inr (1, [.ref (A (36 + i))]))) (f36i : C (36 + i) = some (.inr (3, [.ref (A (40 + i)), .int (nI n)]))) (f40i : C (40 + i) = some (.inl (E.2.1 4, 60, .inr (.inr (.inr (.inr f)))))) : Met l yX1_placeOf (wg_ws yX1_placeOf cX1_placeOf 4 (some .int)) (wg_rm 1 0 0) (wg_Pc E A C [.ref (A (32 + i)), .int (nI x)]) (wg_Qi E (fun r A1 C1 => r = lc_I (lc_pl (fun k => lc_hh B (g k)) x n) ∧ A = A1 ∧ C = C1)) 0 0 (wg_A E) := by
  refine wg_met (by decide) (Nat.le_of_ble_eq_true rfl) ?_
  intro p e s m below meth c ls F hr hlk hnm hP hS hl
  have F : wg_F p m c cX1_placeOf 4 s ([.ref (A (32 + i)), .int (nI x)] : List Value).toArray "LightChecks$Giver" E := F
  have hx := F.1
  have hb := F.2.1
  have hml := F.2.2.1
  have hown := F.2.2.2.1
  have hts := F.2.2.2.2.1
  have hl : lv_has ls 4 [(0, .ref (A (32 + i))), (1, .int (nI x))] := hl
  refine lv_iconst (v := 0) hx hb dX1_placeOf_0 (by decide) ?_
  refine lv_istore_n (lv' := [(2, .int 0), (0, .ref (A (32 + i))), (1, .int (nI x))]) hx hb dX1_placeOf_1 rfl hl (by decide) rfl (fun ls hl => ?_)
  have loop_2 : ∀ (fuel : Nat) (j : Nat) (x2 : Int32), n - j < fuel → (j ≤ n) → (x2 = nI j) → (∀ k, k < j → lc_hh B (g k) ≠ x) → ∀ (H : Heap) (locs : List Loc) (ls : Array Slot), wg_P E A C H → va_S (wg_A E) s.heap H locs → lv_has ls 4 [(0, .ref (A (32 + i))), (1, .int (nI x)), (2, .int x2)] → W p l e (wg_rm 1 0 0) s m ([.ref (A (32 + i)), .int (nI x)] : List Value).toArray below meth c H locs 0 0 (MQ below (wg_Qi E (fun r A1 C1 => r = lc_I (lc_pl (fun k => lc_hh B (g k)) x n) ∧ A = A1 ∧ C = C1)) ([.ref (A (32 + i)), .int (nI x)] : List Value).toArray s 0 0 (wg_A E)) (F0 m 2 ls []) := by
    intro fuel
    induction fuel with
    | zero => intro j x2 hm; exact absurd hm (Nat.not_lt_zero _)
    | succ fuel ih_loop_2 =>
      intro j x2 hm_loop_2 hj ex2 hno H locs ls hP hS hl
      subst ex2
      refine lv_iload_n hx hb dX1_placeOf_2 rfl (lv_at hl 2 rfl) ?_
      refine lv_aload_n hx hb dX1_placeOf_3 rfl (lv_at hl 0 rfl) ?_
      refine wg_get F hP f32i rfl iw_X1 0 (by decide) tb_136 rfl rfl dX1_placeOf_4 ?_
      refine wg_getN F hP f36i rfl iw_X3 1 (by decide) nb_34 rfl rfl dX1_placeOf_7 ?_
      refine lv_icmp_ge (tgt := 42) hx hb dX1_placeOf_10 (by decide) (fun c_10 => ?_) (fun c_10 => ?_)
      · rw [nI_leI (by omega) (by omega)] at c_10
        have hjn : j = n := by omega
        refine lv_bipush (v := (-2)) hx hb dX1_placeOf_42 (by decide) ?_
        exact wg_iret F hP hS hr hlk (⟨by rw [← hjn, lc_pl_none hno]; rfl, rfl, rfl⟩) dX1_placeOf_44
      · rw [nI_leI (by omega) (by omega)] at c_10
        have hjn : j < n := by omega
        refine lv_aload_n hx hb dX1_placeOf_13 rfl (lv_at hl 0 rfl) ?_
        refine wg_get F hP f32i rfl iw_X1 0 (by decide) tb_136 rfl rfl dX1_placeOf_14 ?_
        refine lv_iload_n hx hb dX1_placeOf_17 rfl (lv_at hl 2 rfl) ?_
        refine wg_cq hS (wg_rVN (As := [.int (nI j)]) (rest := []) F hP hS (c_X3_at l E A C (36 + i) (40 + i) 60 n f (nI j) hn (by decide) f36i f40i) ok_X3_at nb_395 rfl rfl ⟨Nat.le_of_ble_eq_true rfl, Nat.le_of_ble_eq_true rfl⟩ f36i rfl rfl rfl hl.1 rfl (Nat.le_of_ble_eq_true rfl) dX1_placeOf_18 ⟨Nat.le_of_ble_eq_true rfl, Nat.le_of_ble_eq_true rfl⟩) (fun r_18 A1 C_18 H locs w_18 hP hS => ?_)
        obtain ⟨w_18, rfl, rfl⟩ := w_18
        refine wg_some (w_18.trans ((lc_at_in hjn (by omega)).trans (hf j hjn))) ?_
        have fh_g : C (200 + g j) = some (.inr (2, [.int (nI (g j)), .int (nI (lc_hh B (g j))), .long (lc_hp B (g j)), .ref (A (100 + lc_ho B (g j))), .ref (A (100 + lc_hx B (g j))), .long (lc_hr B (g j)), .long (lc_dig B (g j)), .int (nI (lc_sg B (g j)))])) := hDB.2.1 _ (hg j hjn)
        have hq := (hDB.2.2.2.2.2 _ (hg j hjn)).1
        refine lv_astore_n (lv' := [(3, .ref (A (200 + g j))), (0, .ref (A (32 + i))), (1, .int (nI x)), (2, .int (nI j))]) hx hb dX1_placeOf_21 rfl hl (by decide) rfl (fun ls hl => ?_)
        refine lv_aload_n hx hb dX1_placeOf_22 rfl (lv_at hl 0 rfl) ?_
        refine lv_ifnull hx hb dX1_placeOf_23 ?_
        refine lv_aload_n hx hb dX1_placeOf_26 rfl (lv_at hl 0 rfl) ?_
        refine wg_getN F hP fh_g rfl iw_X2 1 (by decide) nb_249 rfl rfl dX1_placeOf_27 ?_
        refine lv_iload_n hx hb dX1_placeOf_30 rfl (lv_at hl 2 rfl) ?_
        refine lv_icmp_ne (tgt := 36) hx hb dX1_placeOf_31 (by decide) (fun c_31 => ?_) (fun c_31 => ?_)
        · have hne : lc_hh B (g j) ≠ x := by rw [nI_eq (by omega) hx31] at c_31; exact c_31
          obtain ⟨x_36, ex_36⟩ : ∃ y : Int32, y = nI j + 1 := ⟨_, rfl⟩
          refine lv_iinc (v := x_36) (lv' := [(2, .int x_36), (3, .ref (A (200 + g j))), (0, .ref (A (32 + i))), (1, .int (nI x))]) hx hb dX1_placeOf_36 hl (k := 3) rfl (by rw [ex_36]; rfl) (by decide) rfl (fun ls hl => ?_)
          refine lv_goto (tgt := 2) hx hb dX1_placeOf_39 (by decide) ?_
          exact ih_loop_2 (j + 1) x_36 (by omega) (by omega) (by rw [ex_36, nI_1]) (fun k hk => by rcases (show k < j ∨ k = j by omega) with h | h; exact hno k h; rw [h]; exact hne) _ _ _ hP hS (lv_sub hl [2, 3, 0] rfl)
        · have hqe : lc_hh B (g j) = x := by rw [nI_eq (by omega) hx31] at c_31; exact c_31
          refine lv_iload_n hx hb dX1_placeOf_34 rfl (lv_at hl 3 rfl) ?_
          exact wg_iret F hP hS hr hlk (⟨by rw [lc_pl_some (i := j) hqe hno hjn]; rfl, rfl, rfl⟩) dX1_placeOf_35
  exact loop_2 _ 0 0 (Nat.lt_succ_self _) (by omega) rfl (fun k hk => absurd hk (Nat.not_lt_zero _)) _ _ _ hP hS (lv_sub hl [1, 2, 0] rfl)
set_option maxHeartbeats 4000000 in
set_option maxRecDepth 100000 in
theorem c_X1_headAt (l : Launch) (E : wg_E) (A : Nat → Nat) (C : wg_C) (i n : Nat) (f : Nat → Option Nat) (g : Nat → Nat) (B : lc_B) (x : Nat) (hn : n ≤ 60) (hf : ∀ j, j < n → f j = some (A (200 + g j))) (hg : ∀ j, j < n → g j < lc_nh B) (hDB : lc_DB A C B) (hx31 : x < 2 ^ 31) (f32i : C (32 + i) = some (.inr (1, [.ref (A (36 + i))]))) (f36i : C (36 + i) = some (.inr (3, [.ref (A (40 + i)), .int (nI n)]))) (f40i : C (40 + i) = some (.inl (E.2.1 4, 60, .inr (.inr (.inr (.inr f)))))) : Met l yX1_headAt (wg_ws yX1_headAt cX1_headAt 2 (some (.object "LightChecks$Head"))) (wg_rm 2 0 0) (wg_Pc E A C [.ref (A (32 + i)), .int (nI x)]) (wg_Qq E (fun r A1 C1 => r = (lc_pl (fun k => lc_hh B (g k)) x n).map (fun k => A (200 + g k)) ∧ A = A1 ∧ C = C1)) 0 0 (wg_A E) := by
  refine wg_met (by decide) (Nat.le_of_ble_eq_true rfl) ?_
  intro p e s m below meth c ls F hr hlk hnm hP hS hl
  have F : wg_F p m c cX1_headAt 2 s ([.ref (A (32 + i)), .int (nI x)] : List Value).toArray "LightChecks$Giver" E := F
  have hx := F.1
  have hb := F.2.1
  have hml := F.2.2.1
  have hown := F.2.2.2.1
  have hts := F.2.2.2.2.1
  have hl : lv_has ls 2 [(0, .ref (A (32 + i))), (1, .int (nI x))] := hl
  refine lv_aload_n hx hb dX1_headAt_0 rfl (lv_at hl 0 rfl) ?_
  refine wg_get F hP f32i rfl iw_X1 0 (by decide) tb_136 rfl rfl dX1_headAt_1 ?_
  refine lv_aload_n hx hb dX1_headAt_4 rfl (lv_at hl 0 rfl) ?_
  refine lv_iload_n hx hb dX1_headAt_5 rfl (lv_at hl 1 rfl) ?_
  refine wg_ci hS (wg_rV (As := [.int (nI x)]) (rest := [.ref (A (36 + i))]) F hP hS (c_X1_placeOf l E A C i n f g B x hn hf hg hDB hx31 f32i f36i f40i) ok_X1_placeOf tb_391 rfl rfl ⟨Nat.le_of_ble_eq_true rfl, Nat.le_of_ble_eq_true rfl⟩ f32i rfl rfl rfl hl.1 rfl (Nat.le_of_ble_eq_true rfl) dX1_headAt_6 ⟨Nat.le_of_ble_eq_true rfl, Nat.le_of_ble_eq_true rfl⟩) (fun r_6 A1 C_6 H locs w_6 hP hS => ?_)
  obtain ⟨w_6, rfl, rfl⟩ := w_6
  refine wg_cq hS (wg_rVN (As := [.int r_6]) (rest := []) F hP hS (c_X3_at l E A C (36 + i) (40 + i) 60 n f _ hn (by decide) f36i f40i) ok_X3_at nb_395 rfl rfl ⟨Nat.le_of_ble_eq_true rfl, Nat.le_of_ble_eq_true rfl⟩ f36i rfl rfl rfl hl.1 rfl (Nat.le_of_ble_eq_true rfl) dX1_headAt_9 ⟨Nat.le_of_ble_eq_true rfl, Nat.le_of_ble_eq_true rfl⟩) (fun r_9 A1 C_9 H locs w_9 hP hS => ?_)
  obtain ⟨w_9, rfl, rfl⟩ := w_9
  exact wg_qret (v := r_9) F hP hS hr ⟨_, rfl⟩ hlk (⟨by rw [w_9, w_6]; exact lc_headAt hn hf, rfl, rfl⟩) dX1_headAt_12
set_option maxHeartbeats 4000000 in
set_option maxRecDepth 100000 in
theorem c_X1_isUnlike (l : Launch) (E : wg_E) (A : Nat → Nat) (C : wg_C) (i n : Nat) (f : Nat → Option Nat) (g : Nat → Nat) (B : lc_B) (h : Nat) (hn : n ≤ 60) (hf : ∀ j, j < n → f j = some (A (200 + g j))) (hg : ∀ j, j < n → g j < lc_nh B) (hDB : lc_DB A C B) (hh : h < lc_nh B) (f32i : C (32 + i) = some (.inr (1, [.ref (A (36 + i))]))) (f36i : C (36 + i) = some (.inr (3, [.ref (A (40 + i)), .int (nI n)]))) (f40i : C (40 + i) = some (.inl (E.2.1 4, 60, .inr (.inr (.inr (.inr f)))))) : Met l yX1_isUnlike (wg_ws yX1_isUnlike cX1_isUnlike 3 (some .boolean)) (wg_rm 3 0 0) (wg_Pc E A C [.ref (A (200 + h)), .ref (A (32 + i))]) (wg_Qi E (fun r A1 C1 => r = (if lc_unl B n g h = true then 1 else 0) ∧ A = A1 ∧ C = C1)) 0 0 (wg_A E) := by
  refine wg_met (by decide) (Nat.le_of_ble_eq_true rfl) ?_
  intro p e s m below meth c ls F hr hlk hnm hP hS hl
  have F : wg_F p m c cX1_isUnlike 3 s ([.ref (A (200 + h)), .ref (A (32 + i))] : List Value).toArray "LightChecks$Giver" E := F
  have hx := F.1
  have hb := F.2.1
  have hml := F.2.2.1
  have hown := F.2.2.2.1
  have hts := F.2.2.2.2.1
  have hl : lv_has ls 3 [(0, .ref (A (200 + h))), (1, .ref (A (32 + i)))] := hl
  have fh_h : C (200 + h) = some (.inr (2, [.int (nI h), .int (nI (lc_hh B h)), .long (lc_hp B h), .ref (A (100 + lc_ho B h)), .ref (A (100 + lc_hx B h)), .long (lc_hr B h), .long (lc_dig B h), .int (nI (lc_sg B h))])) := hDB.2.1 h hh
  obtain ⟨hq1_h, hq2_h, hq3_h, hq4_h⟩ := hDB.2.2.2.2.2 h hh
  have fo_h : C (100 + lc_ho B h) = some (.inr (6, [.int (nI (lc_ho B h)), .long (lN (lc_sa B (lc_ho B h))), .long (lN (lc_sb B (lc_ho B h))), .int (nI (lc_tot (lc_sa B (lc_ho B h)) (lc_sb B (lc_ho B h))))])) := hDB.1 _ hq2_h
  have fx_h : C (100 + lc_hx B h) = some (.inr (6, [.int (nI (lc_hx B h)), .long (lN (lc_sa B (lc_hx B h))), .long (lN (lc_sb B (lc_hx B h))), .int (nI (lc_tot (lc_sa B (lc_hx B h)) (lc_sb B (lc_hx B h))))])) := hDB.1 _ hq3_h
  refine lv_aload_n hx hb dX1_isUnlike_0 rfl (lv_at hl 1 rfl) ?_
  refine lv_aload_n hx hb dX1_isUnlike_1 rfl (lv_at hl 0 rfl) ?_
  refine wg_getN F hP fh_h rfl iw_X2 1 (by decide) nb_249 rfl rfl dX1_isUnlike_2 ?_
  refine wg_cq hS (wg_rV (As := [.int (nI (lc_hh B h))]) (rest := []) F hP hS (c_X1_headAt l E A C i n f g B (lc_hh B h) hn hf hg hDB (by omega) f32i f36i f40i) ok_X1_headAt tb_430 rfl rfl ⟨Nat.le_of_ble_eq_true rfl, Nat.le_of_ble_eq_true rfl⟩ f32i rfl rfl rfl hl.1 rfl (Nat.le_of_ble_eq_true rfl) dX1_isUnlike_5 ⟨Nat.le_of_ble_eq_true rfl, Nat.le_of_ble_eq_true rfl⟩) (fun r_5 A1 C_5 H locs w_5 hP hS => ?_)
  obtain ⟨w_5, rfl, rfl⟩ := w_5
  rcases hpl : lc_pl (fun k => lc_hh B (g k)) (lc_hh B h) n with _ | j
  · refine wg_none (by rw [w_5, hpl]; rfl) ?_
    refine lv_astore_nN (lv' := [(2, .null), (0, .ref (A (200 + h))), (1, .ref (A (32 + i)))]) hx hb dX1_isUnlike_8 rfl hl (by decide) rfl (fun ls hl => ?_)
    refine lv_aload_nN hx hb dX1_isUnlike_9 rfl (lv_at hl 0 rfl) ?_
    refine lv_ifnullN (tgt := 29) hx hb dX1_isUnlike_10 (by decide) ?_
    refine lv_iconst (v := 0) hx hb dX1_isUnlike_29 (by decide) ?_
    exact wg_zret F hP hS hr hlk (by decide) ⟨by rw [lc_unl_none hpl]; rfl, rfl, rfl⟩ dX1_isUnlike_30
  · refine wg_some (x := A (200 + g j)) (by rw [w_5, hpl]; rfl) ?_
    have fh_g : C (200 + g j) = some (.inr (2, [.int (nI (g j)), .int (nI (lc_hh B (g j))), .long (lc_hp B (g j)), .ref (A (100 + lc_ho B (g j))), .ref (A (100 + lc_hx B (g j))), .long (lc_hr B (g j)), .long (lc_dig B (g j)), .int (nI (lc_sg B (g j)))])) := hDB.2.1 _ (hg j (lc_pl_of hpl).1)
    refine lv_astore_n (lv' := [(2, .ref (A (200 + g j))), (0, .ref (A (200 + h))), (1, .ref (A (32 + i)))]) hx hb dX1_isUnlike_8 rfl hl (by decide) rfl (fun ls hl => ?_)
    refine lv_aload_n hx hb dX1_isUnlike_9 rfl (lv_at hl 0 rfl) ?_
    refine lv_ifnull hx hb dX1_isUnlike_10 ?_
    refine lv_aload_n hx hb dX1_isUnlike_13 rfl (lv_at hl 0 rfl) ?_
    refine wg_getN F hP fh_g rfl iw_X2 6 (by decide) nb_261 rfl rfl dX1_isUnlike_14 ?_
    refine lv_aload_n hx hb dX1_isUnlike_17 rfl (lv_at hl 1 rfl) ?_
    refine wg_getN F hP fh_h rfl iw_X2 6 (by decide) nb_261 rfl rfl dX1_isUnlike_18 ?_
    refine W.lcmp hx hb dX1_isUnlike_21 ?_
    refine lv_if_eq (tgt := 29) hx hb dX1_isUnlike_22 (by decide) (fun c_22 => ?_) (fun c_22 => ?_)
    · rw [lg_cmp_eq] at c_22
      refine lv_iconst (v := 0) hx hb dX1_isUnlike_29 (by decide) ?_
      exact wg_zret F hP hS hr hlk (by decide) ⟨by rw [lc_unl_some hpl, if_neg (by simpa using c_22)], rfl, rfl⟩ dX1_isUnlike_30
    · rw [lg_cmp_eq] at c_22
      refine lv_iconst (v := 1) hx hb dX1_isUnlike_25 (by decide) ?_
      refine lv_goto (tgt := 30) hx hb dX1_isUnlike_26 (by decide) ?_
      exact wg_zret F hP hS hr hlk (by decide) ⟨by rw [lc_unl_some hpl, if_pos (by simpa using c_22)], rfl, rfl⟩ dX1_isUnlike_30
set_option maxHeartbeats 4000000 in
set_option maxRecDepth 100000 in
theorem c_X1_leastUnlike (l : Launch) (E : wg_E) (A : Nat → Nat) (C : wg_C) (i n : Nat) (f : Nat → Option Nat) (g : Nat → Nat) (B : lc_B) (i2 n2 : Nat) (f2 : Nat → Option Nat) (g2 : Nat → Nat) (hn : n ≤ 60) (hf : ∀ j, j < n → f j = some (A (200 + g j))) (hg : ∀ j, j < n → g j < lc_nh B) (hDB : lc_DB A C B) (hn2 : n2 ≤ 60) (hf2 : ∀ j, j < n2 → f2 j = some (A (200 + g2 j))) (hg2 : ∀ j, j < n2 → g2 j < lc_nh B) (f32i : C (32 + i) = some (.inr (1, [.ref (A (36 + i))]))) (f36i : C (36 + i) = some (.inr (3, [.ref (A (40 + i)), .int (nI n)]))) (f40i : C (40 + i) = some (.inl (E.2.1 4, 60, .inr (.inr (.inr (.inr f)))))) (f32i2 : C (32 + i2) = some (.inr (1, [.ref (A (36 + i2))]))) (f36i2 : C (36 + i2) = some (.inr (3, [.ref (A (40 + i2)), .int (nI n2)]))) (f40i2 : C (40 + i2) = some (.inl (E.2.1 4, 60, .inr (.inr (.inr (.inr f2)))))) : Met l yX1_leastUnlike (wg_ws yX1_leastUnlike cX1_leastUnlike 5 (some .int)) (wg_rm 4 0 0) (wg_Pc E A C [.ref (A (32 + i)), .ref (A (32 + i2))]) (wg_Qi E (fun r A1 C1 => r = lc_I (lc_lu B g n2 g2 n) ∧ A = A1 ∧ C = C1)) 0 0 (wg_A E) := by
  refine wg_met (by decide) (Nat.le_of_ble_eq_true rfl) ?_
  intro p e s m below meth c ls F hr hlk hnm hP hS hl
  have F : wg_F p m c cX1_leastUnlike 5 s ([.ref (A (32 + i)), .ref (A (32 + i2))] : List Value).toArray "LightChecks$Giver" E := F
  have hx := F.1
  have hb := F.2.1
  have hml := F.2.2.1
  have hown := F.2.2.2.1
  have hts := F.2.2.2.2.1
  have hl : lv_has ls 5 [(0, .ref (A (32 + i))), (1, .ref (A (32 + i2)))] := hl
  refine lv_bipush (v := (-2)) hx hb dX1_leastUnlike_0 (by decide) ?_
  refine lv_istore_n (lv' := [(2, .int ((-2))), (0, .ref (A (32 + i))), (1, .ref (A (32 + i2)))]) hx hb dX1_leastUnlike_2 rfl hl (by decide) rfl (fun ls hl => ?_)
  refine lv_iconst (v := 0) hx hb dX1_leastUnlike_3 (by decide) ?_
  refine lv_istore_n (lv' := [(3, .int 0), (2, .int ((-2))), (0, .ref (A (32 + i))), (1, .ref (A (32 + i2)))]) hx hb dX1_leastUnlike_4 rfl hl (by decide) rfl (fun ls hl => ?_)
  have loop_5 : ∀ (fuel : Nat) (j : Nat) (x2 : Int32) (x3 : Int32), n - j < fuel → (j ≤ n) → (x2 = lc_I (lc_lu B g n2 g2 j)) → (x3 = nI j) → ∀ (H : Heap) (locs : List Loc) (ls : Array Slot), wg_P E A C H → va_S (wg_A E) s.heap H locs → lv_has ls 5 [(0, .ref (A (32 + i))), (1, .ref (A (32 + i2))), (2, .int x2), (3, .int x3)] → W p l e (wg_rm 4 0 0) s m ([.ref (A (32 + i)), .ref (A (32 + i2))] : List Value).toArray below meth c H locs 0 0 (MQ below (wg_Qi E (fun r A1 C1 => r = lc_I (lc_lu B g n2 g2 n) ∧ A = A1 ∧ C = C1)) ([.ref (A (32 + i)), .ref (A (32 + i2))] : List Value).toArray s 0 0 (wg_A E)) (F0 m 5 ls []) := by
    intro fuel
    induction fuel with
    | zero => intro j x2 x3 hm; exact absurd hm (Nat.not_lt_zero _)
    | succ fuel ih_loop_5 =>
      intro j x2 x3 hm_loop_5 hj ex2 ex3 H locs ls hP hS hl
      subst ex3
      refine lv_iload_n hx hb dX1_leastUnlike_5 rfl (lv_at hl 3 rfl) ?_
      refine lv_aload_n hx hb dX1_leastUnlike_6 rfl (lv_at hl 0 rfl) ?_
      refine wg_get F hP f32i rfl iw_X1 0 (by decide) tb_136 rfl rfl dX1_leastUnlike_7 ?_
      refine wg_getN F hP f36i rfl iw_X3 1 (by decide) nb_34 rfl rfl dX1_leastUnlike_10 ?_
      refine lv_icmp_ge (tgt := 67) hx hb dX1_leastUnlike_13 (by decide) (fun c_13 => ?_) (fun c_13 => ?_)
      · rw [nI_leI (by omega) (by omega)] at c_13
        have hjn : j = n := by omega
        refine lv_iload_n hx hb dX1_leastUnlike_67 rfl (lv_at hl 2 rfl) ?_
        exact wg_iret F hP hS hr hlk (⟨by rw [← hjn]; exact ex2, rfl, rfl⟩) dX1_leastUnlike_68
      · rw [nI_leI (by omega) (by omega)] at c_13
        have hjn : j < n := by omega
        have hle := lc_lu_le (B := B) (g := g) (n2 := n2) (g2 := g2) (i := j) (fun k hk => (hDB.2.2.2.2.2 _ (hg k (by omega))).1)
        refine lv_aload_n hx hb dX1_leastUnlike_16 rfl (lv_at hl 0 rfl) ?_
        refine wg_get F hP f32i rfl iw_X1 0 (by decide) tb_136 rfl rfl dX1_leastUnlike_17 ?_
        refine lv_iload_n hx hb dX1_leastUnlike_20 rfl (lv_at hl 3 rfl) ?_
        refine wg_cq hS (wg_rVN (As := [.int (nI j)]) (rest := []) F hP hS (c_X3_at l E A C (36 + i) (40 + i) 60 n f (nI j) hn (by decide) f36i f40i) ok_X3_at nb_395 rfl rfl ⟨Nat.le_of_ble_eq_true rfl, Nat.le_of_ble_eq_true rfl⟩ f36i rfl rfl rfl hl.1 rfl (Nat.le_of_ble_eq_true rfl) dX1_leastUnlike_21 ⟨Nat.le_of_ble_eq_true rfl, Nat.le_of_ble_eq_true rfl⟩) (fun r_21 A1 C_21 H locs w_21 hP hS => ?_)
        obtain ⟨w_21, rfl, rfl⟩ := w_21
        refine wg_some (w_21.trans ((lc_at_in hjn (by omega)).trans (hf j hjn))) ?_
        have fh_g : C (200 + g j) = some (.inr (2, [.int (nI (g j)), .int (nI (lc_hh B (g j))), .long (lc_hp B (g j)), .ref (A (100 + lc_ho B (g j))), .ref (A (100 + lc_hx B (g j))), .long (lc_hr B (g j)), .long (lc_dig B (g j)), .int (nI (lc_sg B (g j)))])) := hDB.2.1 _ (hg j hjn)
        have hq := (hDB.2.2.2.2.2 _ (hg j hjn)).1
        refine lv_astore (lv' := [(4, .ref (A (200 + g j))), (0, .ref (A (32 + i))), (1, .ref (A (32 + i2))), (2, .int x2), (3, .int (nI j))]) hx hb dX1_leastUnlike_24 hl (by decide) rfl (fun ls hl => ?_)
        refine lv_aload hx hb dX1_leastUnlike_26 (lv_at hl 0 rfl) ?_
        refine lv_ifnull hx hb dX1_leastUnlike_28 ?_
        refine lv_aload hx hb dX1_leastUnlike_31 (lv_at hl 0 rfl) ?_
        refine lv_aload_n hx hb dX1_leastUnlike_33 rfl (lv_at hl 2 rfl) ?_
        refine wg_ci hS (wg_rS (As := [.ref (A (200 + g j)), .ref (A (32 + i2))]) (rest := []) F hP hS (c_X1_isUnlike l E A C i2 n2 f2 g2 B (g j) hn2 hf2 hg2 hDB (hg j hjn) f32i2 f36i2 f40i2) ok_X1_isUnlike tb_427 rfl rfl ⟨Nat.le_of_ble_eq_true rfl, Nat.le_of_ble_eq_true rfl⟩ rfl hl.1 rfl (Nat.le_of_ble_eq_true rfl) dX1_leastUnlike_34 ⟨Nat.le_of_ble_eq_true rfl, Nat.le_of_ble_eq_true rfl⟩) (fun r_34 A1 C_34 H locs w_34 hP hS => ?_)
        obtain ⟨w_34, rfl, rfl⟩ := w_34
        refine lv_if_eq (tgt := 61) hx hb dX1_leastUnlike_37 (by decide) (fun c_37 => ?_) (fun c_37 => ?_)
        · have hu : ¬ lc_unl B n2 g2 (g j) = true := fun q => by rw [w_34, if_pos q] at c_37; exact absurd c_37 (by decide)
          have hnew : x2 = lc_I (lc_lu B g n2 g2 (j + 1)) := by rw [ex2]; simp only [lc_lu]; rw [if_neg hu]
          obtain ⟨x_61, ex_61⟩ : ∃ y : Int32, y = nI j + 1 := ⟨_, rfl⟩
          refine lv_iinc (v := x_61) (lv' := [(3, .int x_61), (4, .ref (A (200 + g j))), (0, .ref (A (32 + i))), (1, .ref (A (32 + i2))), (2, .int x2)]) hx hb dX1_leastUnlike_61 hl (k := 4) rfl (by rw [ex_61]; rfl) (by decide) rfl (fun ls hl => ?_)
          refine lv_goto (tgt := 5) hx hb dX1_leastUnlike_64 (by decide) ?_
          exact ih_loop_5 (j + 1) x2 x_61 (by omega) (by omega) (by first | exact hnew | (rw [ex_60]; exact hnew)) (by rw [ex_61, nI_1]) _ _ _ hP hS (lv_sub hl [2, 3, 4, 0] rfl)
        · have hu : lc_unl B n2 g2 (g j) = true := Decidable.byContradiction (fun q => c_37 (by rw [w_34, if_neg q]))
          rcases hlu : lc_lu B g n2 g2 j with _ | b
          · have hx2 : x2 = -2 := by rw [ex2, hlu]; rfl
            have hnew : nI (lc_hh B (g j)) = lc_I (lc_lu B g n2 g2 (j + 1)) := by simp only [lc_lu]; rw [if_pos hu, hlu]; rfl
            refine lv_iload_n hx hb dX1_leastUnlike_40 rfl (lv_at hl 3 rfl) ?_
            refine lv_bipush (v := (-2)) hx hb dX1_leastUnlike_41 (by decide) ?_
            refine lv_icmp_eq (tgt := 55) hx hb dX1_leastUnlike_43 (by decide) (fun c_43 => ?_) (fun c_43 => ?_)
            · refine lv_aload hx hb dX1_leastUnlike_55 (lv_at hl 0 rfl) ?_
              refine wg_getN F hP fh_g rfl iw_X2 1 (by decide) nb_249 rfl rfl dX1_leastUnlike_57 ?_
              refine lv_topi (fun x_60 ex_60 => ?_)
              refine lv_istore_n (lv' := [(2, .int x_60), (4, .ref (A (200 + g j))), (0, .ref (A (32 + i))), (1, .ref (A (32 + i2))), (3, .int (nI j))]) hx hb dX1_leastUnlike_60 rfl hl (by decide) rfl (fun ls hl => ?_)
              obtain ⟨x_61, ex_61⟩ : ∃ y : Int32, y = nI j + 1 := ⟨_, rfl⟩
              refine lv_iinc (v := x_61) (lv' := [(3, .int x_61), (2, .int x_60), (4, .ref (A (200 + g j))), (0, .ref (A (32 + i))), (1, .ref (A (32 + i2)))]) hx hb dX1_leastUnlike_61 hl (k := 4) rfl (by rw [ex_61]; rfl) (by decide) rfl (fun ls hl => ?_)
              refine lv_goto (tgt := 5) hx hb dX1_leastUnlike_64 (by decide) ?_
              exact ih_loop_5 (j + 1) x_60 x_61 (by omega) (by omega) (by first | exact hnew | (rw [ex_60]; exact hnew)) (by rw [ex_61, nI_1]) _ _ _ hP hS (lv_sub hl [3, 4, 1, 0] rfl)
            · exact absurd hx2 c_43
          · have hb5 := hle b hlu
            have hx2 : x2 = nI b := by rw [ex2, hlu]; rfl
            refine lv_iload_n hx hb dX1_leastUnlike_40 rfl (lv_at hl 3 rfl) ?_
            refine lv_bipush (v := (-2)) hx hb dX1_leastUnlike_41 (by decide) ?_
            refine lv_icmp_eq (tgt := 55) hx hb dX1_leastUnlike_43 (by decide) (fun c_43 => ?_) (fun c_43 => ?_)
            · exact absurd c_43 (by rw [hx2]; exact lc_nI_ne2 (by omega))
            · refine lv_aload hx hb dX1_leastUnlike_46 (lv_at hl 0 rfl) ?_
              refine wg_getN F hP fh_g rfl iw_X2 1 (by decide) nb_249 rfl rfl dX1_leastUnlike_48 ?_
              refine lv_iload_n hx hb dX1_leastUnlike_51 rfl (lv_at hl 3 rfl) ?_
              refine lv_icmp_ge (tgt := 61) hx hb dX1_leastUnlike_52 (by decide) (fun c_52 => ?_) (fun c_52 => ?_)
              · have hnew : x2 = lc_I (lc_lu B g n2 g2 (j + 1)) := by rw [hx2, nI_leI (by omega) (by omega)] at c_52; rw [hx2]; simp only [lc_lu]; rw [if_pos hu, hlu]; simp only []; rw [if_neg (by omega)]; rfl
                obtain ⟨x_61, ex_61⟩ : ∃ y : Int32, y = nI j + 1 := ⟨_, rfl⟩
                refine lv_iinc (v := x_61) (lv' := [(3, .int x_61), (4, .ref (A (200 + g j))), (0, .ref (A (32 + i))), (1, .ref (A (32 + i2))), (2, .int x2)]) hx hb dX1_leastUnlike_61 hl (k := 4) rfl (by rw [ex_61]; rfl) (by decide) rfl (fun ls hl => ?_)
                refine lv_goto (tgt := 5) hx hb dX1_leastUnlike_64 (by decide) ?_
                exact ih_loop_5 (j + 1) x2 x_61 (by omega) (by omega) (by first | exact hnew | (rw [ex_60]; exact hnew)) (by rw [ex_61, nI_1]) _ _ _ hP hS (lv_sub hl [2, 3, 4, 0] rfl)
              · have hnew : nI (lc_hh B (g j)) = lc_I (lc_lu B g n2 g2 (j + 1)) := by rw [hx2, nI_leI (by omega) (by omega)] at c_52; simp only [lc_lu]; rw [if_pos hu, hlu]; simp only []; rw [if_pos (by omega)]; rfl
                refine lv_aload hx hb dX1_leastUnlike_55 (lv_at hl 0 rfl) ?_
                refine wg_getN F hP fh_g rfl iw_X2 1 (by decide) nb_249 rfl rfl dX1_leastUnlike_57 ?_
                refine lv_topi (fun x_60 ex_60 => ?_)
                refine lv_istore_n (lv' := [(2, .int x_60), (4, .ref (A (200 + g j))), (0, .ref (A (32 + i))), (1, .ref (A (32 + i2))), (3, .int (nI j))]) hx hb dX1_leastUnlike_60 rfl hl (by decide) rfl (fun ls hl => ?_)
                obtain ⟨x_61, ex_61⟩ : ∃ y : Int32, y = nI j + 1 := ⟨_, rfl⟩
                refine lv_iinc (v := x_61) (lv' := [(3, .int x_61), (2, .int x_60), (4, .ref (A (200 + g j))), (0, .ref (A (32 + i))), (1, .ref (A (32 + i2)))]) hx hb dX1_leastUnlike_61 hl (k := 4) rfl (by rw [ex_61]; rfl) (by decide) rfl (fun ls hl => ?_)
                refine lv_goto (tgt := 5) hx hb dX1_leastUnlike_64 (by decide) ?_
                exact ih_loop_5 (j + 1) x_60 x_61 (by omega) (by omega) (by first | exact hnew | (rw [ex_60]; exact hnew)) (by rw [ex_61, nI_1]) _ _ _ hP hS (lv_sub hl [3, 4, 1, 0] rfl)
  exact loop_5 _ 0 (((-2))) 0 (Nat.lt_succ_self _) (by omega) rfl rfl _ _ _ hP hS (lv_sub hl [2, 3, 1, 0] rfl)
set_option maxHeartbeats 4000000 in
set_option maxRecDepth 100000 in
theorem c_X0_trusted (l : Launch) (E : wg_E) (A : Nat → Nat) (C : wg_C) (i n : Nat) (f : Nat → Option Nat) (co rb ra : Int32) (hn : n ≤ 11) (f20i : C (20 + i) = some (.inr (0, [.ref (A (24 + i)), .int co, .int rb, .int ra]))) (f24i : C (24 + i) = some (.inr (3, [.ref (A (28 + i)), .int (nI n)]))) (f28i : C (28 + i) = some (.inl (E.2.1 4, 11, .inr (.inr (.inr (.inr f)))))) : Met l yX0_trusted (wg_ws yX0_trusted cX0_trusted 1 (some (.object "LightChecks$Head"))) (wg_rm 1 0 0) (wg_Pc E A C [.ref (A (20 + i))]) (wg_Qq E (fun r A1 C1 => r = lc_at n f (nI n - 1) ∧ A = A1 ∧ C = C1)) 0 0 (wg_A E) := by
  refine wg_met (by decide) (Nat.le_of_ble_eq_true rfl) ?_
  intro p e s m below meth c ls F hr hlk hnm hP hS hl
  have F : wg_F p m c cX0_trusted 1 s ([.ref (A (20 + i))] : List Value).toArray "LightChecks$Client" E := F
  have hx := F.1
  have hb := F.2.1
  have hml := F.2.2.1
  have hown := F.2.2.2.1
  have hts := F.2.2.2.2.1
  have hl : lv_has ls 1 [(0, .ref (A (20 + i)))] := hl
  refine lv_aload_n hx hb dX0_trusted_0 rfl (lv_at hl 0 rfl) ?_
  refine wg_get F hP f20i rfl iw_X0 0 (by decide) tb_112 rfl rfl dX0_trusted_1 ?_
  refine lv_aload_n hx hb dX0_trusted_4 rfl (lv_at hl 0 rfl) ?_
  refine wg_get F hP f20i rfl iw_X0 0 (by decide) tb_112 rfl rfl dX0_trusted_5 ?_
  refine wg_getN F hP f24i rfl iw_X3 1 (by decide) nb_35 rfl rfl dX0_trusted_8 ?_
  refine lv_iconst (v := 1) hx hb dX0_trusted_11 (by decide) ?_
  refine lv_isub hx hb dX0_trusted_12 ?_
  refine wg_cq hS (wg_rVN (As := [.int ((nI n) - 1)]) (rest := []) F hP hS (c_X3_at l E A C (24 + i) (28 + i) 11 n f _ hn (by decide) f24i f28i) ok_X3_at nb_354 rfl rfl ⟨Nat.le_of_ble_eq_true rfl, Nat.le_of_ble_eq_true rfl⟩ f24i rfl rfl rfl hl.1 rfl (Nat.le_of_ble_eq_true rfl) dX0_trusted_13 ⟨Nat.le_of_ble_eq_true rfl, Nat.le_of_ble_eq_true rfl⟩) (fun r_13 A1 C_13 H locs w_13 hP hS => ?_)
  obtain ⟨w_13, rfl, rfl⟩ := w_13
  exact wg_qret (v := r_13) F hP hS hr ⟨_, rfl⟩ hlk (⟨w_13, rfl, rfl⟩) dX0_trusted_16
set_option maxHeartbeats 4000000 in
set_option maxRecDepth 100000 in
theorem c_X0_refuse (l : Launch) (E : wg_E) (A : Nat → Nat) (C : wg_C) (i n : Nat) (f : Nat → Option Nat) (co rb ra : Int32) (y x : Int32) (hi : i < 4) (f20i : C (20 + i) = some (.inr (0, [.ref (A (24 + i)), .int co, .int rb, .int ra]))) : Met l yX0_refuse (wg_ws yX0_refuse cX0_refuse 3 (some .int)) (wg_rm 0 0 0) (wg_Pc E A C [.ref (A (20 + i)), .int y, .int x]) (wg_Qi E (fun r A1 C1 => r = -10 - y ∧ A = A1 ∧ C1 = va_up C (20 + i) (some (.inr (0, [.ref (A (24 + i)), .int co, .int y, .int x]))))) 0 0 (wg_A E) := by
  refine wg_met (by decide) (Nat.le_of_ble_eq_true rfl) ?_
  intro p e s m below meth c ls F hr hlk hnm hP hS hl
  have F : wg_F p m c cX0_refuse 3 s ([.ref (A (20 + i)), .int y, .int x] : List Value).toArray "LightChecks$Client" E := F
  have hx := F.1
  have hb := F.2.1
  have hml := F.2.2.1
  have hown := F.2.2.2.1
  have hts := F.2.2.2.2.1
  have hl : lv_has ls 3 [(0, .ref (A (20 + i))), (1, .int y), (2, .int x)] := hl
  refine lv_aload_n hx hb dX0_refuse_0 rfl (lv_at hl 0 rfl) ?_
  refine lv_iload_n hx hb dX0_refuse_1 rfl (lv_at hl 1 rfl) ?_
  refine wg_put F hP hS f20i rfl iw_X0 tyX0_ok nmX0 2 (by decide) tb_116 rfl rfl rfl (Nat.le_of_ble_eq_true rfl) dX0_refuse_2 (fun H locs hP hS => ?_)
  obtain ⟨C_2, hC_2⟩ : ∃ z : wg_C, z = va_up C (20 + i) (some (.inr (0, [.ref (A (24 + i)), .int co, .int y, .int ra]))) := ⟨_, rfl⟩
  have hP : wg_P E A C_2 H := by rw [hC_2]; exact hP
  have f20i_c2 : C_2 (20 + i) = some (.inr (0, [.ref (A (24 + i)), .int co, .int y, .int ra])) := by rw [hC_2]; exact va_up_self _ _ _
  refine lv_aload_n hx hb dX0_refuse_5 rfl (lv_at hl 0 rfl) ?_
  refine lv_iload_n hx hb dX0_refuse_6 rfl (lv_at hl 2 rfl) ?_
  refine wg_put F hP hS f20i_c2 rfl iw_X0 tyX0_ok nmX0 3 (by decide) tb_118 rfl rfl rfl (Nat.le_of_ble_eq_true rfl) dX0_refuse_7 (fun H locs hP hS => ?_)
  obtain ⟨C_7, hC_7⟩ : ∃ z : wg_C, z = va_up C_2 (20 + i) (some (.inr (0, [.ref (A (24 + i)), .int co, .int y, .int x]))) := ⟨_, rfl⟩
  have hP : wg_P E A C_7 H := by rw [hC_7]; exact hP
  have f20i_c7 : C_7 (20 + i) = some (.inr (0, [.ref (A (24 + i)), .int co, .int y, .int x])) := by rw [hC_7]; exact va_up_self _ _ _
  refine lv_bipush (v := (-10)) hx hb dX0_refuse_10 (by decide) ?_
  refine lv_iload_n hx hb dX0_refuse_12 rfl (lv_at hl 1 rfl) ?_
  refine lv_isub hx hb dX0_refuse_13 ?_
  exact wg_iret F hP hS hr hlk (⟨rfl, rfl, by rw [hC_7, hC_2, bx_uu]⟩) dX0_refuse_14
set_option maxHeartbeats 4000000 in
set_option maxRecDepth 100000 in
theorem c_X0_lastBelow (l : Launch) (E : wg_E) (A : Nat → Nat) (C : wg_C) (i n : Nat) (f : Nat → Option Nat) (co rb ra : Int32) (g : Nat → Nat) (B : lc_B) (x : Nat) (hn : n ≤ 11) (hf : ∀ j, j < n → f j = some (A (200 + g j))) (hg : ∀ j, j < n → g j < lc_nh B) (hDB : lc_DB A C B) (hx31 : x < 2 ^ 31) (f20i : C (20 + i) = some (.inr (0, [.ref (A (24 + i)), .int co, .int rb, .int ra]))) (f24i : C (24 + i) = some (.inr (3, [.ref (A (28 + i)), .int (nI n)]))) (f28i : C (28 + i) = some (.inl (E.2.1 4, 11, .inr (.inr (.inr (.inr f)))))) : Met l yX0_lastBelow (wg_ws yX0_lastBelow cX0_lastBelow 4 (some (.object "LightChecks$Head"))) (wg_rm 1 0 0) (wg_Pc E A C [.ref (A (20 + i)), .int (nI x)]) (wg_Qq E (fun r A1 C1 => r = (lc_lb B g x n).map (fun k => A (200 + g k)) ∧ A = A1 ∧ C = C1)) 0 0 (wg_A E) := by
  refine wg_met (by decide) (Nat.le_of_ble_eq_true rfl) ?_
  intro p e s m below meth c ls F hr hlk hnm hP hS hl
  have F : wg_F p m c cX0_lastBelow 4 s ([.ref (A (20 + i)), .int (nI x)] : List Value).toArray "LightChecks$Client" E := F
  have hx := F.1
  have hb := F.2.1
  have hml := F.2.2.1
  have hown := F.2.2.2.1
  have hts := F.2.2.2.2.1
  have hl : lv_has ls 4 [(0, .ref (A (20 + i))), (1, .int (nI x))] := hl
  refine lv_aload_n hx hb dX0_lastBelow_0 rfl (lv_at hl 0 rfl) ?_
  refine wg_get F hP f20i rfl iw_X0 0 (by decide) tb_112 rfl rfl dX0_lastBelow_1 ?_
  refine wg_getN F hP f24i rfl iw_X3 1 (by decide) nb_35 rfl rfl dX0_lastBelow_4 ?_
  refine lv_iconst (v := 1) hx hb dX0_lastBelow_7 (by decide) ?_
  refine lv_isub hx hb dX0_lastBelow_8 ?_
  refine lv_topi (fun x_9 ex_9 => ?_)
  refine lv_istore_n (lv' := [(2, .int x_9), (0, .ref (A (20 + i))), (1, .int (nI x))]) hx hb dX0_lastBelow_9 rfl hl (by decide) rfl (fun ls hl => ?_)
  have loop_10 : ∀ (fuel : Nat) (j : Nat) (x2 : Int32), j < fuel → (j ≤ n) → (x2 = nI j - 1) → (lc_lb B g x n = lc_lb B g x j) → ∀ (H : Heap) (locs : List Loc) (ls : Array Slot), wg_P E A C H → va_S (wg_A E) s.heap H locs → lv_has ls 4 [(0, .ref (A (20 + i))), (1, .int (nI x)), (2, .int x2)] → W p l e (wg_rm 1 0 0) s m ([.ref (A (20 + i)), .int (nI x)] : List Value).toArray below meth c H locs 0 0 (MQ below (wg_Qq E (fun r A1 C1 => r = (lc_lb B g x n).map (fun k => A (200 + g k)) ∧ A = A1 ∧ C = C1)) ([.ref (A (20 + i)), .int (nI x)] : List Value).toArray s 0 0 (wg_A E)) (F0 m 10 ls []) := by
    intro fuel
    induction fuel with
    | zero => intro j x2 hm; exact absurd hm (Nat.not_lt_zero _)
    | succ fuel ih_loop_10 =>
      intro j x2 hm_loop_10 hj ex2 hno H locs ls hP hS hl
      refine lv_iload_n hx hb dX0_lastBelow_10 rfl (lv_at hl 2 rfl) ?_
      refine lv_if_lt (tgt := 43) hx hb dX0_lastBelow_11 (by decide) (fun c_11 => ?_) (fun c_11 => ?_)
      · have hj0 : j = 0 := by
          rcases j with _ | j
          · rfl
          · exact absurd c_11 (by rw [ex2, nI_m1]; exact nI_pos (by omega))
        subst hj0
        refine lv_null hx hb dX0_lastBelow_43 ?_
        exact wg_qret (v := none) F hP hS hr ⟨_, rfl⟩ hlk (⟨by rw [hno]; rfl, rfl, rfl⟩) dX0_lastBelow_44
      · obtain ⟨j, rfl⟩ : ∃ k, j = k + 1 := by
          rcases j with _ | j
          · exact absurd (by rw [ex2]; decide) c_11
          · exact ⟨j, rfl⟩
        rw [nI_m1] at ex2
        refine lv_aload_n hx hb dX0_lastBelow_14 rfl (lv_at hl 0 rfl) ?_
        refine wg_get F hP f20i rfl iw_X0 0 (by decide) tb_112 rfl rfl dX0_lastBelow_15 ?_
        refine lv_iload_n hx hb dX0_lastBelow_18 rfl (lv_at hl 2 rfl) ?_
        refine wg_cq hS (wg_rVN (As := [.int x2]) (rest := []) F hP hS (c_X3_at l E A C (24 + i) (28 + i) 11 n f x2 hn (by decide) f24i f28i) ok_X3_at nb_354 rfl rfl ⟨Nat.le_of_ble_eq_true rfl, Nat.le_of_ble_eq_true rfl⟩ f24i rfl rfl rfl hl.1 rfl (Nat.le_of_ble_eq_true rfl) dX0_lastBelow_19 ⟨Nat.le_of_ble_eq_true rfl, Nat.le_of_ble_eq_true rfl⟩) (fun r_19 A1 C_19 H locs w_19 hP hS => ?_)
        obtain ⟨w_19, rfl, rfl⟩ := w_19
        refine wg_some (w_19.trans (by rw [ex2]; exact (lc_at_in (by omega) (by omega)).trans (hf j (by omega)))) ?_
        have fh_g : C (200 + g j) = some (.inr (2, [.int (nI (g j)), .int (nI (lc_hh B (g j))), .long (lc_hp B (g j)), .ref (A (100 + lc_ho B (g j))), .ref (A (100 + lc_hx B (g j))), .long (lc_hr B (g j)), .long (lc_dig B (g j)), .int (nI (lc_sg B (g j)))])) := hDB.2.1 _ (hg j (by omega))
        have hq := (hDB.2.2.2.2.2 _ (hg j (by omega))).1
        refine lv_astore_n (lv' := [(3, .ref (A (200 + g j))), (0, .ref (A (20 + i))), (1, .int (nI x)), (2, .int x2)]) hx hb dX0_lastBelow_22 rfl hl (by decide) rfl (fun ls hl => ?_)
        refine lv_aload_n hx hb dX0_lastBelow_23 rfl (lv_at hl 0 rfl) ?_
        refine lv_ifnull hx hb dX0_lastBelow_24 ?_
        refine lv_aload_n hx hb dX0_lastBelow_27 rfl (lv_at hl 0 rfl) ?_
        refine wg_getN F hP fh_g rfl iw_X2 1 (by decide) nb_250 rfl rfl dX0_lastBelow_28 ?_
        refine lv_iload_n hx hb dX0_lastBelow_31 rfl (lv_at hl 2 rfl) ?_
        refine lv_icmp_ge (tgt := 37) hx hb dX0_lastBelow_32 (by decide) (fun c_32 => ?_) (fun c_32 => ?_)
        · have hno2 : lc_lb B g x n = lc_lb B g x j := by rw [nI_leI hx31 (by omega)] at c_32; rw [hno]; simp only [lc_lb]; rw [if_neg (by omega)]
          obtain ⟨x_37, ex_37⟩ : ∃ y : Int32, y = x2 + (-1) := ⟨_, rfl⟩
          refine lv_iinc (v := x_37) (lv' := [(2, .int x_37), (3, .ref (A (200 + g j))), (0, .ref (A (20 + i))), (1, .int (nI x))]) hx hb dX0_lastBelow_37 hl (k := 3) rfl (by rw [ex_37]; rfl) (by decide) rfl (fun ls hl => ?_)
          refine lv_goto (tgt := 10) hx hb dX0_lastBelow_40 (by decide) ?_
          exact ih_loop_10 j x_37 (by omega) (by omega) (by rw [ex_37, ex2]; exact (Int32.sub_eq_add_neg _ _).symm) hno2 _ _ _ hP hS (lv_sub hl [2, 3, 0] rfl)
        · have hlb : lc_lb B g x n = some j := by rw [nI_leI hx31 (by omega)] at c_32; rw [hno]; simp only [lc_lb]; rw [if_pos (by omega)]
          refine lv_aload_n hx hb dX0_lastBelow_35 rfl (lv_at hl 0 rfl) ?_
          exact wg_qret (v := some (A (200 + g j))) F hP hS hr ⟨_, rfl⟩ hlk (⟨by rw [hlb]; rfl, rfl, rfl⟩) dX0_lastBelow_36
  exact loop_10 _ n x_9 (Nat.lt_succ_self _) (Nat.le_refl n) (by rw [ex_9]) rfl _ _ _ hP hS (lv_sub hl [1, 2, 0] rfl)
