set_option maxHeartbeats 4000000 in
set_option maxRecDepth 100000 in
theorem c_X0_begin (l : Launch) (E : wg_E) (A : Nat → Nat) (C : wg_C) (i n : Nat) (f : Nat → Option Nat) (co rb ra : Int32) (h : Nat) (hv : List Value) (hi : i < 4) (hn : n ≤ 11) (f20i : C (20 + i) = some (.inr (0, [.ref (A (24 + i)), .int co, .int rb, .int ra]))) (f24i : C (24 + i) = some (.inr (3, [.ref (A (28 + i)), .int (nI n)]))) (f28i : C (28 + i) = some (.inl (E.2.1 4, 11, .inr (.inr (.inr (.inr f)))))) (f200h : C (200 + h) = some (.inr (2, hv))) : Met l yX0_begin (wg_ws yX0_begin cX0_begin 2 none) (wg_rm 2 0 0) (wg_Pc E A C [.ref (A (20 + i)), .ref (A (200 + h))]) (wg_Qv E (fun A1 C1 => A = A1 ∧ (∀ r, r ≠ 20 + i → r ≠ 24 + i → r ≠ 28 + i → C1 r = C r) ∧ C1 (20 + i) = some (.inr (0, [.ref (A (24 + i)), .int 0, .int (-2), .int (-2)])) ∧ C1 (24 + i) = some (.inr (3, [.ref (A (28 + i)), .int (nI 1)])) ∧ C1 (28 + i) = some (.inl (E.2.1 4, 11, .inr (.inr (.inr (.inr (va_up f 0 (some (A (200 + h))))))))))) 0 0 (wg_A E) := by
  refine wg_met (by decide) (Nat.le_of_ble_eq_true rfl) ?_
  intro p e s m below meth c ls F hr hlk hnm hP hS hl
  have F : wg_F p m c cX0_begin 2 s ([.ref (A (20 + i)), .ref (A (200 + h))] : List Value).toArray "LightChecks$Client" E := F
  have hx := F.1
  have hb := F.2.1
  have hml := F.2.2.1
  have hown := F.2.2.2.1
  have hts := F.2.2.2.2.1
  have hl : lv_has ls 2 [(0, .ref (A (20 + i))), (1, .ref (A (200 + h)))] := hl
  refine lv_aload_n hx hb dX0_begin_0 rfl (lv_at hl 0 rfl) ?_
  refine wg_get F hP f20i rfl iw_X0 0 (by decide) tb_112 rfl rfl dX0_begin_1 ?_
  refine lv_iconst (v := 0) hx hb dX0_begin_4 (by decide) ?_
  refine wg_cv hS (wg_rVN (As := [.int 0]) (rest := []) F hP hS (c_X3_cutTo l E A C (24 + i) (28 + i) n 0 (by omega) (by omega) f24i) ok_X3_cutTo nb_338 rfl rfl ⟨Nat.le_of_ble_eq_true rfl, Nat.le_of_ble_eq_true rfl⟩ f24i rfl rfl rfl hl.1 rfl (Nat.le_of_ble_eq_true rfl) dX0_begin_5 ⟨Nat.le_of_ble_eq_true rfl, Nat.le_of_ble_eq_true rfl⟩) (fun A1 C_5 H locs w_5 hP hS => ?_)
  obtain ⟨rfl, hC_5⟩ := w_5
  have f20i_c5 : C_5 (20 + i) = some (.inr (0, [.ref (A (24 + i)), .int co, .int rb, .int ra])) := by rw [hC_5]; rw [va_up_ne _ _ (by omega)]; exact f20i
  have f24i_c5 : C_5 (24 + i) = some (.inr (3, [.ref (A (28 + i)), .int (nI 0)])) := by rw [hC_5]; exact va_up_self _ _ _
  have f28i_c5 : C_5 (28 + i) = some (.inl (E.2.1 4, 11, .inr (.inr (.inr (.inr f))))) := by rw [hC_5]; rw [va_up_ne _ _ (by omega)]; exact f28i
  have f200h_c5 : C_5 (200 + h) = some (.inr (2, hv)) := by rw [hC_5]; rw [va_up_ne _ _ (by omega)]; exact f200h
  refine lv_aload_n hx hb dX0_begin_8 rfl (lv_at hl 0 rfl) ?_
  refine wg_get F hP f20i_c5 rfl iw_X0 0 (by decide) tb_112 rfl rfl dX0_begin_9 ?_
  refine lv_aload_n hx hb dX0_begin_12 rfl (lv_at hl 1 rfl) ?_
  refine wg_cv hS (wg_rVN (As := [.ref (A (200 + h))]) (rest := []) F hP hS (c_X3_add l E A C_5 (24 + i) (28 + i) 11 0 (200 + h) f hv (by decide) (by decide) (by omega) (by omega) (by omega) f24i_c5 f28i_c5 f200h_c5) ok_X3_add nb_345 rfl rfl ⟨Nat.le_of_ble_eq_true rfl, Nat.le_of_ble_eq_true rfl⟩ f24i_c5 rfl rfl rfl hl.1 rfl (Nat.le_of_ble_eq_true rfl) dX0_begin_13 ⟨Nat.le_of_ble_eq_true rfl, Nat.le_of_ble_eq_true rfl⟩) (fun A1 C_13 H locs w_13 hP hS => ?_)
  obtain ⟨rfl, hC_13⟩ := w_13
  have f20i_c13 : C_13 (20 + i) = some (.inr (0, [.ref (A (24 + i)), .int co, .int rb, .int ra])) := by rw [hC_13]; rw [va_up_ne _ _ (by omega)]; rw [va_up_ne _ _ (by omega)]; exact f20i_c5
  have f24i_c13 : C_13 (24 + i) = some (.inr (3, [.ref (A (28 + i)), .int (nI 1)])) := by rw [hC_13]; exact va_up_self _ _ _
  have f28i_c13 : C_13 (28 + i) = some (.inl (E.2.1 4, 11, .inr (.inr (.inr (.inr (va_up f 0 (some (A (200 + h))))))))) := by rw [hC_13]; rw [va_up_ne _ _ (by omega)]; exact va_up_self _ _ _
  have f200h_c13 : C_13 (200 + h) = some (.inr (2, hv)) := by rw [hC_13]; rw [va_up_ne _ _ (by omega)]; rw [va_up_ne _ _ (by omega)]; exact f200h_c5
  refine lv_aload_n hx hb dX0_begin_16 rfl (lv_at hl 0 rfl) ?_
  refine lv_iconst (v := 0) hx hb dX0_begin_17 (by decide) ?_
  refine wg_put F hP hS f20i_c13 rfl iw_X0 tyX0_ok nmX0 1 (by decide) tb_114 rfl rfl rfl (Nat.le_of_ble_eq_true rfl) dX0_begin_18 (fun H locs hP hS => ?_)
  obtain ⟨C_18, hC_18⟩ : ∃ z : wg_C, z = va_up C_13 (20 + i) (some (.inr (0, [.ref (A (24 + i)), .int 0, .int rb, .int ra]))) := ⟨_, rfl⟩
  have hP : wg_P E A C_18 H := by rw [hC_18]; exact hP
  have f20i_c18 : C_18 (20 + i) = some (.inr (0, [.ref (A (24 + i)), .int 0, .int rb, .int ra])) := by rw [hC_18]; exact va_up_self _ _ _
  have f24i_c18 : C_18 (24 + i) = some (.inr (3, [.ref (A (28 + i)), .int (nI 1)])) := by rw [hC_18]; rw [va_up_ne _ _ (by omega)]; exact f24i_c13
  have f28i_c18 : C_18 (28 + i) = some (.inl (E.2.1 4, 11, .inr (.inr (.inr (.inr (va_up f 0 (some (A (200 + h))))))))) := by rw [hC_18]; rw [va_up_ne _ _ (by omega)]; exact f28i_c13
  have f200h_c18 : C_18 (200 + h) = some (.inr (2, hv)) := by rw [hC_18]; rw [va_up_ne _ _ (by omega)]; exact f200h_c13
  refine lv_aload_n hx hb dX0_begin_21 rfl (lv_at hl 0 rfl) ?_
  refine lv_bipush (v := (-2)) hx hb dX0_begin_22 (by decide) ?_
  refine wg_put F hP hS f20i_c18 rfl iw_X0 tyX0_ok nmX0 2 (by decide) tb_116 rfl rfl rfl (Nat.le_of_ble_eq_true rfl) dX0_begin_24 (fun H locs hP hS => ?_)
  obtain ⟨C_24, hC_24⟩ : ∃ z : wg_C, z = va_up C_18 (20 + i) (some (.inr (0, [.ref (A (24 + i)), .int 0, .int ((-2)), .int ra]))) := ⟨_, rfl⟩
  have hP : wg_P E A C_24 H := by rw [hC_24]; exact hP
  have f20i_c24 : C_24 (20 + i) = some (.inr (0, [.ref (A (24 + i)), .int 0, .int ((-2)), .int ra])) := by rw [hC_24]; exact va_up_self _ _ _
  have f24i_c24 : C_24 (24 + i) = some (.inr (3, [.ref (A (28 + i)), .int (nI 1)])) := by rw [hC_24]; rw [va_up_ne _ _ (by omega)]; exact f24i_c18
  have f28i_c24 : C_24 (28 + i) = some (.inl (E.2.1 4, 11, .inr (.inr (.inr (.inr (va_up f 0 (some (A (200 + h))))))))) := by rw [hC_24]; rw [va_up_ne _ _ (by omega)]; exact f28i_c18
  have f200h_c24 : C_24 (200 + h) = some (.inr (2, hv)) := by rw [hC_24]; rw [va_up_ne _ _ (by omega)]; exact f200h_c18
  refine lv_aload_n hx hb dX0_begin_27 rfl (lv_at hl 0 rfl) ?_
  refine lv_bipush (v := (-2)) hx hb dX0_begin_28 (by decide) ?_
  refine wg_put F hP hS f20i_c24 rfl iw_X0 tyX0_ok nmX0 3 (by decide) tb_118 rfl rfl rfl (Nat.le_of_ble_eq_true rfl) dX0_begin_30 (fun H locs hP hS => ?_)
  obtain ⟨C_30, hC_30⟩ : ∃ z : wg_C, z = va_up C_24 (20 + i) (some (.inr (0, [.ref (A (24 + i)), .int 0, .int ((-2)), .int ((-2))]))) := ⟨_, rfl⟩
  have hP : wg_P E A C_30 H := by rw [hC_30]; exact hP
  have f20i_c30 : C_30 (20 + i) = some (.inr (0, [.ref (A (24 + i)), .int 0, .int ((-2)), .int ((-2))])) := by rw [hC_30]; exact va_up_self _ _ _
  have f24i_c30 : C_30 (24 + i) = some (.inr (3, [.ref (A (28 + i)), .int (nI 1)])) := by rw [hC_30]; rw [va_up_ne _ _ (by omega)]; exact f24i_c24
  have f28i_c30 : C_30 (28 + i) = some (.inl (E.2.1 4, 11, .inr (.inr (.inr (.inr (va_up f 0 (some (A (200 + h))))))))) := by rw [hC_30]; rw [va_up_ne _ _ (by omega)]; exact f28i_c24
  have f200h_c30 : C_30 (200 + h) = some (.inr (2, hv)) := by rw [hC_30]; rw [va_up_ne _ _ (by omega)]; exact f200h_c24
  exact wg_vret F hP hS hr hlk (⟨rfl, fun r h1 h2 h3 => by rw [hC_30, va_up_ne _ _ h1, hC_24, va_up_ne _ _ h1, hC_18, va_up_ne _ _ h1, hC_13, va_up_ne _ _ h2, va_up_ne _ _ h3, hC_5, va_up_ne _ _ h2], f20i_c30, f24i_c30, f28i_c30⟩) dX0_begin_33
set_option maxHeartbeats 4000000 in
set_option maxRecDepth 100000 in
theorem c_X0_keep (l : Launch) (E : wg_E) (A : Nat → Nat) (C : wg_C) (i n : Nat) (f : Nat → Option Nat) (co rb ra : Int32) (g : Nat → Nat) (B : lc_B) (h mo : Nat) (hi : i < 4) (hn : n ≤ 10) (hm1 : 1 ≤ mo) (hm2 : mo ≤ 10) (hf : ∀ j, j < n → f j = some (A (200 + g j))) (hg : ∀ j, j < n → g j < lc_nh B) (hDB : lc_DB A C B) (hh : h < lc_nh B) (f20i : C (20 + i) = some (.inr (0, [.ref (A (24 + i)), .int co, .int rb, .int ra]))) (f24i : C (24 + i) = some (.inr (3, [.ref (A (28 + i)), .int (nI n)]))) (f28i : C (28 + i) = some (.inl (E.2.1 4, 11, .inr (.inr (.inr (.inr f)))))) : Met l yX0_keep (wg_ws yX0_keep cX0_keep 5 none) (wg_rm 2 0 0) (wg_Pc E A C [.ref (A (20 + i)), .ref (A (200 + h)), .int (nI mo)]) (wg_Qv E (fun A1 C1 => A = A1 ∧ (∀ r, r ≠ 24 + i → r ≠ 28 + i → C1 r = C r) ∧ C1 (24 + i) = some (.inr (3, [.ref (A (28 + i)), .int (nI (lc_kn n mo))])) ∧ ∃ f1 : Nat → Option Nat, C1 (28 + i) = some (.inl (E.2.1 4, 11, .inr (.inr (.inr (.inr f1))))) ∧ ∀ j, j < lc_kn n mo → f1 j = some (A (200 + lc_kg n mo g h j)))) 0 0 (wg_A E) := by
  refine wg_met (by decide) (Nat.le_of_ble_eq_true rfl) ?_
  intro p e s m below meth c ls F hr hlk hnm hP hS hl
  have F : wg_F p m c cX0_keep 5 s ([.ref (A (20 + i)), .ref (A (200 + h)), .int (nI mo)] : List Value).toArray "LightChecks$Client" E := F
  have hx := F.1
  have hb := F.2.1
  have hml := F.2.2.1
  have hown := F.2.2.2.1
  have hts := F.2.2.2.2.1
  have hl : lv_has ls 5 [(0, .ref (A (20 + i))), (1, .ref (A (200 + h))), (2, .int (nI mo))] := hl
  have fh_h : C (200 + h) = some (.inr (2, [.int (nI h), .int (nI (lc_hh B h)), .long (lc_hp B h), .ref (A (100 + lc_ho B h)), .ref (A (100 + lc_hx B h)), .long (lc_hr B h), .long (lc_dig B h), .int (nI (lc_sg B h))])) := hDB.2.1 h hh
  have hfp := lc_upf (h := h) hf
  have hgp := lc_upg hg hh
  refine lv_aload_n hx hb dX0_keep_0 rfl (lv_at hl 0 rfl) ?_
  refine wg_get F hP f20i rfl iw_X0 0 (by decide) tb_112 rfl rfl dX0_keep_1 ?_
  refine lv_aload_n hx hb dX0_keep_4 rfl (lv_at hl 1 rfl) ?_
  refine wg_cv hS (wg_rVN (As := [.ref (A (200 + h))]) (rest := []) F hP hS (c_X3_add l E A C (24 + i) (28 + i) 11 n (200 + h) f _ (by omega) (by decide) (by omega) (by omega) (by omega) f24i f28i fh_h) ok_X3_add nb_345 rfl rfl ⟨Nat.le_of_ble_eq_true rfl, Nat.le_of_ble_eq_true rfl⟩ f24i rfl rfl rfl hl.1 rfl (Nat.le_of_ble_eq_true rfl) dX0_keep_5 ⟨Nat.le_of_ble_eq_true rfl, Nat.le_of_ble_eq_true rfl⟩) (fun A1 C_5 H locs w_5 hP hS => ?_)
  obtain ⟨rfl, hC_5⟩ := w_5
  have f20i_c5 : C_5 (20 + i) = some (.inr (0, [.ref (A (24 + i)), .int co, .int rb, .int ra])) := by rw [hC_5]; rw [va_up_ne _ _ (by omega)]; rw [va_up_ne _ _ (by omega)]; exact f20i
  have f24i_c5 : C_5 (24 + i) = some (.inr (3, [.ref (A (28 + i)), .int (nI (n + 1))])) := by rw [hC_5]; exact va_up_self _ _ _
  have f28i_c5 : C_5 (28 + i) = some (.inl (E.2.1 4, 11, .inr (.inr (.inr (.inr (va_up f n (some (A (200 + h))))))))) := by rw [hC_5]; rw [va_up_ne _ _ (by omega)]; exact va_up_self _ _ _
  have fh_h_c5 : C_5 (200 + h) = some (.inr (2, [.int (nI h), .int (nI (lc_hh B h)), .long (lc_hp B h), .ref (A (100 + lc_ho B h)), .ref (A (100 + lc_hx B h)), .long (lc_hr B h), .long (lc_dig B h), .int (nI (lc_sg B h))])) := by rw [hC_5]; rw [va_up_ne _ _ (by omega)]; rw [va_up_ne _ _ (by omega)]; exact fh_h
  refine lv_aload_n hx hb dX0_keep_8 rfl (lv_at hl 0 rfl) ?_
  refine wg_get F hP f20i_c5 rfl iw_X0 0 (by decide) tb_112 rfl rfl dX0_keep_9 ?_
  refine wg_getN F hP f24i_c5 rfl iw_X3 1 (by decide) nb_35 rfl rfl dX0_keep_12 ?_
  refine lv_iload_n hx hb dX0_keep_15 rfl (lv_at hl 2 rfl) ?_
  refine lv_isub hx hb dX0_keep_16 ?_
  refine lv_topi (fun x_17 ex_17 => ?_)
  refine lv_istore_n (lv' := [(3, .int x_17), (0, .ref (A (20 + i))), (1, .ref (A (200 + h))), (2, .int (nI mo))]) hx hb dX0_keep_17 rfl hl (by decide) rfl (fun ls hl => ?_)
  have hgo : 0 < x_17 ↔ mo < n + 1 := by rw [ex_17]; exact lc_rise0 (by omega) (by omega)
  refine lv_iload_n hx hb dX0_keep_18 rfl (lv_at hl 0 rfl) ?_
  refine lv_if_gt (tgt := 23) hx hb dX0_keep_19 (by decide) (fun c_19 => ?_) (fun c_19 => ?_)
  · rw [hgo] at c_19
    have ex3 : x_17 = nI (n + 1 - mo) := by rw [ex_17, pk_sub (by omega)]
    have hkn : lc_kn n mo = mo := if_neg (by omega)
    refine lv_iconst (v := 1) hx hb dX0_keep_23 (by decide) ?_
    refine lv_istore (lv' := [(4, .int 1), (3, .int x_17), (0, .ref (A (20 + i))), (1, .ref (A (200 + h))), (2, .int (nI mo))]) hx hb dX0_keep_24 hl (by decide) rfl (fun ls hl => ?_)
    have loop_26 : ∀ (fuel : Nat) (j : Nat) (x4 : Int32) (fi : Nat → Option Nat), mo - j < fuel → (1 ≤ j) → (j ≤ mo) → (x4 = nI j) → (∀ k, k < n + 1 → fi k = (if 1 ≤ k ∧ k < j then (va_up f n (some (A (200 + h)))) (k + (n + 1 - mo)) else (va_up f n (some (A (200 + h)))) k)) → ∀ (Cw : wg_C) , Cw (20 + i) = some (.inr (0, [.ref (A (24 + i)), .int co, .int rb, .int ra])) → Cw (24 + i) = some (.inr (3, [.ref (A (28 + i)), .int (nI (n + 1))])) → Cw (28 + i) = some (.inl (E.2.1 4, 11, .inr (.inr (.inr (.inr fi))))) → (∀ r, r ≠ 24 + i → r ≠ 28 + i → Cw r = C r) → ∀ (H : Heap) (locs : List Loc) (ls : Array Slot), wg_P E A Cw H → va_S (wg_A E) s.heap H locs → lv_has ls 5 [(0, .ref (A (20 + i))), (2, .int (nI mo)), (3, .int x_17), (4, .int x4)] → W p l e (wg_rm 2 0 0) s m ([.ref (A (20 + i)), .ref (A (200 + h)), .int (nI mo)] : List Value).toArray below meth c H locs 0 0 (MQ below (wg_Qv E (fun A1 C1 => A = A1 ∧ (∀ r, r ≠ 24 + i → r ≠ 28 + i → C1 r = C r) ∧ C1 (24 + i) = some (.inr (3, [.ref (A (28 + i)), .int (nI (lc_kn n mo))])) ∧ ∃ f1 : Nat → Option Nat, C1 (28 + i) = some (.inl (E.2.1 4, 11, .inr (.inr (.inr (.inr f1))))) ∧ ∀ j, j < lc_kn n mo → f1 j = some (A (200 + lc_kg n mo g h j)))) ([.ref (A (20 + i)), .ref (A (200 + h)), .int (nI mo)] : List Value).toArray s 0 0 (wg_A E)) (F0 m 26 ls []) := by
      intro fuel
      induction fuel with
      | zero => intro j x4 fi hm; exact absurd hm (Nat.not_lt_zero _)
      | succ fuel ih_loop_26 =>
        intro j x4 fi hm_loop_26 hj1 hj ex4 hfi Cw f20iw f24iw f28iw hbase H locs ls hP hS hl
        subst ex4
        have hDBw : lc_DB A Cw B := hDB.same (fun r h1 h2 => hbase r (by omega) (by omega))
        refine lv_iload hx hb dX0_keep_26 (lv_at hl 3 rfl) ?_
        refine lv_iload_n hx hb dX0_keep_28 rfl (lv_at hl 1 rfl) ?_
        refine lv_icmp_ge (tgt := 58) hx hb dX0_keep_29 (by decide) (fun c_29 => ?_) (fun c_29 => ?_)
        · rw [nI_leI (by omega) (by omega)] at c_29
          have hje : j = mo := by omega
          refine lv_aload_n hx hb dX0_keep_58 rfl (lv_at hl 0 rfl) ?_
          refine wg_get F hP f20iw rfl iw_X0 0 (by decide) tb_112 rfl rfl dX0_keep_59 ?_
          refine lv_iload_n hx hb dX0_keep_62 rfl (lv_at hl 1 rfl) ?_
          refine wg_cv hS (wg_rVN (As := [.int (nI mo)]) (rest := []) F hP hS (c_X3_cutTo l E A Cw (24 + i) (28 + i) (n + 1) mo (by omega) (by omega) f24iw) ok_X3_cutTo nb_338 rfl rfl ⟨Nat.le_of_ble_eq_true rfl, Nat.le_of_ble_eq_true rfl⟩ f24iw rfl rfl rfl hl.1 rfl (Nat.le_of_ble_eq_true rfl) dX0_keep_63 ⟨Nat.le_of_ble_eq_true rfl, Nat.le_of_ble_eq_true rfl⟩) (fun A1 C_63 H locs w_63 hP hS => ?_)
          obtain ⟨rfl, hC_63⟩ := w_63
          have f20iw_c63 : C_63 (20 + i) = some (.inr (0, [.ref (A (24 + i)), .int co, .int rb, .int ra])) := by rw [hC_63]; rw [va_up_ne _ _ (by omega)]; exact f20iw
          have f24iw_c63 : C_63 (24 + i) = some (.inr (3, [.ref (A (28 + i)), .int (nI mo)])) := by rw [hC_63]; exact va_up_self _ _ _
          have f28iw_c63 : C_63 (28 + i) = some (.inl (E.2.1 4, 11, .inr (.inr (.inr (.inr fi))))) := by rw [hC_63]; rw [va_up_ne _ _ (by omega)]; exact f28iw
          exact wg_vret F hP hS hr hlk (⟨rfl, fun r h2 h3 => by rw [hC_63, va_up_ne _ _ h2, hbase r h2 h3], by rw [hkn]; exact f24iw_c63, _, f28iw_c63, fun k hk => by rw [hkn] at hk; exact lc_keepend (by omega) hje hk hfp hfi⟩) dX0_keep_66
        · rw [nI_leI (by omega) (by omega)] at c_29
          refine lv_aload_n hx hb dX0_keep_32 rfl (lv_at hl 0 rfl) ?_
          refine wg_get F hP f20iw rfl iw_X0 0 (by decide) tb_112 rfl rfl dX0_keep_33 ?_
          refine lv_iload hx hb dX0_keep_36 (lv_at hl 3 rfl) ?_
          refine lv_aload_n hx hb dX0_keep_38 rfl (lv_at hl 0 rfl) ?_
          refine wg_get F hP f20iw rfl iw_X0 0 (by decide) tb_112 rfl rfl dX0_keep_39 ?_
          refine lv_iload hx hb dX0_keep_42 (lv_at hl 3 rfl) ?_
          refine lv_iload_n hx hb dX0_keep_44 rfl (lv_at hl 2 rfl) ?_
          refine lv_iadd hx hb dX0_keep_45 ?_
          refine wg_cq hS (wg_rVN (As := [.int ((nI j) + x_17)]) (rest := [.int (nI j), .ref (A (24 + i))]) F hP hS (c_X3_at l E A Cw (24 + i) (28 + i) 11 (n + 1) fi _ (by omega) (by decide) f24iw f28iw) ok_X3_at nb_354 rfl rfl ⟨Nat.le_of_ble_eq_true rfl, Nat.le_of_ble_eq_true rfl⟩ f24iw rfl rfl rfl hl.1 rfl (Nat.le_of_ble_eq_true rfl) dX0_keep_46 ⟨Nat.le_of_ble_eq_true rfl, Nat.le_of_ble_eq_true rfl⟩) (fun r_46 A1 C_46 H locs w_46 hP hS => ?_)
          obtain ⟨w_46, rfl, rfl⟩ := w_46
          refine wg_some (w_46.trans (by rw [ex3, nI_add, lc_at_in (by omega) (by omega), hfi _ (by omega), if_neg (by omega), hfp _ (by omega)])) ?_
          have fh_g : Cw (200 + va_up g n h (j + (n + 1 - mo))) = some (.inr (2, [.int (nI (va_up g n h (j + (n + 1 - mo)))), .int (nI (lc_hh B (va_up g n h (j + (n + 1 - mo))))), .long (lc_hp B (va_up g n h (j + (n + 1 - mo)))), .ref (A (100 + lc_ho B (va_up g n h (j + (n + 1 - mo))))), .ref (A (100 + lc_hx B (va_up g n h (j + (n + 1 - mo))))), .long (lc_hr B (va_up g n h (j + (n + 1 - mo)))), .long (lc_dig B (va_up g n h (j + (n + 1 - mo)))), .int (nI (lc_sg B (va_up g n h (j + (n + 1 - mo)))))])) := hDBw.2.1 _ (hgp _ (by omega))
          refine wg_cv hS (wg_rVN (As := [.int (nI j), .ref (A (200 + va_up g n h (j + (n + 1 - mo))))]) (rest := []) F hP hS (c_X3_put l E A Cw (24 + i) (28 + i) 11 (n + 1) (200 + va_up g n h (j + (n + 1 - mo))) j fi _ (by omega) (by omega) (by decide) (by omega) (by omega) f24iw f28iw fh_g) ok_X3_put nb_375 rfl rfl ⟨Nat.le_of_ble_eq_true rfl, Nat.le_of_ble_eq_true rfl⟩ f24iw rfl rfl rfl hl.1 rfl (Nat.le_of_ble_eq_true rfl) dX0_keep_49 ⟨Nat.le_of_ble_eq_true rfl, Nat.le_of_ble_eq_true rfl⟩) (fun A1 C_49 H locs w_49 hP hS => ?_)
          obtain ⟨rfl, hC_49⟩ := w_49
          have f20iw_c49 : C_49 (20 + i) = some (.inr (0, [.ref (A (24 + i)), .int co, .int rb, .int ra])) := by rw [hC_49]; rw [va_up_ne _ _ (by omega)]; exact f20iw
          have f24iw_c49 : C_49 (24 + i) = some (.inr (3, [.ref (A (28 + i)), .int (nI (n + 1))])) := by rw [hC_49]; rw [va_up_ne _ _ (by omega)]; exact f24iw
          have f28iw_c49 : C_49 (28 + i) = some (.inl (E.2.1 4, 11, .inr (.inr (.inr (.inr (va_up fi j (some (A (200 + va_up g n h (j + (n + 1 - mo))))))))))) := by rw [hC_49]; exact va_up_self _ _ _
          have fh_g_c49 : C_49 (200 + va_up g n h (j + (n + 1 - mo))) = some (.inr (2, [.int (nI (va_up g n h (j + (n + 1 - mo)))), .int (nI (lc_hh B (va_up g n h (j + (n + 1 - mo))))), .long (lc_hp B (va_up g n h (j + (n + 1 - mo)))), .ref (A (100 + lc_ho B (va_up g n h (j + (n + 1 - mo))))), .ref (A (100 + lc_hx B (va_up g n h (j + (n + 1 - mo))))), .long (lc_hr B (va_up g n h (j + (n + 1 - mo)))), .long (lc_dig B (va_up g n h (j + (n + 1 - mo)))), .int (nI (lc_sg B (va_up g n h (j + (n + 1 - mo)))))])) := by rw [hC_49]; rw [va_up_ne _ _ (by omega)]; exact fh_g
          have hfn := lc_keepstep (A := A) (f := f) (g := g) (h := h) (by omega) (by omega) (by omega) hfp hfi
          obtain ⟨x_52, ex_52⟩ : ∃ y : Int32, y = nI j + 1 := ⟨_, rfl⟩
          refine lv_iinc (v := x_52) (lv' := [(4, .int x_52), (0, .ref (A (20 + i))), (2, .int (nI mo)), (3, .int x_17)]) hx hb dX0_keep_52 hl (k := 3) rfl (by rw [ex_52]; rfl) (by decide) rfl (fun ls hl => ?_)
          refine lv_goto (tgt := 26) hx hb dX0_keep_55 (by decide) ?_
          exact ih_loop_26 (j + 1) x_52 (va_up fi j (some (A (200 + va_up g n h (j + (n + 1 - mo)))))) (by omega) (by omega) (by omega) (by rw [ex_52, nI_1]) hfn C_49 f20iw_c49 f24iw_c49 f28iw_c49 (fun r h2 h3 => by rw [hC_49, va_up_ne _ _ h3, hbase r h2 h3]) _ _ _ hP hS (lv_sub hl [1, 2, 3, 0] rfl)
    exact loop_26 _ 1 1 (va_up f n (some (A (200 + h)))) (Nat.lt_succ_self _) (Nat.le_refl 1) hm1 rfl (fun k hk => by rw [if_neg (by omega)]) C_5 f20i_c5 f24i_c5 f28i_c5 (fun r h2 h3 => by rw [hC_5, va_up_ne _ _ h2, va_up_ne _ _ h3]) _ _ _ hP hS (lv_sub hl [2, 4, 1, 0] rfl)
  · rw [hgo] at c_19
    have hkn : lc_kn n mo = n + 1 := if_pos (by omega)
    exact wg_vret F hP hS hr hlk (⟨rfl, fun r h2 h3 => by rw [hC_5, va_up_ne _ _ h2, va_up_ne _ _ h3], by rw [hkn]; exact f24i_c5, _, f28i_c5, fun j hj => by rw [hkn] at hj; rw [hfp j hj]; unfold lc_kg; rw [if_pos (by omega)]⟩) dX0_keep_22
set_option maxHeartbeats 4000000 in
set_option maxRecDepth 100000 in
theorem c_X1_replace (l : Launch) (E : wg_E) (A : Nat → Nat) (C : wg_C) (i n : Nat) (f : Nat → Option Nat) (g : Nat → Nat) (B : lc_B) (h : Nat) (hi : i < 4) (hn : n ≤ 60) (hf : ∀ j, j < n → f j = some (A (200 + g j))) (hg : ∀ j, j < n → g j < lc_nh B) (hDB : lc_DB A C B) (hh : h < lc_nh B) (hroom : lc_pl (fun k => lc_hh B (g k)) (lc_hh B h) n = none → n < 60) (f32i : C (32 + i) = some (.inr (1, [.ref (A (36 + i))]))) (f36i : C (36 + i) = some (.inr (3, [.ref (A (40 + i)), .int (nI n)]))) (f40i : C (40 + i) = some (.inl (E.2.1 4, 60, .inr (.inr (.inr (.inr f)))))) : Met l yX1_replace (wg_ws yX1_replace cX1_replace 4 (some (.object "LightChecks$Head"))) (wg_rm 2 0 0) (wg_Pc E A C [.ref (A (32 + i)), .ref (A (200 + h))]) (wg_Qq E (fun r A1 C1 => r = (lc_pl (fun k => lc_hh B (g k)) (lc_hh B h) n).map (fun k => A (200 + g k)) ∧ A = A1 ∧ (∀ r, r ≠ 36 + i → r ≠ 40 + i → C1 r = C r) ∧ C1 (36 + i) = some (.inr (3, [.ref (A (40 + i)), .int (nI (lc_gn n (lc_pl (fun k => lc_hh B (g k)) (lc_hh B h) n)))])) ∧ ∃ f1 : Nat → Option Nat, C1 (40 + i) = some (.inl (E.2.1 4, 60, .inr (.inr (.inr (.inr f1))))) ∧ ∀ j, j < lc_gn n (lc_pl (fun k => lc_hh B (g k)) (lc_hh B h) n) → f1 j = some (A (200 + lc_gg n g h (lc_pl (fun k => lc_hh B (g k)) (lc_hh B h) n) j)))) 0 0 (wg_A E) := by
  refine wg_met (by decide) (Nat.le_of_ble_eq_true rfl) ?_
  intro p e s m below meth c ls F hr hlk hnm hP hS hl
  have F : wg_F p m c cX1_replace 4 s ([.ref (A (32 + i)), .ref (A (200 + h))] : List Value).toArray "LightChecks$Giver" E := F
  have hx := F.1
  have hb := F.2.1
  have hml := F.2.2.1
  have hown := F.2.2.2.1
  have hts := F.2.2.2.2.1
  have hl : lv_has ls 4 [(0, .ref (A (32 + i))), (1, .ref (A (200 + h)))] := hl
  have fh_h : C (200 + h) = some (.inr (2, [.int (nI h), .int (nI (lc_hh B h)), .long (lc_hp B h), .ref (A (100 + lc_ho B h)), .ref (A (100 + lc_hx B h)), .long (lc_hr B h), .long (lc_dig B h), .int (nI (lc_sg B h))])) := hDB.2.1 h hh
  obtain ⟨hq1_h, hq2_h, hq3_h, hq4_h⟩ := hDB.2.2.2.2.2 h hh
  have fo_h : C (100 + lc_ho B h) = some (.inr (6, [.int (nI (lc_ho B h)), .long (lN (lc_sa B (lc_ho B h))), .long (lN (lc_sb B (lc_ho B h))), .int (nI (lc_tot (lc_sa B (lc_ho B h)) (lc_sb B (lc_ho B h))))])) := hDB.1 _ hq2_h
  have fx_h : C (100 + lc_hx B h) = some (.inr (6, [.int (nI (lc_hx B h)), .long (lN (lc_sa B (lc_hx B h))), .long (lN (lc_sb B (lc_hx B h))), .int (nI (lc_tot (lc_sa B (lc_hx B h)) (lc_sb B (lc_hx B h))))])) := hDB.1 _ hq3_h
  refine lv_aload_n hx hb dX1_replace_0 rfl (lv_at hl 0 rfl) ?_
  refine lv_aload_n hx hb dX1_replace_1 rfl (lv_at hl 1 rfl) ?_
  refine wg_getN F hP fh_h rfl iw_X2 1 (by decide) nb_249 rfl rfl dX1_replace_2 ?_
  refine wg_ci hS (wg_rV (As := [.int (nI (lc_hh B h))]) (rest := []) F hP hS (c_X1_placeOf l E A C i n f g B (lc_hh B h) hn hf hg hDB (by omega) f32i f36i f40i) ok_X1_placeOf tb_391 rfl rfl ⟨Nat.le_of_ble_eq_true rfl, Nat.le_of_ble_eq_true rfl⟩ f32i rfl rfl rfl hl.1 rfl (Nat.le_of_ble_eq_true rfl) dX1_replace_5 ⟨Nat.le_of_ble_eq_true rfl, Nat.le_of_ble_eq_true rfl⟩) (fun r_5 A1 C_5 H locs w_5 hP hS => ?_)
  obtain ⟨w_5, rfl, rfl⟩ := w_5
  refine lv_istore_n (lv' := [(2, .int r_5), (0, .ref (A (32 + i))), (1, .ref (A (200 + h)))]) hx hb dX1_replace_8 rfl hl (by decide) rfl (fun ls hl => ?_)
  refine lv_aload_n hx hb dX1_replace_9 rfl (lv_at hl 1 rfl) ?_
  refine wg_get F hP f32i rfl iw_X1 0 (by decide) tb_136 rfl rfl dX1_replace_10 ?_
  refine lv_iload_n hx hb dX1_replace_13 rfl (lv_at hl 0 rfl) ?_
  refine wg_cq hS (wg_rVN (As := [.int r_5]) (rest := []) F hP hS (c_X3_at l E A C (36 + i) (40 + i) 60 n f _ hn (by decide) f36i f40i) ok_X3_at nb_395 rfl rfl ⟨Nat.le_of_ble_eq_true rfl, Nat.le_of_ble_eq_true rfl⟩ f36i rfl rfl rfl hl.1 rfl (Nat.le_of_ble_eq_true rfl) dX1_replace_14 ⟨Nat.le_of_ble_eq_true rfl, Nat.le_of_ble_eq_true rfl⟩) (fun r_14 A1 C_14 H locs w_14 hP hS => ?_)
  obtain ⟨w_14, rfl, rfl⟩ := w_14
  have w2 : r_14 = (lc_pl (fun k => lc_hh B (g k)) (lc_hh B h) n).map (fun k => A (200 + g k)) := by rw [w_14, w_5]; exact lc_headAt hn hf
  rcases hpl : lc_pl (fun k => lc_hh B (g k)) (lc_hh B h) n with _ | j
  · have hrm := hroom hpl
    refine wg_none (by rw [w2, hpl]; rfl) ?_
    refine lv_astore_nN (lv' := [(3, .null), (2, .int r_5), (0, .ref (A (32 + i))), (1, .ref (A (200 + h)))]) hx hb dX1_replace_17 rfl hl (by decide) rfl (fun ls hl => ?_)
    refine lv_aload_nN hx hb dX1_replace_18 rfl (lv_at hl 0 rfl) ?_
    refine lv_ifnonnullN hx hb dX1_replace_19 ?_
    refine lv_aload_n hx hb dX1_replace_22 rfl (lv_at hl 2 rfl) ?_
    refine wg_get F hP f32i rfl iw_X1 0 (by decide) tb_136 rfl rfl dX1_replace_23 ?_
    refine lv_aload_n hx hb dX1_replace_26 rfl (lv_at hl 3 rfl) ?_
    refine wg_cv hS (wg_rVN (As := [.ref (A (200 + h))]) (rest := []) F hP hS (c_X3_add l E A C (36 + i) (40 + i) 60 n (200 + h) f _ (by omega) (by decide) (by omega) (by omega) (by omega) f36i f40i fh_h) ok_X3_add nb_396 rfl rfl ⟨Nat.le_of_ble_eq_true rfl, Nat.le_of_ble_eq_true rfl⟩ f36i rfl rfl rfl hl.1 rfl (Nat.le_of_ble_eq_true rfl) dX1_replace_27 ⟨Nat.le_of_ble_eq_true rfl, Nat.le_of_ble_eq_true rfl⟩) (fun A1 C_27 H locs w_27 hP hS => ?_)
    obtain ⟨rfl, hC_27⟩ := w_27
    have f32i_c27 : C_27 (32 + i) = some (.inr (1, [.ref (A (36 + i))])) := by rw [hC_27]; rw [va_up_ne _ _ (by omega)]; rw [va_up_ne _ _ (by omega)]; exact f32i
    have f36i_c27 : C_27 (36 + i) = some (.inr (3, [.ref (A (40 + i)), .int (nI (n + 1))])) := by rw [hC_27]; exact va_up_self _ _ _
    have f40i_c27 : C_27 (40 + i) = some (.inl (E.2.1 4, 60, .inr (.inr (.inr (.inr (va_up f n (some (A (200 + h))))))))) := by rw [hC_27]; rw [va_up_ne _ _ (by omega)]; exact va_up_self _ _ _
    have fh_h_c27 : C_27 (200 + h) = some (.inr (2, [.int (nI h), .int (nI (lc_hh B h)), .long (lc_hp B h), .ref (A (100 + lc_ho B h)), .ref (A (100 + lc_hx B h)), .long (lc_hr B h), .long (lc_dig B h), .int (nI (lc_sg B h))])) := by rw [hC_27]; rw [va_up_ne _ _ (by omega)]; rw [va_up_ne _ _ (by omega)]; exact fh_h
    have fo_h_c27 : C_27 (100 + lc_ho B h) = some (.inr (6, [.int (nI (lc_ho B h)), .long (lN (lc_sa B (lc_ho B h))), .long (lN (lc_sb B (lc_ho B h))), .int (nI (lc_tot (lc_sa B (lc_ho B h)) (lc_sb B (lc_ho B h))))])) := by rw [hC_27]; rw [va_up_ne _ _ (by omega)]; rw [va_up_ne _ _ (by omega)]; exact fo_h
    have fx_h_c27 : C_27 (100 + lc_hx B h) = some (.inr (6, [.int (nI (lc_hx B h)), .long (lN (lc_sa B (lc_hx B h))), .long (lN (lc_sb B (lc_hx B h))), .int (nI (lc_tot (lc_sa B (lc_hx B h)) (lc_sb B (lc_hx B h))))])) := by rw [hC_27]; rw [va_up_ne _ _ (by omega)]; rw [va_up_ne _ _ (by omega)]; exact fx_h
    refine lv_goto (tgt := 42) hx hb dX1_replace_30 (by decide) ?_
    refine lv_aload_nN hx hb dX1_replace_42 rfl (lv_at hl 0 rfl) ?_
    exact wg_qret (v := none) F hP hS hr ⟨_, rfl⟩ hlk (⟨rfl, rfl, fun r h2 h3 => by rw [hC_27, va_up_ne _ _ h2, va_up_ne _ _ h3], f36i_c27, _, f40i_c27, fun k hk => lc_upf (h := h) hf k hk⟩) dX1_replace_43
  · have hjn := (lc_pl_of hpl).1
    have e5 : r_5 = nI j := by rw [w_5, hpl]; rfl
    refine wg_some (x := A (200 + g j)) (by rw [w2, hpl]; rfl) ?_
    refine lv_astore_n (lv' := [(3, .ref (A (200 + g j))), (2, .int r_5), (0, .ref (A (32 + i))), (1, .ref (A (200 + h)))]) hx hb dX1_replace_17 rfl hl (by decide) rfl (fun ls hl => ?_)
    refine lv_aload_n hx hb dX1_replace_18 rfl (lv_at hl 0 rfl) ?_
    refine lv_ifnonnull (tgt := 33) hx hb dX1_replace_19 (by decide) ?_
    subst e5
    refine lv_aload_n hx hb dX1_replace_33 rfl (lv_at hl 2 rfl) ?_
    refine wg_get F hP f32i rfl iw_X1 0 (by decide) tb_136 rfl rfl dX1_replace_34 ?_
    refine lv_iload_n hx hb dX1_replace_37 rfl (lv_at hl 1 rfl) ?_
    refine lv_aload_n hx hb dX1_replace_38 rfl (lv_at hl 3 rfl) ?_
    refine wg_cv hS (wg_rVN (As := [.int (nI j), .ref (A (200 + h))]) (rest := []) F hP hS (c_X3_put l E A C (36 + i) (40 + i) 60 n (200 + h) j f _ hjn hn (by decide) (by omega) (by omega) f36i f40i fh_h) ok_X3_put nb_397 rfl rfl ⟨Nat.le_of_ble_eq_true rfl, Nat.le_of_ble_eq_true rfl⟩ f36i rfl rfl rfl hl.1 rfl (Nat.le_of_ble_eq_true rfl) dX1_replace_39 ⟨Nat.le_of_ble_eq_true rfl, Nat.le_of_ble_eq_true rfl⟩) (fun A1 C_39 H locs w_39 hP hS => ?_)
    obtain ⟨rfl, hC_39⟩ := w_39
    have f32i_c39 : C_39 (32 + i) = some (.inr (1, [.ref (A (36 + i))])) := by rw [hC_39]; rw [va_up_ne _ _ (by omega)]; exact f32i
    have f36i_c39 : C_39 (36 + i) = some (.inr (3, [.ref (A (40 + i)), .int (nI n)])) := by rw [hC_39]; rw [va_up_ne _ _ (by omega)]; exact f36i
    have f40i_c39 : C_39 (40 + i) = some (.inl (E.2.1 4, 60, .inr (.inr (.inr (.inr (va_up f j (some (A (200 + h))))))))) := by rw [hC_39]; exact va_up_self _ _ _
    have fh_h_c39 : C_39 (200 + h) = some (.inr (2, [.int (nI h), .int (nI (lc_hh B h)), .long (lc_hp B h), .ref (A (100 + lc_ho B h)), .ref (A (100 + lc_hx B h)), .long (lc_hr B h), .long (lc_dig B h), .int (nI (lc_sg B h))])) := by rw [hC_39]; rw [va_up_ne _ _ (by omega)]; exact fh_h
    have fo_h_c39 : C_39 (100 + lc_ho B h) = some (.inr (6, [.int (nI (lc_ho B h)), .long (lN (lc_sa B (lc_ho B h))), .long (lN (lc_sb B (lc_ho B h))), .int (nI (lc_tot (lc_sa B (lc_ho B h)) (lc_sb B (lc_ho B h))))])) := by rw [hC_39]; rw [va_up_ne _ _ (by omega)]; exact fo_h
    have fx_h_c39 : C_39 (100 + lc_hx B h) = some (.inr (6, [.int (nI (lc_hx B h)), .long (lN (lc_sa B (lc_hx B h))), .long (lN (lc_sb B (lc_hx B h))), .int (nI (lc_tot (lc_sa B (lc_hx B h)) (lc_sb B (lc_hx B h))))])) := by rw [hC_39]; rw [va_up_ne _ _ (by omega)]; exact fx_h
    refine lv_aload_n hx hb dX1_replace_42 rfl (lv_at hl 0 rfl) ?_
    exact wg_qret (v := some (A (200 + g j))) F hP hS hr ⟨_, rfl⟩ hlk (⟨rfl, rfl, fun r h2 h3 => by rw [hC_39, va_up_ne _ _ h3], f36i_c39, _, f40i_c39, fun k hk => lc_updp (h := h) hf k hk⟩) dX1_replace_43
