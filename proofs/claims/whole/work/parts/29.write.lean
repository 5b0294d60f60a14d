set_option maxHeartbeats 4000000 in
set_option maxRecDepth 100000 in
theorem c_X7_sign (l : Launch) (E : wg_E) (A : Nat → Nat) (C : wg_C) (S : lc_S) (h n : Int32) (hX : lx E A C S) (hI : lc_inv S)  : Met l yX7_sign (wg_ws yX7_sign cX7_sign 5 (some .int)) (wg_rm 2 0 0) (wg_Pc E A C [.ref (A 0), .int h, .int n]) (wg_Qi E (fun r A1 C1 => A = A1 ∧ r = (op_sign S h n).1 ∧ lx E A C1 (op_sign S h n).2 ∧ ∀ q, 1000 ≤ q → C1 q = C q)) 0 0 (wg_A E) := by
  refine wg_met (by decide) (Nat.le_of_ble_eq_true rfl) ?_
  intro p e s m below meth c ls F hr hlk hnm hP hS hl
  have F : wg_F p m c cX7_sign 5 s ([.ref (A 0), .int h, .int n] : List Value).toArray "LightChecks" E := F
  have hx := F.1
  have hb := F.2.1
  have hml := F.2.2.1
  have hown := F.2.2.2.1
  have hts := F.2.2.2.2.1
  have hl : lv_has ls 5 [(0, .ref (A 0)), (1, .int h), (2, .int n)] := hl
  obtain ⟨x0, ⟨f1, x1, x1f⟩, x2, ⟨f3, x3, x3f⟩, x4, ⟨f5, x5, x5f⟩, ⟨f6, x6, x6f⟩, ⟨f7, x7⟩, ⟨x8, x9, nd, x10, hnd⟩, ⟨x11, x12, rk, x13⟩, xc, xg, hDB⟩ := id hX
  obtain ⟨iok, ⟨itm, itm3a, itm3b⟩, icl, igv, ipa, ipb, ipab⟩ := id hI
  have ins := iok.1
  have inh := iok.2.1
  refine lv_aload_n hx hb dX7_sign_0 rfl (lv_at hl 0 rfl) ?_
  refine wg_get F hP x0 rfl iw_X7 2 (by decide) tb_165 rfl rfl dX7_sign_1 ?_
  refine lv_iload_n hx hb dX7_sign_4 rfl (lv_at hl 1 rfl) ?_
  refine wg_cq hS (wg_rVN (As := [.int h]) (rest := []) F hP hS (c_X3_at l E A C 2 3 60 (lc_nh (st_B S)) f3 h inh (by decide) x2 x3) ok_X3_at nb_291 rfl rfl ⟨Nat.le_of_ble_eq_true rfl, Nat.le_of_ble_eq_true rfl⟩ x2 rfl rfl rfl hl.1 rfl (Nat.le_of_ble_eq_true rfl) dX7_sign_5 ⟨Nat.le_of_ble_eq_true rfl, Nat.le_of_ble_eq_true rfl⟩) (fun r_5 A1 C_5 H locs w_5 hP hS => ?_)
  obtain ⟨w_5, rfl, rfl⟩ := w_5
  rcases hx_j : lc_ix h (lc_nh (st_B S)) with _ | j
  · refine wg_none (by rw [w_5, lc_at_ix (by omega) x3f, hx_j]; rfl) ?_
    refine lv_astore_nN (lv' := [(3, .null), (0, .ref (A 0)), (1, .int h), (2, .int n)]) hx hb dX7_sign_8 rfl hl (by decide) rfl (fun ls hl => ?_)
    refine lv_aload_nN hx hb dX7_sign_9 rfl (lv_at hl 0 rfl) ?_
    refine lv_ifnullN (tgt := 23) hx hb dX7_sign_10 (by decide) ?_
    have hop : op_sign S h n = (-1, S) := by unfold op_sign; rw [hx_j]
    refine lv_iconst (v := (-1)) hx hb dX7_sign_23 (by decide) ?_
    exact wg_iret F hP hS hr hlk (⟨rfl, by rw [hop], by rw [hop]; exact hX, fun _ _ => rfl⟩) dX7_sign_24
  · refine wg_some (x := A (200 + j)) (by rw [w_5, lc_at_ix (by omega) x3f, hx_j]; rfl) ?_
    obtain ⟨hj, ej, tj⟩ := lc_ix_some hx_j
    have xh_j : C (200 + j) = some (.inr (2, [.int (nI j), .int (nI (lc_hh (st_B S) j)), .long (lc_hp (st_B S) j), .ref (A (100 + lc_ho (st_B S) j)), .ref (A (100 + lc_hx (st_B S) j)), .long (lc_hr (st_B S) j), .long (lc_dig (st_B S) j), .int (nI (lc_sg (st_B S) j))])) := hDB.2.1 _ hj
    obtain ⟨hk1_j, hk2_j, hk3_j, hk4_j⟩ := iok.2.2.2 _ hj
    have xho_j : C (100 + lc_ho (st_B S) j) = some (.inr (6, [.int (nI ((lc_ho (st_B S) j))), .long (lN (lc_sa (st_B S) ((lc_ho (st_B S) j)))), .long (lN (lc_sb (st_B S) ((lc_ho (st_B S) j)))), .int (nI (lc_tot (lc_sa (st_B S) ((lc_ho (st_B S) j))) (lc_sb (st_B S) ((lc_ho (st_B S) j)))))])) := hDB.1 _ hk2_j
    have xhx_j : C (100 + lc_hx (st_B S) j) = some (.inr (6, [.int (nI ((lc_hx (st_B S) j))), .long (lN (lc_sa (st_B S) ((lc_hx (st_B S) j)))), .long (lN (lc_sb (st_B S) ((lc_hx (st_B S) j)))), .int (nI (lc_tot (lc_sa (st_B S) ((lc_hx (st_B S) j))) (lc_sb (st_B S) ((lc_hx (st_B S) j)))))])) := hDB.1 _ hk3_j
    refine lv_astore_n (lv' := [(3, .ref (A (200 + j))), (0, .ref (A 0)), (1, .int h), (2, .int n)]) hx hb dX7_sign_8 rfl hl (by decide) rfl (fun ls hl => ?_)
    refine lv_aload_n hx hb dX7_sign_9 rfl (lv_at hl 0 rfl) ?_
    refine lv_ifnull hx hb dX7_sign_10 ?_
    refine lv_iload_n hx hb dX7_sign_13 rfl (lv_at hl 3 rfl) ?_
    refine lv_if_lt (tgt := 23) hx hb dX7_sign_14 (by decide) (fun c_14 => ?_) (fun c_14 => ?_)
    · simp only [Int32.lt_iff_toInt_lt, Int32.le_iff_toInt_le, ← Int32.toInt_inj, lc_t0i, lc_t1i, lc_t2i, lc_tm1i, lc_t6i, lc_t4i, lc_t10i] at c_14
      have hop : op_sign S h n = (-1, S) := by unfold op_sign; rw [hx_j, lc_ix_no (by omega)]
      refine lv_iconst (v := (-1)) hx hb dX7_sign_23 (by decide) ?_
      exact wg_iret F hP hS hr hlk (⟨rfl, by rw [hop], by rw [hop]; exact hX, fun _ _ => rfl⟩) dX7_sign_24
    · simp only [Int32.lt_iff_toInt_lt, Int32.le_iff_toInt_le, ← Int32.toInt_inj, lc_t0i, lc_t1i, lc_t2i, lc_tm1i, lc_t6i, lc_t4i, lc_t10i] at c_14
      refine lv_iload_n hx hb dX7_sign_17 rfl (lv_at hl 3 rfl) ?_
      refine lv_bipush (v := 10) hx hb dX7_sign_18 (by decide) ?_
      refine lv_icmp_lt (tgt := 25) hx hb dX7_sign_20 (by decide) (fun c_20 => ?_) (fun c_20 => ?_)
      · simp only [Int32.lt_iff_toInt_lt, Int32.le_iff_toInt_le, ← Int32.toInt_inj, lc_t0i, lc_t1i, lc_t2i, lc_tm1i, lc_t6i, lc_t4i, lc_t10i] at c_20
        obtain ⟨k, hk10, rfl⟩ : ∃ k : Nat, k < 10 ∧ n = nI k := by
          obtain ⟨k, hk31, ek⟩ := nI_of (x := n) (by rw [Int32.lt_iff_toInt_lt, lc_t0i]; omega)
          have tk : n.toInt = (k : Int) := by rw [ek, nI_toInt hk31]
          exact ⟨k, by omega, ek⟩
        have hxk := lc_ix_in hk10 (by decide)
        refine lv_iconst (v := 1) hx hb dX7_sign_25 (by decide) ?_
        refine lv_iload_n hx hb dX7_sign_26 rfl (lv_at hl 3 rfl) ?_
        refine lv_ishl hx hb dX7_sign_27 ?_
        refine lv_topi (fun x_28 ex_28 => ?_)
        refine lv_istore (lv' := [(4, .int x_28), (3, .ref (A (200 + j))), (0, .ref (A 0)), (1, .int h), (2, .int (nI k))]) hx hb dX7_sign_28 hl (by decide) rfl (fun ls hl => ?_)
        refine lv_aload_n hx hb dX7_sign_30 rfl (lv_at hl 1 rfl) ?_
        refine wg_getN F hP xh_j rfl iw_X2 7 (by decide) nb_264 rfl rfl dX7_sign_31 ?_
        refine lv_iload hx hb dX7_sign_34 (lv_at hl 0 rfl) ?_
        refine lv_iand hx hb dX7_sign_36 ?_
        refine lv_if_eq (tgt := 42) hx hb dX7_sign_37 (by decide) (fun c_37 => ?_) (fun c_37 => ?_)
        · rw [ex_28] at c_37
          have hb0 : lc_bit (lc_sg (st_B S) j) k = 0 := (lc_andbit _ hk4_j k hk10).mp c_37
          have hor := of_decide_eq_true (lc_all2 lc_orbit hk4_j hk10) hb0
          have hop : op_sign S h (nI k) = (1, up_B S (up_sg (st_B S) j (lc_sg (st_B S) j + 2 ^ k))) := by unfold op_sign; rw [hx_j, hxk]; exact if_pos hb0
          refine lv_aload_n hx hb dX7_sign_42 rfl (lv_at hl 1 rfl) ?_
          refine lv_dup hx hb dX7_sign_43 rfl ?_
          refine wg_getN F hP xh_j rfl iw_X2 7 (by decide) nb_264 rfl rfl dX7_sign_44 ?_
          refine lv_iload hx hb dX7_sign_47 (lv_at hl 0 rfl) ?_
          refine lv_ior hx hb dX7_sign_49 ?_
          refine lv_topi (fun x_50 ex_50 => ?_)
          refine wg_putN F hP hS xh_j rfl iw_X2 tyX2_ok nmX2 7 (by decide) nb_264 rfl rfl rfl (Nat.le_of_ble_eq_true rfl) dX7_sign_50 (fun H locs hP hS => ?_)
          obtain ⟨C_50, hC_50⟩ : ∃ z : wg_C, z = va_up C (200 + j) (some (.inr (2, [.int (nI j), .int (nI (lc_hh (st_B S) j)), .long (lc_hp (st_B S) j), .ref (A (100 + lc_ho (st_B S) j)), .ref (A (100 + lc_hx (st_B S) j)), .long (lc_hr (st_B S) j), .long (lc_dig (st_B S) j), .int x_50]))) := ⟨_, rfl⟩
          have hP : wg_P E A C_50 H := by rw [hC_50]; exact hP
          have x0_c50 : C_50 0 = some (.inr (7, [.ref (A 1), .int (nI (lc_ns (st_B S))), .ref (A 2), .ref (A 4), .ref (A 5), .ref (A 6), .ref (A 7), .ref (A 8), .ref (A 11)])) := by rw [hC_50]; rw [va_up_ne _ _ (by omega)]; exact x0
          have x1_c50 : C_50 1 = some (.inl (E.2.1 3, 16, .inr (.inr (.inr (.inr f1))))) := by rw [hC_50]; rw [va_up_ne _ _ (by omega)]; exact x1
          have x2_c50 : C_50 2 = some (.inr (3, [.ref (A 3), .int (nI (lc_nh (st_B S)))])) := by rw [hC_50]; rw [va_up_ne _ _ (by omega)]; exact x2
          have x3_c50 : C_50 3 = some (.inl (E.2.1 4, 60, .inr (.inr (.inr (.inr f3))))) := by rw [hC_50]; rw [va_up_ne _ _ (by omega)]; exact x3
          have x4_c50 : C_50 4 = some (.inl (E.2.1 0, 4, .inl (fun k => nI (st_tm S k)))) := by rw [hC_50]; rw [va_up_ne _ _ (by omega)]; exact x4
          have x5_c50 : C_50 5 = some (.inl (E.2.1 5, 4, .inr (.inr (.inr (.inr f5))))) := by rw [hC_50]; rw [va_up_ne _ _ (by omega)]; exact x5
          have x6_c50 : C_50 6 = some (.inl (E.2.1 6, 4, .inr (.inr (.inr (.inr f6))))) := by rw [hC_50]; rw [va_up_ne _ _ (by omega)]; exact x6
          have x7_c50 : C_50 7 = some (.inl (E.2.1 0, 32, .inl f7)) := by rw [hC_50]; rw [va_up_ne _ _ (by omega)]; exact x7
          have x8_c50 : C_50 8 = some (.inr (5, [.ref (A 9), .ref (A 10)])) := by rw [hC_50]; rw [va_up_ne _ _ (by omega)]; exact x8
          have x9_c50 : C_50 9 = some (.inl (E.2.1 1, 8, .inr (.inl ((st_lf S))))) := by rw [hC_50]; rw [va_up_ne _ _ (by omega)]; exact x9
          have x10_c50 : C_50 10 = some (.inl (E.2.1 1, 16, .inr (.inl nd))) := by rw [hC_50]; rw [va_up_ne _ _ (by omega)]; exact x10
          have x11_c50 : C_50 11 = some (.inr (4, [.int (nI (st_pa S)), .int (nI (st_pb S)), .long (st_va S), .long (st_vb S), .ref (A 12), .int (nI (lc_cnt (st_pa S) (st_pb S) 1)), .ref (A 13)])) := by rw [hC_50]; rw [va_up_ne _ _ (by omega)]; exact x11
          have x12_c50 : C_50 12 = some (.inl (E.2.1 1, 4, .inr (.inl ((st_pn S))))) := by rw [hC_50]; rw [va_up_ne _ _ (by omega)]; exact x12
          have x13_c50 : C_50 13 = some (.inl (E.2.1 1, 16, .inr (.inl rk))) := by rw [hC_50]; rw [va_up_ne _ _ (by omega)]; exact x13
          have xh_j_c50 : C_50 (200 + j) = some (.inr (2, [.int (nI j), .int (nI (lc_hh (st_B S) j)), .long (lc_hp (st_B S) j), .ref (A (100 + lc_ho (st_B S) j)), .ref (A (100 + lc_hx (st_B S) j)), .long (lc_hr (st_B S) j), .long (lc_dig (st_B S) j), .int x_50])) := by rw [hC_50]; exact va_up_self _ _ _
          have xho_j_c50 : C_50 (100 + lc_ho (st_B S) j) = some (.inr (6, [.int (nI ((lc_ho (st_B S) j))), .long (lN (lc_sa (st_B S) ((lc_ho (st_B S) j)))), .long (lN (lc_sb (st_B S) ((lc_ho (st_B S) j)))), .int (nI (lc_tot (lc_sa (st_B S) ((lc_ho (st_B S) j))) (lc_sb (st_B S) ((lc_ho (st_B S) j)))))])) := by rw [hC_50]; rw [va_up_ne _ _ (by omega)]; exact xho_j
          have xhx_j_c50 : C_50 (100 + lc_hx (st_B S) j) = some (.inr (6, [.int (nI ((lc_hx (st_B S) j))), .long (lN (lc_sa (st_B S) ((lc_hx (st_B S) j)))), .long (lN (lc_sb (st_B S) ((lc_hx (st_B S) j)))), .int (nI (lc_tot (lc_sa (st_B S) ((lc_hx (st_B S) j))) (lc_sb (st_B S) ((lc_hx (st_B S) j)))))])) := by rw [hC_50]; rw [va_up_ne _ _ (by omega)]; exact xhx_j
          have hfr : ∀ r, r ≠ 200 + j → C_50 r = C r := fun r h1 => by rw [hC_50, va_up_ne _ _ h1]
          have hnew : C_50 (200 + j) = some (lc_hd A (up_sg (st_B S) j (lc_sg (st_B S) j + 2 ^ k)) j) := by rw [xh_j_c50, ex_50, ex_28, hor.1]; unfold lc_hd; rw [show lc_sg (up_sg (st_B S) j (lc_sg (st_B S) j + 2 ^ k)) j = lc_sg (st_B S) j + 2 ^ k from va_up_self _ _ _]; rfl
          refine lv_iconst (v := 1) hx hb dX7_sign_53 (by decide) ?_
          exact wg_iret F hP hS hr hlk (⟨rfl, by rw [hop], by rw [hop]; exact ⟨(hfr 0 (by omega)).trans hX.1, hX.2.1.same (hfr 1 (by omega)), (hfr 2 (by omega)).trans hX.2.2.1, hX.2.2.2.1.same (hfr 3 (by omega)), (hfr 4 (by omega)).trans hX.2.2.2.2.1, hX.2.2.2.2.2.1.same (hfr 5 (by omega)), hX.2.2.2.2.2.2.1.same (hfr 6 (by omega)), hX.2.2.2.2.2.2.2.1.same (hfr 7 (by omega)), hX.2.2.2.2.2.2.2.2.1.same (fun r h1 h2 => hfr r (by omega)), hX.2.2.2.2.2.2.2.2.2.1.same (fun r h1 h2 => hfr r (by omega)), fun i2 hi2 => (hX.2.2.2.2.2.2.2.2.2.2.1 i2 hi2).same (fun r h1 => hfr r (by omega)), fun i2 hi2 => (hX.2.2.2.2.2.2.2.2.2.2.2.1 i2 hi2).same (fun r h1 => hfr r (by omega)), hDB.sign hj hor.2 hfr hnew⟩, fun q hq => hfr q (by omega)⟩) dX7_sign_54
        · rw [ex_28] at c_37
          have hb0 : ¬ lc_bit (lc_sg (st_B S) j) k = 0 := fun q => c_37 ((lc_andbit _ hk4_j k hk10).mpr q)
          have hop : op_sign S h (nI k) = (0, S) := by unfold op_sign; rw [hx_j, hxk]; exact if_neg hb0
          refine lv_iconst (v := 0) hx hb dX7_sign_40 (by decide) ?_
          exact wg_iret F hP hS hr hlk (⟨rfl, by rw [hop], by rw [hop]; exact hX, fun _ _ => rfl⟩) dX7_sign_41
      · simp only [Int32.lt_iff_toInt_lt, Int32.le_iff_toInt_le, ← Int32.toInt_inj, lc_t0i, lc_t1i, lc_t2i, lc_tm1i, lc_t6i, lc_t4i, lc_t10i] at c_20
        have hop : op_sign S h n = (-1, S) := by unfold op_sign; rw [hx_j, lc_ix_no (by omega)]
        refine lv_iconst (v := (-1)) hx hb dX7_sign_23 (by decide) ?_
        exact wg_iret F hP hS hr hlk (⟨rfl, by rw [hop], by rw [hop]; exact hX, fun _ _ => rfl⟩) dX7_sign_24
set_option maxHeartbeats 4000000 in
set_option maxRecDepth 100000 in
theorem c_X7_term (l : Launch) (E : wg_E) (A : Nat → Nat) (C : wg_C) (S : lc_S) (w v : Int32) (hX : lx E A C S) (hI : lc_inv S)  : Met l yX7_term (wg_ws yX7_term cX7_term 4 (some .int)) (wg_rm 1 0 0) (wg_Pc E A C [.ref (A 0), .int w, .int v]) (wg_Qi E (fun r A1 C1 => A = A1 ∧ r = (op_term S w v).1 ∧ lx E A C1 (op_term S w v).2 ∧ ∀ q, 1000 ≤ q → C1 q = C q)) 0 0 (wg_A E) := by
  refine wg_met (by decide) (Nat.le_of_ble_eq_true rfl) ?_
  intro p e s m below meth c ls F hr hlk hnm hP hS hl
  have F : wg_F p m c cX7_term 4 s ([.ref (A 0), .int w, .int v] : List Value).toArray "LightChecks" E := F
  have hx := F.1
  have hb := F.2.1
  have hml := F.2.2.1
  have hown := F.2.2.2.1
  have hts := F.2.2.2.2.1
  have hl : lv_has ls 4 [(0, .ref (A 0)), (1, .int w), (2, .int v)] := hl
  obtain ⟨x0, ⟨f1, x1, x1f⟩, x2, ⟨f3, x3, x3f⟩, x4, ⟨f5, x5, x5f⟩, ⟨f6, x6, x6f⟩, ⟨f7, x7⟩, ⟨x8, x9, nd, x10, hnd⟩, ⟨x11, x12, rk, x13⟩, xc, xg, hDB⟩ := id hX
  obtain ⟨iok, ⟨itm, itm3a, itm3b⟩, icl, igv, ipa, ipb, ipab⟩ := id hI
  have ins := iok.1
  have inh := iok.2.1
  refine lv_iload_n hx hb dX7_term_0 rfl (lv_at hl 1 rfl) ?_
  refine lv_if_lt (tgt := 27) hx hb dX7_term_1 (by decide) (fun c_1 => ?_) (fun c_1 => ?_)
  · simp only [Int32.lt_iff_toInt_lt, Int32.le_iff_toInt_le, ← Int32.toInt_inj, lc_t0i, lc_t1i, lc_t2i, lc_tm1i, lc_t6i, lc_t4i, lc_t10i] at c_1
    have hop : op_term S w v = (-1, S) := by unfold op_term; rw [lc_ix_no (by omega)]
    refine lv_iconst (v := (-1)) hx hb dX7_term_27 (by decide) ?_
    exact wg_iret F hP hS hr hlk (⟨rfl, by rw [hop], by rw [hop]; exact hX, fun _ _ => rfl⟩) dX7_term_28
  · simp only [Int32.lt_iff_toInt_lt, Int32.le_iff_toInt_le, ← Int32.toInt_inj, lc_t0i, lc_t1i, lc_t2i, lc_tm1i, lc_t6i, lc_t4i, lc_t10i] at c_1
    refine lv_iload_n hx hb dX7_term_4 rfl (lv_at hl 1 rfl) ?_
    refine lv_iconst (v := 4) hx hb dX7_term_5 (by decide) ?_
    refine lv_icmp_ge (tgt := 27) hx hb dX7_term_6 (by decide) (fun c_6 => ?_) (fun c_6 => ?_)
    · simp only [Int32.lt_iff_toInt_lt, Int32.le_iff_toInt_le, ← Int32.toInt_inj, lc_t0i, lc_t1i, lc_t2i, lc_tm1i, lc_t6i, lc_t4i, lc_t10i] at c_6
      have hop : op_term S w v = (-1, S) := by unfold op_term; rw [lc_ix_no (by omega)]
      refine lv_iconst (v := (-1)) hx hb dX7_term_27 (by decide) ?_
      exact wg_iret F hP hS hr hlk (⟨rfl, by rw [hop], by rw [hop]; exact hX, fun _ _ => rfl⟩) dX7_term_28
    · simp only [Int32.lt_iff_toInt_lt, Int32.le_iff_toInt_le, ← Int32.toInt_inj, lc_t0i, lc_t1i, lc_t2i, lc_tm1i, lc_t6i, lc_t4i, lc_t10i] at c_6
      obtain ⟨k, hk4, rfl⟩ : ∃ k : Nat, k < 4 ∧ w = nI k := by
        obtain ⟨k, hk31, ek⟩ := nI_of (x := w) (by rw [Int32.lt_iff_toInt_lt, lc_t0i]; omega)
        have tk : w.toInt = (k : Int) := by rw [ek, nI_toInt hk31]
        exact ⟨k, by omega, ek⟩
      have hxk := lc_ix_in hk4 (by decide)
      refine lv_iload_n hx hb dX7_term_9 rfl (lv_at hl 2 rfl) ?_
      refine wg_gets F hS F.2.2.2.2.2.1.2.2.1 tb_299 dX7_term_10 ?_
      refine lv_iload_n hx hb dX7_term_13 rfl (lv_at hl 1 rfl) ?_
      refine va_ti (v := .int (if k = 3 then 2 else 1)) hx hb F.2.2.2.2.2.1.2.2.2.1 hS (vp_in_nI hk4 (by decide)) (by rw [nI_clamp (by omega)]; rfl) dX7_term_14 ?_
      refine lv_icmp_lt (tgt := 27) hx hb dX7_term_15 (by decide) (fun c_15 => ?_) (fun c_15 => ?_)
      · rw [Int32.lt_iff_toInt_lt] at c_15
        have hop : op_term S (nI k) v = (-1, S) := by unfold op_term; rw [hxk]; exact if_neg (by rw [lc_ite32a] at c_15; omega)
        refine lv_iconst (v := (-1)) hx hb dX7_term_27 (by decide) ?_
        exact wg_iret F hP hS hr hlk (⟨rfl, by rw [hop], by rw [hop]; exact hX, fun _ _ => rfl⟩) dX7_term_28
      · rw [Int32.lt_iff_toInt_lt, lc_ite32a] at c_15
        refine lv_iload_n hx hb dX7_term_18 rfl (lv_at hl 2 rfl) ?_
        refine wg_gets F hS F.2.2.2.2.2.1.2.2.2.2.1 tb_301 dX7_term_19 ?_
        refine lv_iload_n hx hb dX7_term_22 rfl (lv_at hl 1 rfl) ?_
        refine va_ti (v := .int (if k = 2 then 1000 else 10)) hx hb F.2.2.2.2.2.1.2.2.2.2.2 hS (vp_in_nI hk4 (by decide)) (by rw [nI_clamp (by omega)]; rfl) dX7_term_23 ?_
        refine lv_icmp_le (tgt := 29) hx hb dX7_term_24 (by decide) (fun c_24 => ?_) (fun c_24 => ?_)
        · rw [Int32.le_iff_toInt_le, lc_ite32b] at c_24
          have hv0 : 0 ≤ v.toInt := by split at c_15 <;> omega
          obtain ⟨v1, hv31, rfl⟩ := nI_of (x := v) (by rw [Int32.lt_iff_toInt_lt, lc_t0i]; omega)
          have hop : op_term S (nI k) (nI v1) = (nI (st_tm S k), up_tm S (va_up (st_tm S) k v1)) := by unfold op_term; rw [hxk]; simp only []; rw [if_pos (by omega), nI_toInt hv31, Int.toNat_natCast]
          refine lv_aload_n hx hb dX7_term_29 rfl (lv_at hl 0 rfl) ?_
          refine wg_get F hP x0 rfl iw_X7 3 (by decide) tb_166 rfl rfl dX7_term_30 ?_
          refine lv_iload_n hx hb dX7_term_33 rfl (lv_at hl 1 rfl) ?_
          refine wg_ild F hP x4 (vp_in_nI hk4 (by decide)) dX7_term_34 ?_
          refine wg_topi (y := nI (st_tm S k)) (by rw [nI_clamp (by omega)]) ?_
          refine lv_istore_n (lv' := [(3, .int (nI (st_tm S k))), (0, .ref (A 0)), (1, .int (nI k)), (2, .int (nI v1))]) hx hb dX7_term_35 rfl hl (by decide) rfl (fun ls hl => ?_)
          refine lv_aload_n hx hb dX7_term_36 rfl (lv_at hl 1 rfl) ?_
          refine wg_get F hP x0 rfl iw_X7 3 (by decide) tb_166 rfl rfl dX7_term_37 ?_
          refine lv_iload_n hx hb dX7_term_40 rfl (lv_at hl 2 rfl) ?_
          refine lv_iload_n hx hb dX7_term_41 rfl (lv_at hl 3 rfl) ?_
          refine wg_ist F hP hS x4 (vp_in_nI hk4 (by decide)) dX7_term_42 (fun H locs hP hS => ?_)
          obtain ⟨C_42, hC_42⟩ : ∃ z : wg_C, z = va_up C 4 (some (.inl (E.2.1 0, 4, .inl (upd (fun k => nI (st_tm S k)) (nI k).toNatClampNeg (nI v1))))) := ⟨_, rfl⟩
          have hP : wg_P E A C_42 H := by rw [hC_42]; exact hP
          have x0_c42 : C_42 0 = some (.inr (7, [.ref (A 1), .int (nI (lc_ns (st_B S))), .ref (A 2), .ref (A 4), .ref (A 5), .ref (A 6), .ref (A 7), .ref (A 8), .ref (A 11)])) := by rw [hC_42]; rw [va_up_ne _ _ (by decide)]; exact x0
          have x1_c42 : C_42 1 = some (.inl (E.2.1 3, 16, .inr (.inr (.inr (.inr f1))))) := by rw [hC_42]; rw [va_up_ne _ _ (by decide)]; exact x1
          have x2_c42 : C_42 2 = some (.inr (3, [.ref (A 3), .int (nI (lc_nh (st_B S)))])) := by rw [hC_42]; rw [va_up_ne _ _ (by decide)]; exact x2
          have x3_c42 : C_42 3 = some (.inl (E.2.1 4, 60, .inr (.inr (.inr (.inr f3))))) := by rw [hC_42]; rw [va_up_ne _ _ (by decide)]; exact x3
          have x4_c42 : C_42 4 = some (.inl (E.2.1 0, 4, .inl (upd (fun k => nI (st_tm S k)) (nI k).toNatClampNeg (nI v1)))) := by rw [hC_42]; exact va_up_self _ _ _
          have x5_c42 : C_42 5 = some (.inl (E.2.1 5, 4, .inr (.inr (.inr (.inr f5))))) := by rw [hC_42]; rw [va_up_ne _ _ (by decide)]; exact x5
          have x6_c42 : C_42 6 = some (.inl (E.2.1 6, 4, .inr (.inr (.inr (.inr f6))))) := by rw [hC_42]; rw [va_up_ne _ _ (by decide)]; exact x6
          have x7_c42 : C_42 7 = some (.inl (E.2.1 0, 32, .inl f7)) := by rw [hC_42]; rw [va_up_ne _ _ (by decide)]; exact x7
          have x8_c42 : C_42 8 = some (.inr (5, [.ref (A 9), .ref (A 10)])) := by rw [hC_42]; rw [va_up_ne _ _ (by decide)]; exact x8
          have x9_c42 : C_42 9 = some (.inl (E.2.1 1, 8, .inr (.inl ((st_lf S))))) := by rw [hC_42]; rw [va_up_ne _ _ (by decide)]; exact x9
          have x10_c42 : C_42 10 = some (.inl (E.2.1 1, 16, .inr (.inl nd))) := by rw [hC_42]; rw [va_up_ne _ _ (by decide)]; exact x10
          have x11_c42 : C_42 11 = some (.inr (4, [.int (nI (st_pa S)), .int (nI (st_pb S)), .long (st_va S), .long (st_vb S), .ref (A 12), .int (nI (lc_cnt (st_pa S) (st_pb S) 1)), .ref (A 13)])) := by rw [hC_42]; rw [va_up_ne _ _ (by decide)]; exact x11
          have x12_c42 : C_42 12 = some (.inl (E.2.1 1, 4, .inr (.inl ((st_pn S))))) := by rw [hC_42]; rw [va_up_ne _ _ (by decide)]; exact x12
          have x13_c42 : C_42 13 = some (.inl (E.2.1 1, 16, .inr (.inl rk))) := by rw [hC_42]; rw [va_up_ne _ _ (by decide)]; exact x13
          have hfr : ∀ r, r ≠ 4 → C_42 r = C r := fun r h1 => by rw [hC_42, va_up_ne _ _ h1]
          refine lv_iload_n hx hb dX7_term_43 rfl (lv_at hl 0 rfl) ?_
          exact wg_iret F hP hS hr hlk (⟨rfl, by rw [hop], by rw [hop]; exact ⟨(hfr 0 (by omega)).trans hX.1, hX.2.1.same (hfr 1 (by omega)), (hfr 2 (by omega)).trans hX.2.2.1, hX.2.2.2.1.same (hfr 3 (by omega)), (by show C_42 4 = _; rw [x4_c42, nI_clamp (by omega), lc_updN]), hX.2.2.2.2.2.1.same (hfr 5 (by omega)), hX.2.2.2.2.2.2.1.same (hfr 6 (by omega)), hX.2.2.2.2.2.2.2.1.same (hfr 7 (by omega)), hX.2.2.2.2.2.2.2.2.1.same (fun r h1 h2 => hfr r (by omega)), hX.2.2.2.2.2.2.2.2.2.1.same (fun r h1 h2 => hfr r (by omega)), fun i2 hi2 => (hX.2.2.2.2.2.2.2.2.2.2.1 i2 hi2).same (fun r h1 => hfr r (by omega)), fun i2 hi2 => (hX.2.2.2.2.2.2.2.2.2.2.2.1 i2 hi2).same (fun r h1 => hfr r (by omega)), hX.2.2.2.2.2.2.2.2.2.2.2.2.same (fun r h1 h2 => hfr r (by omega))⟩, fun q hq => hfr q (by omega)⟩) dX7_term_44
        · rw [Int32.le_iff_toInt_le, lc_ite32b] at c_24
          have hop : op_term S (nI k) v = (-1, S) := by unfold op_term; rw [hxk]; exact if_neg (by omega)
          refine lv_iconst (v := (-1)) hx hb dX7_term_27 (by decide) ?_
          exact wg_iret F hP hS hr hlk (⟨rfl, by rw [hop], by rw [hop]; exact hX, fun _ _ => rfl⟩) dX7_term_28
set_option maxHeartbeats 4000000 in
set_option maxRecDepth 100000 in
theorem c_X4_topBefore (l : Launch) (E : wg_E) (A : Nat → Nat) (C : wg_C) (a b : Nat) (va vb : Int64) (pn rk : Nat → Int64) (ha : a < 8) (hb8 : b < 8) (hab : a ≠ b) (f11 : C 11 = some (.inr (4, [.int (nI a), .int (nI b), .long va, .long vb, .ref (A 12), .int (nI (lc_cnt a b 1)), .ref (A 13)]))) (f12 : C 12 = some (.inl (E.2.1 1, 4, .inr (.inl pn)))) (f13 : C 13 = some (.inl (E.2.1 1, 16, .inr (.inl rk)))) : Met l yX4_topBefore (wg_ws yX4_topBefore cX4_topBefore 1 (some .long)) (wg_rm 3 0 0) (wg_Pc E A C [.ref (A 11)]) (wg_Ql E (fun r A1 C1 => r = lc_top a b va vb pn ∧ A = A1 ∧ (∀ q, q ≠ 13 → C1 q = C q) ∧ ∃ rk1 : Nat → Int64, C1 13 = some (.inl (E.2.1 1, 16, .inr (.inl rk1))))) 0 0 (wg_A E) := by
  refine wg_met (by decide) (Nat.le_of_ble_eq_true rfl) ?_
  intro p e s m below meth c ls F hr hlk hnm hP hS hl
  have F : wg_F p m c cX4_topBefore 1 s ([.ref (A 11)] : List Value).toArray "LightChecks$Proof" E := F
  have hx := F.1
  have hb := F.2.1
  have hml := F.2.2.1
  have hown := F.2.2.2.1
  have hts := F.2.2.2.2.1
  have hl : lv_has ls 1 [(0, .ref (A 11))] := hl
  refine lv_aload_n hx hb dX4_topBefore_0 rfl (lv_at hl 0 rfl) ?_
  refine lv_aload_n hx hb dX4_topBefore_1 rfl (lv_at hl 0 rfl) ?_
  refine wg_get F hP f11 rfl iw_X4 2 (by decide) tb_84 rfl rfl dX4_topBefore_2 ?_
  refine lv_aload_n hx hb dX4_topBefore_5 rfl (lv_at hl 0 rfl) ?_
  refine wg_get F hP f11 rfl iw_X4 3 (by decide) tb_85 rfl rfl dX4_topBefore_6 ?_
  refine wg_cl_ hS (wg_rV (As := [.long va, .long vb]) (rest := []) F hP hS (c_X4_topWith l E A C a b va vb va vb pn rk ha hb8 hab f11 f12 f13) ok_X4_topWith tb_485 rfl rfl ⟨Nat.le_of_ble_eq_true rfl, Nat.le_of_ble_eq_true rfl⟩ f11 rfl rfl rfl hl.1 rfl (Nat.le_of_ble_eq_true rfl) dX4_topBefore_9 ⟨Nat.le_of_ble_eq_true rfl, Nat.le_of_ble_eq_true rfl⟩) (fun r_9 A1 C_9 H locs w_9 hP hS => ?_)
  obtain ⟨w_9, rfl, hfr_9, rk1, hrk1⟩ := w_9
  have f11_c9 : C_9 11 = some (.inr (4, [.int (nI a), .int (nI b), .long va, .long vb, .ref (A 12), .int (nI (lc_cnt a b 1)), .ref (A 13)])) := by rw [hfr_9 11 (by decide)]; exact f11
  have f12_c9 : C_9 12 = some (.inl (E.2.1 1, 4, .inr (.inl pn))) := by rw [hfr_9 12 (by decide)]; exact f12
  have f13_c9 : C_9 13 = some (.inl (E.2.1 1, 16, .inr (.inl rk1))) := hrk1
  exact wg_lret F hP hS hr hlk (⟨w_9, rfl, hfr_9, rk1, hrk1⟩) dX4_topBefore_12
set_option maxHeartbeats 4000000 in
set_option maxRecDepth 100000 in
theorem c_X4_topBehind (l : Launch) (E : wg_E) (A : Nat → Nat) (C : wg_C) (a b : Nat) (va vb : Int64) (pn rk : Nat → Int64) (am : Int64) (ha : a < 8) (hb8 : b < 8) (hab : a ≠ b) (f11 : C 11 = some (.inr (4, [.int (nI a), .int (nI b), .long va, .long vb, .ref (A 12), .int (nI (lc_cnt a b 1)), .ref (A 13)]))) (f12 : C 12 = some (.inl (E.2.1 1, 4, .inr (.inl pn)))) (f13 : C 13 = some (.inl (E.2.1 1, 16, .inr (.inl rk)))) : Met l yX4_topBehind (wg_ws yX4_topBehind cX4_topBehind 3 (some .long)) (wg_rm 4 0 0) (wg_Pc E A C [.ref (A 11), .long am]) (wg_Ql E (fun r A1 C1 => r = (if va.toInt < am.toInt then lc_top a b va vb pn else lc_top a b (va - am) (vb + am) pn) ∧ A = A1 ∧ (∀ q, q ≠ 13 → C1 q = C q) ∧ ∃ rk1 : Nat → Int64, C1 13 = some (.inl (E.2.1 1, 16, .inr (.inl rk1))))) 0 0 (wg_A E) := by
  refine wg_met (by decide) (Nat.le_of_ble_eq_true rfl) ?_
  intro p e s m below meth c ls F hr hlk hnm hP hS hl
  have F : wg_F p m c cX4_topBehind 3 s ([.ref (A 11), .long am] : List Value).toArray "LightChecks$Proof" E := F
  have hx := F.1
  have hb := F.2.1
  have hml := F.2.2.1
  have hown := F.2.2.2.1
  have hts := F.2.2.2.2.1
  have hl : lv_has ls 3 [(0, .ref (A 11)), (1, .long am)] := hl
  refine lv_aload_n hx hb dX4_topBehind_0 rfl (lv_at hl 0 rfl) ?_
  refine wg_get F hP f11 rfl iw_X4 2 (by decide) tb_84 rfl rfl dX4_topBehind_1 ?_
  refine lv_lload_n hx hb dX4_topBehind_4 rfl (lv_at hl 1 rfl) ?_
  refine W.lcmp hx hb dX4_topBehind_5 ?_
  refine lv_if_ge (tgt := 16) hx hb dX4_topBehind_6 (by decide) (fun c_6 => ?_) (fun c_6 => ?_)
  · rw [lg_cmp_ge, Int64.le_iff_toInt_le] at c_6
    refine lv_aload_n hx hb dX4_topBehind_16 rfl (lv_at hl 0 rfl) ?_
    refine lv_aload_n hx hb dX4_topBehind_17 rfl (lv_at hl 0 rfl) ?_
    refine wg_get F hP f11 rfl iw_X4 2 (by decide) tb_84 rfl rfl dX4_topBehind_18 ?_
    refine lv_lload_n hx hb dX4_topBehind_21 rfl (lv_at hl 1 rfl) ?_
    refine lv_lsub hx hb dX4_topBehind_22 ?_
    refine lv_aload_n hx hb dX4_topBehind_23 rfl (lv_at hl 0 rfl) ?_
    refine wg_get F hP f11 rfl iw_X4 3 (by decide) tb_85 rfl rfl dX4_topBehind_24 ?_
    refine lv_lload_n hx hb dX4_topBehind_27 rfl (lv_at hl 1 rfl) ?_
    refine lv_ladd hx hb dX4_topBehind_28 ?_
    refine wg_cl_ hS (wg_rV (As := [.long (va - am), .long (vb + am)]) (rest := []) F hP hS (c_X4_topWith l E A C a b va vb _ _ pn rk ha hb8 hab f11 f12 f13) ok_X4_topWith tb_485 rfl rfl ⟨Nat.le_of_ble_eq_true rfl, Nat.le_of_ble_eq_true rfl⟩ f11 rfl rfl rfl hl.1 rfl (Nat.le_of_ble_eq_true rfl) dX4_topBehind_29 ⟨Nat.le_of_ble_eq_true rfl, Nat.le_of_ble_eq_true rfl⟩) (fun r_29 A1 C_29 H locs w_29 hP hS => ?_)
    obtain ⟨w_29, rfl, hfr_29, rk1, hrk1⟩ := w_29
    have f11_c29 : C_29 11 = some (.inr (4, [.int (nI a), .int (nI b), .long va, .long vb, .ref (A 12), .int (nI (lc_cnt a b 1)), .ref (A 13)])) := by rw [hfr_29 11 (by decide)]; exact f11
    have f12_c29 : C_29 12 = some (.inl (E.2.1 1, 4, .inr (.inl pn))) := by rw [hfr_29 12 (by decide)]; exact f12
    have f13_c29 : C_29 13 = some (.inl (E.2.1 1, 16, .inr (.inl rk1))) := hrk1
    exact wg_lret F hP hS hr hlk (⟨by rw [if_neg (by omega)]; exact w_29, rfl, hfr_29, rk1, hrk1⟩) dX4_topBehind_32
  · rw [lg_cmp_ge, Int64.le_iff_toInt_le] at c_6
    refine lv_aload_n hx hb dX4_topBehind_9 rfl (lv_at hl 0 rfl) ?_
    refine wg_cl_ hS (wg_rV (As := []) (rest := []) F hP hS (c_X4_topBefore l E A C a b va vb pn rk ha hb8 hab f11 f12 f13) ok_X4_topBefore tb_495 rfl rfl ⟨Nat.le_of_ble_eq_true rfl, Nat.le_of_ble_eq_true rfl⟩ f11 rfl rfl rfl hl.1 rfl (Nat.le_of_ble_eq_true rfl) dX4_topBehind_10 ⟨Nat.le_of_ble_eq_true rfl, Nat.le_of_ble_eq_true rfl⟩) (fun r_10 A1 C_10 H locs w_10 hP hS => ?_)
    obtain ⟨w_10, rfl, hfr_10, rk1, hrk1⟩ := w_10
    have f11_c10 : C_10 11 = some (.inr (4, [.int (nI a), .int (nI b), .long va, .long vb, .ref (A 12), .int (nI (lc_cnt a b 1)), .ref (A 13)])) := by rw [hfr_10 11 (by decide)]; exact f11
    have f12_c10 : C_10 12 = some (.inl (E.2.1 1, 4, .inr (.inl pn))) := by rw [hfr_10 12 (by decide)]; exact f12
    have f13_c10 : C_10 13 = some (.inl (E.2.1 1, 16, .inr (.inl rk1))) := hrk1
    refine lv_goto (tgt := 32) hx hb dX4_topBehind_13 (by decide) ?_
    exact wg_lret F hP hS hr hlk (⟨by rw [if_pos (by omega)]; exact w_10, rfl, hfr_10, rk1, hrk1⟩) dX4_topBehind_32
set_option maxHeartbeats 4000000 in
set_option maxRecDepth 100000 in
theorem c_X7_fraud (l : Launch) (E : wg_E) (A : Nat → Nat) (C : wg_C) (S : lc_S) (b0 h : Int32) (am : Int64) (hX : lx E A C S) (hI : lc_inv S)  : Met l yX7_fraud (wg_ws yX7_fraud cX7_fraud 7 (some .int)) (wg_rm 5 0 0) (wg_Pc E A C [.ref (A 0), .int b0, .int h, .long am]) (wg_Qi E (fun r A1 C1 => A = A1 ∧ r = op_fraud S b0 h am ∧ lx E A C1 S ∧ ∀ q, 1000 ≤ q → C1 q = C q)) 0 0 (wg_A E) := by
  refine wg_met (by decide) (Nat.le_of_ble_eq_true rfl) ?_
  intro p e s m below meth c ls F hr hlk hnm hP hS hl
  have F : wg_F p m c cX7_fraud 7 s ([.ref (A 0), .int b0, .int h, .long am] : List Value).toArray "LightChecks" E := F
  have hx := F.1
  have hb := F.2.1
  have hml := F.2.2.1
  have hown := F.2.2.2.1
  have hts := F.2.2.2.2.1
  have hl : lv_has ls 7 [(0, .ref (A 0)), (1, .int b0), (2, .int h), (3, .long am)] := hl
  obtain ⟨x0, ⟨f1, x1, x1f⟩, x2, ⟨f3, x3, x3f⟩, x4, ⟨f5, x5, x5f⟩, ⟨f6, x6, x6f⟩, ⟨f7, x7⟩, ⟨x8, x9, nd, x10, hnd⟩, ⟨x11, x12, rk, x13⟩, xc, xg, hDB⟩ := id hX
  obtain ⟨iok, ⟨itm, itm3a, itm3b⟩, icl, igv, ipa, ipb, ipab⟩ := id hI
  have ins := iok.1
  have inh := iok.2.1
  refine lv_aload_n hx hb dX7_fraud_0 rfl (lv_at hl 0 rfl) ?_
  refine wg_get F hP x0 rfl iw_X7 2 (by decide) tb_165 rfl rfl dX7_fraud_1 ?_
  refine lv_iload_n hx hb dX7_fraud_4 rfl (lv_at hl 1 rfl) ?_
  refine wg_cq hS (wg_rVN (As := [.int b0]) (rest := []) F hP hS (c_X3_at l E A C 2 3 60 (lc_nh (st_B S)) f3 b0 inh (by decide) x2 x3) ok_X3_at nb_291 rfl rfl ⟨Nat.le_of_ble_eq_true rfl, Nat.le_of_ble_eq_true rfl⟩ x2 rfl rfl rfl hl.1 rfl (Nat.le_of_ble_eq_true rfl) dX7_fraud_5 ⟨Nat.le_of_ble_eq_true rfl, Nat.le_of_ble_eq_true rfl⟩) (fun r_5 A1 C_5 H locs w_5 hP hS => ?_)
  obtain ⟨w_5, rfl, rfl⟩ := w_5
  rcases hx_i : lc_ix b0 (lc_nh (st_B S)) with _ | i
  · refine wg_none (by rw [w_5, lc_at_ix (by omega) x3f, hx_i]; rfl) ?_
    refine lv_astoreN (lv' := [(5, .null), (0, .ref (A 0)), (1, .int b0), (2, .int h), (3, .long am)]) hx hb dX7_fraud_8 hl (by decide) rfl (fun ls hl => ?_)
    refine lv_aload_n hx hb dX7_fraud_10 rfl (lv_at hl 1 rfl) ?_
    refine wg_get F hP x0 rfl iw_X7 2 (by decide) tb_165 rfl rfl dX7_fraud_11 ?_
    refine lv_iload_n hx hb dX7_fraud_14 rfl (lv_at hl 3 rfl) ?_
    refine wg_cq hS (wg_rVN (As := [.int h]) (rest := []) F hP hS (c_X3_at l E A C 2 3 60 (lc_nh (st_B S)) f3 h inh (by decide) x2 x3) ok_X3_at nb_291 rfl rfl ⟨Nat.le_of_ble_eq_true rfl, Nat.le_of_ble_eq_true rfl⟩ x2 rfl rfl rfl hl.1 rfl (Nat.le_of_ble_eq_true rfl) dX7_fraud_15 ⟨Nat.le_of_ble_eq_true rfl, Nat.le_of_ble_eq_true rfl⟩) (fun r_15 A1 C_15 H locs w_15 hP hS => ?_)
    obtain ⟨w_15, rfl, rfl⟩ := w_15
    rcases hx_j : lc_ix h (lc_nh (st_B S)) with _ | j
    · refine wg_none (by rw [w_15, lc_at_ix (by omega) x3f, hx_j]; rfl) ?_
      refine lv_astoreN (lv' := [(6, .null), (5, .null), (0, .ref (A 0)), (1, .int b0), (2, .int h), (3, .long am)]) hx hb dX7_fraud_18 hl (by decide) rfl (fun ls hl => ?_)
      refine lv_aloadN hx hb dX7_fraud_20 (lv_at hl 1 rfl) ?_
      refine lv_ifnullN (tgt := 36) hx hb dX7_fraud_22 (by decide) ?_
      refine lv_iconst (v := (-1)) hx hb dX7_fraud_36 (by decide) ?_
      exact wg_iret F hP hS hr hlk (⟨rfl, by unfold op_fraud; first | (rw [hx_i, hx_j]; done) | (rw [hx_i, hx_j]; exact (if_pos (by omega)).symm), hX, fun _ _ => rfl⟩) dX7_fraud_37
    · refine wg_some (x := A (200 + j)) (by rw [w_15, lc_at_ix (by omega) x3f, hx_j]; rfl) ?_
      obtain ⟨hj, ej, tj⟩ := lc_ix_some hx_j
      have xh_j : C (200 + j) = some (.inr (2, [.int (nI j), .int (nI (lc_hh (st_B S) j)), .long (lc_hp (st_B S) j), .ref (A (100 + lc_ho (st_B S) j)), .ref (A (100 + lc_hx (st_B S) j)), .long (lc_hr (st_B S) j), .long (lc_dig (st_B S) j), .int (nI (lc_sg (st_B S) j))])) := hDB.2.1 _ hj
      obtain ⟨hk1_j, hk2_j, hk3_j, hk4_j⟩ := iok.2.2.2 _ hj
      have xho_j : C (100 + lc_ho (st_B S) j) = some (.inr (6, [.int (nI ((lc_ho (st_B S) j))), .long (lN (lc_sa (st_B S) ((lc_ho (st_B S) j)))), .long (lN (lc_sb (st_B S) ((lc_ho (st_B S) j)))), .int (nI (lc_tot (lc_sa (st_B S) ((lc_ho (st_B S) j))) (lc_sb (st_B S) ((lc_ho (st_B S) j)))))])) := hDB.1 _ hk2_j
      have xhx_j : C (100 + lc_hx (st_B S) j) = some (.inr (6, [.int (nI ((lc_hx (st_B S) j))), .long (lN (lc_sa (st_B S) ((lc_hx (st_B S) j)))), .long (lN (lc_sb (st_B S) ((lc_hx (st_B S) j)))), .int (nI (lc_tot (lc_sa (st_B S) ((lc_hx (st_B S) j))) (lc_sb (st_B S) ((lc_hx (st_B S) j)))))])) := hDB.1 _ hk3_j
      refine lv_astore (lv' := [(6, .ref (A (200 + j))), (5, .null), (0, .ref (A 0)), (1, .int b0), (2, .int h), (3, .long am)]) hx hb dX7_fraud_18 hl (by decide) rfl (fun ls hl => ?_)
      refine lv_aloadN hx hb dX7_fraud_20 (lv_at hl 1 rfl) ?_
      refine lv_ifnullN (tgt := 36) hx hb dX7_fraud_22 (by decide) ?_
      refine lv_iconst (v := (-1)) hx hb dX7_fraud_36 (by decide) ?_
      exact wg_iret F hP hS hr hlk (⟨rfl, by unfold op_fraud; first | (rw [hx_i, hx_j]; done) | (rw [hx_i, hx_j]; exact (if_pos (by omega)).symm), hX, fun _ _ => rfl⟩) dX7_fraud_37
  · refine wg_some (x := A (200 + i)) (by rw [w_5, lc_at_ix (by omega) x3f, hx_i]; rfl) ?_
    obtain ⟨hi, ei, ti⟩ := lc_ix_some hx_i
    have xh_i : C (200 + i) = some (.inr (2, [.int (nI i), .int (nI (lc_hh (st_B S) i)), .long (lc_hp (st_B S) i), .ref (A (100 + lc_ho (st_B S) i)), .ref (A (100 + lc_hx (st_B S) i)), .long (lc_hr (st_B S) i), .long (lc_dig (st_B S) i), .int (nI (lc_sg (st_B S) i))])) := hDB.2.1 _ hi
    obtain ⟨hk1_i, hk2_i, hk3_i, hk4_i⟩ := iok.2.2.2 _ hi
    have xho_i : C (100 + lc_ho (st_B S) i) = some (.inr (6, [.int (nI ((lc_ho (st_B S) i))), .long (lN (lc_sa (st_B S) ((lc_ho (st_B S) i)))), .long (lN (lc_sb (st_B S) ((lc_ho (st_B S) i)))), .int (nI (lc_tot (lc_sa (st_B S) ((lc_ho (st_B S) i))) (lc_sb (st_B S) ((lc_ho (st_B S) i)))))])) := hDB.1 _ hk2_i
    have xhx_i : C (100 + lc_hx (st_B S) i) = some (.inr (6, [.int (nI ((lc_hx (st_B S) i))), .long (lN (lc_sa (st_B S) ((lc_hx (st_B S) i)))), .long (lN (lc_sb (st_B S) ((lc_hx (st_B S) i)))), .int (nI (lc_tot (lc_sa (st_B S) ((lc_hx (st_B S) i))) (lc_sb (st_B S) ((lc_hx (st_B S) i)))))])) := hDB.1 _ hk3_i
    refine lv_astore (lv' := [(5, .ref (A (200 + i))), (0, .ref (A 0)), (1, .int b0), (2, .int h), (3, .long am)]) hx hb dX7_fraud_8 hl (by decide) rfl (fun ls hl => ?_)
    refine lv_aload_n hx hb dX7_fraud_10 rfl (lv_at hl 1 rfl) ?_
    refine wg_get F hP x0 rfl iw_X7 2 (by decide) tb_165 rfl rfl dX7_fraud_11 ?_
    refine lv_iload_n hx hb dX7_fraud_14 rfl (lv_at hl 3 rfl) ?_
    refine wg_cq hS (wg_rVN (As := [.int h]) (rest := []) F hP hS (c_X3_at l E A C 2 3 60 (lc_nh (st_B S)) f3 h inh (by decide) x2 x3) ok_X3_at nb_291 rfl rfl ⟨Nat.le_of_ble_eq_true rfl, Nat.le_of_ble_eq_true rfl⟩ x2 rfl rfl rfl hl.1 rfl (Nat.le_of_ble_eq_true rfl) dX7_fraud_15 ⟨Nat.le_of_ble_eq_true rfl, Nat.le_of_ble_eq_true rfl⟩) (fun r_15 A1 C_15 H locs w_15 hP hS => ?_)
    obtain ⟨w_15, rfl, rfl⟩ := w_15
    rcases hx_j : lc_ix h (lc_nh (st_B S)) with _ | j
    · refine wg_none (by rw [w_15, lc_at_ix (by omega) x3f, hx_j]; rfl) ?_
      refine lv_astoreN (lv' := [(6, .null), (5, .ref (A (200 + i))), (0, .ref (A 0)), (1, .int b0), (2, .int h), (3, .long am)]) hx hb dX7_fraud_18 hl (by decide) rfl (fun ls hl => ?_)
      refine lv_aload hx hb dX7_fraud_20 (lv_at hl 1 rfl) ?_
      refine lv_ifnull hx hb dX7_fraud_22 ?_
      refine lv_aloadN hx hb dX7_fraud_25 (lv_at hl 0 rfl) ?_
      refine lv_ifnullN (tgt := 36) hx hb dX7_fraud_27 (by decide) ?_
      refine lv_iconst (v := (-1)) hx hb dX7_fraud_36 (by decide) ?_
      exact wg_iret F hP hS hr hlk (⟨rfl, by unfold op_fraud; first | (rw [hx_i, hx_j]; done) | (rw [hx_i, hx_j]; exact (if_pos (by omega)).symm), hX, fun _ _ => rfl⟩) dX7_fraud_37
    · refine wg_some (x := A (200 + j)) (by rw [w_15, lc_at_ix (by omega) x3f, hx_j]; rfl) ?_
      obtain ⟨hj, ej, tj⟩ := lc_ix_some hx_j
      have xh_j : C (200 + j) = some (.inr (2, [.int (nI j), .int (nI (lc_hh (st_B S) j)), .long (lc_hp (st_B S) j), .ref (A (100 + lc_ho (st_B S) j)), .ref (A (100 + lc_hx (st_B S) j)), .long (lc_hr (st_B S) j), .long (lc_dig (st_B S) j), .int (nI (lc_sg (st_B S) j))])) := hDB.2.1 _ hj
      obtain ⟨hk1_j, hk2_j, hk3_j, hk4_j⟩ := iok.2.2.2 _ hj
      have xho_j : C (100 + lc_ho (st_B S) j) = some (.inr (6, [.int (nI ((lc_ho (st_B S) j))), .long (lN (lc_sa (st_B S) ((lc_ho (st_B S) j)))), .long (lN (lc_sb (st_B S) ((lc_ho (st_B S) j)))), .int (nI (lc_tot (lc_sa (st_B S) ((lc_ho (st_B S) j))) (lc_sb (st_B S) ((lc_ho (st_B S) j)))))])) := hDB.1 _ hk2_j
      have xhx_j : C (100 + lc_hx (st_B S) j) = some (.inr (6, [.int (nI ((lc_hx (st_B S) j))), .long (lN (lc_sa (st_B S) ((lc_hx (st_B S) j)))), .long (lN (lc_sb (st_B S) ((lc_hx (st_B S) j)))), .int (nI (lc_tot (lc_sa (st_B S) ((lc_hx (st_B S) j))) (lc_sb (st_B S) ((lc_hx (st_B S) j)))))])) := hDB.1 _ hk3_j
      refine lv_astore (lv' := [(6, .ref (A (200 + j))), (5, .ref (A (200 + i))), (0, .ref (A 0)), (1, .int b0), (2, .int h), (3, .long am)]) hx hb dX7_fraud_18 hl (by decide) rfl (fun ls hl => ?_)
      refine lv_aload hx hb dX7_fraud_20 (lv_at hl 1 rfl) ?_
      refine lv_ifnull hx hb dX7_fraud_22 ?_
      refine lv_aload hx hb dX7_fraud_25 (lv_at hl 0 rfl) ?_
      refine lv_ifnull hx hb dX7_fraud_27 ?_
      refine lv_lload_n hx hb dX7_fraud_30 rfl (lv_at hl 5 rfl) ?_
      refine lv_lconst (v := 0) hx hb dX7_fraud_31 (by decide) ?_
      refine W.lcmp hx hb dX7_fraud_32 ?_
      refine lv_if_gt (tgt := 38) hx hb dX7_fraud_33 (by decide) (fun c_33 => ?_) (fun c_33 => ?_)
      · rw [lg_cmp_gt, Int64.lt_iff_toInt_lt, lc_z64] at c_33
        refine lv_aload_n hx hb dX7_fraud_38 rfl (lv_at hl 2 rfl) ?_
        refine wg_get F hP x0 rfl iw_X7 8 (by decide) tb_171 rfl rfl dX7_fraud_39 ?_
        refine wg_cl_ hS (wg_rVN (As := []) (rest := []) F hP hS (c_X4_topBefore l E A C (st_pa S) (st_pb S) (st_va S) (st_vb S) (st_pn S) rk ipa ipb ipab x11 x12 x13) ok_X4_topBefore nb_481 rfl rfl ⟨Nat.le_of_ble_eq_true rfl, Nat.le_of_ble_eq_true rfl⟩ x11 rfl rfl rfl hl.1 rfl (Nat.le_of_ble_eq_true rfl) dX7_fraud_42 ⟨Nat.le_of_ble_eq_true rfl, Nat.le_of_ble_eq_true rfl⟩) (fun r_42 A1 C_42 H locs w_42 hP hS => ?_)
        obtain ⟨w_42, rfl, hfr_42, rk1, hrk1⟩ := w_42
        have x0_c42 : C_42 0 = some (.inr (7, [.ref (A 1), .int (nI (lc_ns (st_B S))), .ref (A 2), .ref (A 4), .ref (A 5), .ref (A 6), .ref (A 7), .ref (A 8), .ref (A 11)])) := by rw [hfr_42 0 (by decide)]; exact x0
        have x1_c42 : C_42 1 = some (.inl (E.2.1 3, 16, .inr (.inr (.inr (.inr f1))))) := by rw [hfr_42 1 (by decide)]; exact x1
        have x2_c42 : C_42 2 = some (.inr (3, [.ref (A 3), .int (nI (lc_nh (st_B S)))])) := by rw [hfr_42 2 (by decide)]; exact x2
        have x3_c42 : C_42 3 = some (.inl (E.2.1 4, 60, .inr (.inr (.inr (.inr f3))))) := by rw [hfr_42 3 (by decide)]; exact x3
        have x4_c42 : C_42 4 = some (.inl (E.2.1 0, 4, .inl (fun k => nI (st_tm S k)))) := by rw [hfr_42 4 (by decide)]; exact x4
        have x5_c42 : C_42 5 = some (.inl (E.2.1 5, 4, .inr (.inr (.inr (.inr f5))))) := by rw [hfr_42 5 (by decide)]; exact x5
        have x6_c42 : C_42 6 = some (.inl (E.2.1 6, 4, .inr (.inr (.inr (.inr f6))))) := by rw [hfr_42 6 (by decide)]; exact x6
        have x7_c42 : C_42 7 = some (.inl (E.2.1 0, 32, .inl f7)) := by rw [hfr_42 7 (by decide)]; exact x7
        have x8_c42 : C_42 8 = some (.inr (5, [.ref (A 9), .ref (A 10)])) := by rw [hfr_42 8 (by decide)]; exact x8
        have x9_c42 : C_42 9 = some (.inl (E.2.1 1, 8, .inr (.inl ((st_lf S))))) := by rw [hfr_42 9 (by decide)]; exact x9
        have x10_c42 : C_42 10 = some (.inl (E.2.1 1, 16, .inr (.inl nd))) := by rw [hfr_42 10 (by decide)]; exact x10
        have x11_c42 : C_42 11 = some (.inr (4, [.int (nI (st_pa S)), .int (nI (st_pb S)), .long (st_va S), .long (st_vb S), .ref (A 12), .int (nI (lc_cnt (st_pa S) (st_pb S) 1)), .ref (A 13)])) := by rw [hfr_42 11 (by decide)]; exact x11
        have x12_c42 : C_42 12 = some (.inl (E.2.1 1, 4, .inr (.inl ((st_pn S))))) := by rw [hfr_42 12 (by decide)]; exact x12
        have xh_i_c42 : C_42 (200 + i) = some (.inr (2, [.int (nI i), .int (nI (lc_hh (st_B S) i)), .long (lc_hp (st_B S) i), .ref (A (100 + lc_ho (st_B S) i)), .ref (A (100 + lc_hx (st_B S) i)), .long (lc_hr (st_B S) i), .long (lc_dig (st_B S) i), .int (nI (lc_sg (st_B S) i))])) := by rw [hfr_42 (200 + i) (by omega)]; exact xh_i
        have xho_i_c42 : C_42 (100 + lc_ho (st_B S) i) = some (.inr (6, [.int (nI ((lc_ho (st_B S) i))), .long (lN (lc_sa (st_B S) ((lc_ho (st_B S) i)))), .long (lN (lc_sb (st_B S) ((lc_ho (st_B S) i)))), .int (nI (lc_tot (lc_sa (st_B S) ((lc_ho (st_B S) i))) (lc_sb (st_B S) ((lc_ho (st_B S) i)))))])) := by rw [hfr_42 (100 + lc_ho (st_B S) i) (by omega)]; exact xho_i
        have xhx_i_c42 : C_42 (100 + lc_hx (st_B S) i) = some (.inr (6, [.int (nI ((lc_hx (st_B S) i))), .long (lN (lc_sa (st_B S) ((lc_hx (st_B S) i)))), .long (lN (lc_sb (st_B S) ((lc_hx (st_B S) i)))), .int (nI (lc_tot (lc_sa (st_B S) ((lc_hx (st_B S) i))) (lc_sb (st_B S) ((lc_hx (st_B S) i)))))])) := by rw [hfr_42 (100 + lc_hx (st_B S) i) (by omega)]; exact xhx_i
        have xh_j_c42 : C_42 (200 + j) = some (.inr (2, [.int (nI j), .int (nI (lc_hh (st_B S) j)), .long (lc_hp (st_B S) j), .ref (A (100 + lc_ho (st_B S) j)), .ref (A (100 + lc_hx (st_B S) j)), .long (lc_hr (st_B S) j), .long (lc_dig (st_B S) j), .int (nI (lc_sg (st_B S) j))])) := by rw [hfr_42 (200 + j) (by omega)]; exact xh_j
        have xho_j_c42 : C_42 (100 + lc_ho (st_B S) j) = some (.inr (6, [.int (nI ((lc_ho (st_B S) j))), .long (lN (lc_sa (st_B S) ((lc_ho (st_B S) j)))), .long (lN (lc_sb (st_B S) ((lc_ho (st_B S) j)))), .int (nI (lc_tot (lc_sa (st_B S) ((lc_ho (st_B S) j))) (lc_sb (st_B S) ((lc_ho (st_B S) j)))))])) := by rw [hfr_42 (100 + lc_ho (st_B S) j) (by omega)]; exact xho_j
        have xhx_j_c42 : C_42 (100 + lc_hx (st_B S) j) = some (.inr (6, [.int (nI ((lc_hx (st_B S) j))), .long (lN (lc_sa (st_B S) ((lc_hx (st_B S) j)))), .long (lN (lc_sb (st_B S) ((lc_hx (st_B S) j)))), .int (nI (lc_tot (lc_sa (st_B S) ((lc_hx (st_B S) j))) (lc_sb (st_B S) ((lc_hx (st_B S) j)))))])) := by rw [hfr_42 (100 + lc_hx (st_B S) j) (by omega)]; exact xhx_j
        have f13_c42 : C_42 13 = some (.inl (E.2.1 1, 16, .inr (.inl rk1))) := hrk1
        refine lv_aload hx hb dX7_fraud_45 (lv_at hl 1 rfl) ?_
        refine wg_getN F hP xh_i_c42 rfl iw_X2 5 (by decide) nb_259 rfl rfl dX7_fraud_47 ?_
        refine W.lcmp hx hb dX7_fraud_50 ?_
        refine lv_if_eq (tgt := 57) hx hb dX7_fraud_51 (by decide) (fun c_51 => ?_) (fun c_51 => ?_)
        · rw [lg_cmp_eq, w_42] at c_51
          refine lv_aload_n hx hb dX7_fraud_57 rfl (lv_at hl 2 rfl) ?_
          refine wg_get F hP x0_c42 rfl iw_X7 8 (by decide) tb_171 rfl rfl dX7_fraud_58 ?_
          refine lv_lload_n hx hb dX7_fraud_61 rfl (lv_at hl 5 rfl) ?_
          refine wg_cl_ hS (wg_rVN (As := [.long am]) (rest := []) F hP hS (c_X4_topBehind l E A C_42 (st_pa S) (st_pb S) (st_va S) (st_vb S) (st_pn S) rk1 am ipa ipb ipab x11_c42 x12_c42 f13_c42) ok_X4_topBehind nb_491 rfl rfl ⟨Nat.le_of_ble_eq_true rfl, Nat.le_of_ble_eq_true rfl⟩ x11_c42 rfl rfl rfl hl.1 rfl (Nat.le_of_ble_eq_true rfl) dX7_fraud_62 ⟨Nat.le_of_ble_eq_true rfl, Nat.le_of_ble_eq_true rfl⟩) (fun r_62 A1 C_62 H locs w_62 hP hS => ?_)
          obtain ⟨w_62, rfl, hfr_62, rk2, hrk2⟩ := w_62
          have x0_c62 : C_62 0 = some (.inr (7, [.ref (A 1), .int (nI (lc_ns (st_B S))), .ref (A 2), .ref (A 4), .ref (A 5), .ref (A 6), .ref (A 7), .ref (A 8), .ref (A 11)])) := by rw [hfr_62 0 (by decide)]; exact x0_c42
          have x1_c62 : C_62 1 = some (.inl (E.2.1 3, 16, .inr (.inr (.inr (.inr f1))))) := by rw [hfr_62 1 (by decide)]; exact x1_c42
          have x2_c62 : C_62 2 = some (.inr (3, [.ref (A 3), .int (nI (lc_nh (st_B S)))])) := by rw [hfr_62 2 (by decide)]; exact x2_c42
          have x3_c62 : C_62 3 = some (.inl (E.2.1 4, 60, .inr (.inr (.inr (.inr f3))))) := by rw [hfr_62 3 (by decide)]; exact x3_c42
          have x4_c62 : C_62 4 = some (.inl (E.2.1 0, 4, .inl (fun k => nI (st_tm S k)))) := by rw [hfr_62 4 (by decide)]; exact x4_c42
          have x5_c62 : C_62 5 = some (.inl (E.2.1 5, 4, .inr (.inr (.inr (.inr f5))))) := by rw [hfr_62 5 (by decide)]; exact x5_c42
          have x6_c62 : C_62 6 = some (.inl (E.2.1 6, 4, .inr (.inr (.inr (.inr f6))))) := by rw [hfr_62 6 (by decide)]; exact x6_c42
          have x7_c62 : C_62 7 = some (.inl (E.2.1 0, 32, .inl f7)) := by rw [hfr_62 7 (by decide)]; exact x7_c42
          have x8_c62 : C_62 8 = some (.inr (5, [.ref (A 9), .ref (A 10)])) := by rw [hfr_62 8 (by decide)]; exact x8_c42
          have x9_c62 : C_62 9 = some (.inl (E.2.1 1, 8, .inr (.inl ((st_lf S))))) := by rw [hfr_62 9 (by decide)]; exact x9_c42
          have x10_c62 : C_62 10 = some (.inl (E.2.1 1, 16, .inr (.inl nd))) := by rw [hfr_62 10 (by decide)]; exact x10_c42
          have x11_c62 : C_62 11 = some (.inr (4, [.int (nI (st_pa S)), .int (nI (st_pb S)), .long (st_va S), .long (st_vb S), .ref (A 12), .int (nI (lc_cnt (st_pa S) (st_pb S) 1)), .ref (A 13)])) := by rw [hfr_62 11 (by decide)]; exact x11_c42
          have x12_c62 : C_62 12 = some (.inl (E.2.1 1, 4, .inr (.inl ((st_pn S))))) := by rw [hfr_62 12 (by decide)]; exact x12_c42
          have xh_i_c62 : C_62 (200 + i) = some (.inr (2, [.int (nI i), .int (nI (lc_hh (st_B S) i)), .long (lc_hp (st_B S) i), .ref (A (100 + lc_ho (st_B S) i)), .ref (A (100 + lc_hx (st_B S) i)), .long (lc_hr (st_B S) i), .long (lc_dig (st_B S) i), .int (nI (lc_sg (st_B S) i))])) := by rw [hfr_62 (200 + i) (by omega)]; exact xh_i_c42
          have xho_i_c62 : C_62 (100 + lc_ho (st_B S) i) = some (.inr (6, [.int (nI ((lc_ho (st_B S) i))), .long (lN (lc_sa (st_B S) ((lc_ho (st_B S) i)))), .long (lN (lc_sb (st_B S) ((lc_ho (st_B S) i)))), .int (nI (lc_tot (lc_sa (st_B S) ((lc_ho (st_B S) i))) (lc_sb (st_B S) ((lc_ho (st_B S) i)))))])) := by rw [hfr_62 (100 + lc_ho (st_B S) i) (by omega)]; exact xho_i_c42
          have xhx_i_c62 : C_62 (100 + lc_hx (st_B S) i) = some (.inr (6, [.int (nI ((lc_hx (st_B S) i))), .long (lN (lc_sa (st_B S) ((lc_hx (st_B S) i)))), .long (lN (lc_sb (st_B S) ((lc_hx (st_B S) i)))), .int (nI (lc_tot (lc_sa (st_B S) ((lc_hx (st_B S) i))) (lc_sb (st_B S) ((lc_hx (st_B S) i)))))])) := by rw [hfr_62 (100 + lc_hx (st_B S) i) (by omega)]; exact xhx_i_c42
          have xh_j_c62 : C_62 (200 + j) = some (.inr (2, [.int (nI j), .int (nI (lc_hh (st_B S) j)), .long (lc_hp (st_B S) j), .ref (A (100 + lc_ho (st_B S) j)), .ref (A (100 + lc_hx (st_B S) j)), .long (lc_hr (st_B S) j), .long (lc_dig (st_B S) j), .int (nI (lc_sg (st_B S) j))])) := by rw [hfr_62 (200 + j) (by omega)]; exact xh_j_c42
          have xho_j_c62 : C_62 (100 + lc_ho (st_B S) j) = some (.inr (6, [.int (nI ((lc_ho (st_B S) j))), .long (lN (lc_sa (st_B S) ((lc_ho (st_B S) j)))), .long (lN (lc_sb (st_B S) ((lc_ho (st_B S) j)))), .int (nI (lc_tot (lc_sa (st_B S) ((lc_ho (st_B S) j))) (lc_sb (st_B S) ((lc_ho (st_B S) j)))))])) := by rw [hfr_62 (100 + lc_ho (st_B S) j) (by omega)]; exact xho_j_c42
          have xhx_j_c62 : C_62 (100 + lc_hx (st_B S) j) = some (.inr (6, [.int (nI ((lc_hx (st_B S) j))), .long (lN (lc_sa (st_B S) ((lc_hx (st_B S) j)))), .long (lN (lc_sb (st_B S) ((lc_hx (st_B S) j)))), .int (nI (lc_tot (lc_sa (st_B S) ((lc_hx (st_B S) j))) (lc_sb (st_B S) ((lc_hx (st_B S) j)))))])) := by rw [hfr_62 (100 + lc_hx (st_B S) j) (by omega)]; exact xhx_j_c42
          have f13_c62 : C_62 13 = some (.inl (E.2.1 1, 16, .inr (.inl rk2))) := hrk2
          refine lv_aload hx hb dX7_fraud_65 (lv_at hl 0 rfl) ?_
          refine wg_getN F hP xh_j_c62 rfl iw_X2 5 (by decide) nb_259 rfl rfl dX7_fraud_67 ?_
          refine W.lcmp hx hb dX7_fraud_70 ?_
          refine lv_if_eq (tgt := 78) hx hb dX7_fraud_71 (by decide) (fun c_71 => ?_) (fun c_71 => ?_)
          · rw [lg_cmp_eq, w_62] at c_71
            refine lv_iconst (v := 0) hx hb dX7_fraud_78 (by decide) ?_
            have hfr2 : ∀ q, q ≠ 13 → C_62 q = C q := fun q hq => (hfr_62 q hq).trans (hfr_42 q hq)
            exact wg_iret F hP hS hr hlk (⟨rfl, by unfold op_fraud; rw [hx_i, hx_j]; simp only []; rw [if_neg (by omega), if_pos c_51, if_pos c_71], ⟨(hfr2 0 (by omega)).trans hX.1, hX.2.1.same (hfr2 1 (by omega)), (hfr2 2 (by omega)).trans hX.2.2.1, hX.2.2.2.1.same (hfr2 3 (by omega)), (hfr2 4 (by omega)).trans hX.2.2.2.2.1, hX.2.2.2.2.2.1.same (hfr2 5 (by omega)), hX.2.2.2.2.2.2.1.same (hfr2 6 (by omega)), hX.2.2.2.2.2.2.2.1.same (hfr2 7 (by omega)), hX.2.2.2.2.2.2.2.2.1.same (fun r h1 h2 => hfr2 r (by omega)), ⟨x11_c62, x12_c62, rk2, hrk2⟩, fun i2 hi2 => (hX.2.2.2.2.2.2.2.2.2.2.1 i2 hi2).same (fun r h1 => hfr2 r (by omega)), fun i2 hi2 => (hX.2.2.2.2.2.2.2.2.2.2.2.1 i2 hi2).same (fun r h1 => hfr2 r (by omega)), hX.2.2.2.2.2.2.2.2.2.2.2.2.same (fun r h1 h2 => hfr2 r (by omega))⟩, fun q hq => hfr2 q (by omega)⟩) dX7_fraud_79
          · rw [lg_cmp_eq, w_62] at c_71
            refine lv_iconst (v := 1) hx hb dX7_fraud_74 (by decide) ?_
            refine lv_goto (tgt := 79) hx hb dX7_fraud_75 (by decide) ?_
            have hfr2 : ∀ q, q ≠ 13 → C_62 q = C q := fun q hq => (hfr_62 q hq).trans (hfr_42 q hq)
            exact wg_iret F hP hS hr hlk (⟨rfl, by unfold op_fraud; rw [hx_i, hx_j]; simp only []; rw [if_neg (by omega), if_pos c_51, if_neg c_71], ⟨(hfr2 0 (by omega)).trans hX.1, hX.2.1.same (hfr2 1 (by omega)), (hfr2 2 (by omega)).trans hX.2.2.1, hX.2.2.2.1.same (hfr2 3 (by omega)), (hfr2 4 (by omega)).trans hX.2.2.2.2.1, hX.2.2.2.2.2.1.same (hfr2 5 (by omega)), hX.2.2.2.2.2.2.1.same (hfr2 6 (by omega)), hX.2.2.2.2.2.2.2.1.same (hfr2 7 (by omega)), hX.2.2.2.2.2.2.2.2.1.same (fun r h1 h2 => hfr2 r (by omega)), ⟨x11_c62, x12_c62, rk2, hrk2⟩, fun i2 hi2 => (hX.2.2.2.2.2.2.2.2.2.2.1 i2 hi2).same (fun r h1 => hfr2 r (by omega)), fun i2 hi2 => (hX.2.2.2.2.2.2.2.2.2.2.2.1 i2 hi2).same (fun r h1 => hfr2 r (by omega)), hX.2.2.2.2.2.2.2.2.2.2.2.2.same (fun r h1 h2 => hfr2 r (by omega))⟩, fun q hq => hfr2 q (by omega)⟩) dX7_fraud_79
        · rw [lg_cmp_eq, w_42] at c_51
          refine lv_bipush (v := (-2)) hx hb dX7_fraud_54 (by decide) ?_
          exact wg_iret F hP hS hr hlk (⟨rfl, by unfold op_fraud; rw [hx_i, hx_j]; simp only []; rw [if_neg (by omega), if_neg c_51], ⟨(hfr_42 0 (by omega)).trans hX.1, hX.2.1.same (hfr_42 1 (by omega)), (hfr_42 2 (by omega)).trans hX.2.2.1, hX.2.2.2.1.same (hfr_42 3 (by omega)), (hfr_42 4 (by omega)).trans hX.2.2.2.2.1, hX.2.2.2.2.2.1.same (hfr_42 5 (by omega)), hX.2.2.2.2.2.2.1.same (hfr_42 6 (by omega)), hX.2.2.2.2.2.2.2.1.same (hfr_42 7 (by omega)), hX.2.2.2.2.2.2.2.2.1.same (fun r h1 h2 => hfr_42 r (by omega)), ⟨x11_c42, x12_c42, rk1, hrk1⟩, fun i2 hi2 => (hX.2.2.2.2.2.2.2.2.2.2.1 i2 hi2).same (fun r h1 => hfr_42 r (by omega)), fun i2 hi2 => (hX.2.2.2.2.2.2.2.2.2.2.2.1 i2 hi2).same (fun r h1 => hfr_42 r (by omega)), hX.2.2.2.2.2.2.2.2.2.2.2.2.same (fun r h1 h2 => hfr_42 r (by omega))⟩, fun q hq => hfr_42 q (by omega)⟩) dX7_fraud_56
      · rw [lg_cmp_gt, Int64.lt_iff_toInt_lt, lc_z64] at c_33
        refine lv_iconst (v := (-1)) hx hb dX7_fraud_36 (by decide) ?_
        exact wg_iret F hP hS hr hlk (⟨rfl, by unfold op_fraud; first | (rw [hx_i, hx_j]; done) | (rw [hx_i, hx_j]; exact (if_pos (by omega)).symm), hX, fun _ _ => rfl⟩) dX7_fraud_37
set_option maxHeartbeats 4000000 in
set_option maxRecDepth 100000 in
theorem c_X7_leaf (l : Launch) (E : wg_E) (A : Nat → Nat) (C : wg_C) (S : lc_S) (k : Int32) (v : Int64) (hX : lx E A C S) (hI : lc_inv S)  : Met l yX7_leaf (wg_ws yX7_leaf cX7_leaf 4 (some .long)) (wg_rm 4 0 0) (wg_Pc E A C [.ref (A 0), .int k, .long v]) (wg_Ql E (fun r A1 C1 => A = A1 ∧ r = (op_leaf S k v).1 ∧ lx E A C1 (op_leaf S k v).2 ∧ ∀ q, 1000 ≤ q → C1 q = C q)) 0 0 (wg_A E) := by
  refine wg_met (by decide) (Nat.le_of_ble_eq_true rfl) ?_
  intro p e s m below meth c ls F hr hlk hnm hP hS hl
  have F : wg_F p m c cX7_leaf 4 s ([.ref (A 0), .int k, .long v] : List Value).toArray "LightChecks" E := F
  have hx := F.1
  have hb := F.2.1
  have hml := F.2.2.1
  have hown := F.2.2.2.1
  have hts := F.2.2.2.2.1
  have hl : lv_has ls 4 [(0, .ref (A 0)), (1, .int k), (2, .long v)] := hl
  obtain ⟨x0, ⟨f1, x1, x1f⟩, x2, ⟨f3, x3, x3f⟩, x4, ⟨f5, x5, x5f⟩, ⟨f6, x6, x6f⟩, ⟨f7, x7⟩, ⟨x8, x9, nd, x10, hnd⟩, ⟨x11, x12, rk, x13⟩, xc, xg, hDB⟩ := id hX
  obtain ⟨iok, ⟨itm, itm3a, itm3b⟩, icl, igv, ipa, ipb, ipab⟩ := id hI
  have ins := iok.1
  have inh := iok.2.1
  refine lv_aload_n hx hb dX7_leaf_0 rfl (lv_at hl 0 rfl) ?_
  refine wg_get F hP x0 rfl iw_X7 7 (by decide) tb_170 rfl rfl dX7_leaf_1 ?_
  refine lv_iload_n hx hb dX7_leaf_4 rfl (lv_at hl 1 rfl) ?_
  refine lv_lload_n hx hb dX7_leaf_5 rfl (lv_at hl 2 rfl) ?_
  refine wg_cl_ hS (wg_rVN (As := [.int k, .long v]) (rest := []) F hP hS (c_X5_change l E A C (st_lf S) nd k v x8 x9 x10) ok_X5_change nb_443 rfl rfl ⟨Nat.le_of_ble_eq_true rfl, Nat.le_of_ble_eq_true rfl⟩ x8 rfl rfl rfl hl.1 rfl (Nat.le_of_ble_eq_true rfl) dX7_leaf_6 ⟨Nat.le_of_ble_eq_true rfl, Nat.le_of_ble_eq_true rfl⟩) (fun r_6 A1 C_6 H locs w_6 hP hS => ?_)
  obtain ⟨rfl, w_6⟩ := w_6
  rcases w_6 with ⟨j, hj, rfl, w2, hfr, n9, nd1, n10, hn1⟩ | ⟨ho, w2, rfl⟩
  · have hop : op_leaf S (nI j) v = (st_lf S j, up_lf S (vp_updL (st_lf S) j v)) := by unfold op_leaf; rw [lc_ix_in hj (by decide)]
    exact wg_lret F hP hS hr hlk (⟨rfl, by rw [hop]; exact w2, by rw [hop]; exact ⟨(hfr 0 (by omega) (by omega)).trans hX.1, hX.2.1.same (hfr 1 (by omega) (by omega)), (hfr 2 (by omega) (by omega)).trans hX.2.2.1, hX.2.2.2.1.same (hfr 3 (by omega) (by omega)), (hfr 4 (by omega) (by omega)).trans hX.2.2.2.2.1, hX.2.2.2.2.2.1.same (hfr 5 (by omega) (by omega)), hX.2.2.2.2.2.2.1.same (hfr 6 (by omega) (by omega)), hX.2.2.2.2.2.2.2.1.same (hfr 7 (by omega) (by omega)), ⟨(hfr 8 (by omega) (by omega)).trans x8, n9, nd1, n10, hn1⟩, hX.2.2.2.2.2.2.2.2.2.1.same (fun r h1 h2 => hfr r (by omega) (by omega)), fun i2 hi2 => (hX.2.2.2.2.2.2.2.2.2.2.1 i2 hi2).same (fun r h1 => hfr r (by omega) (by omega)), fun i2 hi2 => (hX.2.2.2.2.2.2.2.2.2.2.2.1 i2 hi2).same (fun r h1 => hfr r (by omega) (by omega)), hX.2.2.2.2.2.2.2.2.2.2.2.2.same (fun r h1 h2 => hfr r (by omega) (by omega))⟩, fun q hq => hfr q (by omega) (by omega)⟩) dX7_leaf_9
  · simp only [Int32.lt_iff_toInt_lt, Int32.le_iff_toInt_le, lc_t0i, nI_toInt (show 8 < 2 ^ 31 by decide)] at ho
    have hop : op_leaf S k v = (0, S) := by unfold op_leaf; rw [lc_ix_no (by omega)]
    exact wg_lret F hP hS hr hlk (⟨rfl, by rw [hop]; exact w2, by rw [hop]; exact hX, fun _ _ => rfl⟩) dX7_leaf_9
set_option maxHeartbeats 4000000 in
set_option maxRecDepth 100000 in
theorem c_X7_prove (l : Launch) (E : wg_E) (A : Nat → Nat) (C : wg_C) (S : lc_S) (a b : Int32) (hX : lx E A C S) (hI : lc_inv S)  : Met l yX7_prove (wg_ws yX7_prove cX7_prove 3 (some .int)) (wg_rm 4 0 0) (wg_Pc E A C [.ref (A 0), .int a, .int b]) (wg_Qi E (fun r A1 C1 => A = A1 ∧ r = (op_prove S a b).1 ∧ lx E A C1 (op_prove S a b).2 ∧ ∀ q, 1000 ≤ q → C1 q = C q)) 0 0 (wg_A E) := by
  refine wg_met (by decide) (Nat.le_of_ble_eq_true rfl) ?_
  intro p e s m below meth c ls F hr hlk hnm hP hS hl
  have F : wg_F p m c cX7_prove 3 s ([.ref (A 0), .int a, .int b] : List Value).toArray "LightChecks" E := F
  have hx := F.1
  have hb := F.2.1
  have hml := F.2.2.1
  have hown := F.2.2.2.1
  have hts := F.2.2.2.2.1
  have hl : lv_has ls 3 [(0, .ref (A 0)), (1, .int a), (2, .int b)] := hl
  obtain ⟨x0, ⟨f1, x1, x1f⟩, x2, ⟨f3, x3, x3f⟩, x4, ⟨f5, x5, x5f⟩, ⟨f6, x6, x6f⟩, ⟨f7, x7⟩, ⟨x8, x9, nd, x10, hnd⟩, ⟨x11, x12, rk, x13⟩, xc, xg, hDB⟩ := id hX
  obtain ⟨iok, ⟨itm, itm3a, itm3b⟩, icl, igv, ipa, ipb, ipab⟩ := id hI
  have ins := iok.1
  have inh := iok.2.1
  refine lv_iload_n hx hb dX7_prove_0 rfl (lv_at hl 1 rfl) ?_
  refine wg_ci hS (wg_rS (As := [.int a]) (rest := []) F hP hS (c_X7_isLeaf l E A C a) ok_X7_isLeaf tb_456 rfl rfl ⟨Nat.le_of_ble_eq_true rfl, Nat.le_of_ble_eq_true rfl⟩ rfl hl.1 rfl (Nat.le_of_ble_eq_true rfl) dX7_prove_1 ⟨Nat.le_of_ble_eq_true rfl, Nat.le_of_ble_eq_true rfl⟩) (fun r_1 A1 C_1 H locs w_1 hP hS => ?_)
  obtain ⟨w_1, rfl, rfl⟩ := w_1
  rcases w_1 with ⟨i, hi, ei, w2_1⟩ | ⟨ho_1, w2_1⟩
  · refine lv_if_eq (tgt := 19) hx hb dX7_prove_4 (by decide) (fun c_4 => ?_) (fun c_4 => ?_)
    · exact absurd (w2_1.symm.trans c_4) (by decide)
    · refine lv_iload_n hx hb dX7_prove_7 rfl (lv_at hl 2 rfl) ?_
      refine wg_ci hS (wg_rS (As := [.int b]) (rest := []) F hP hS (c_X7_isLeaf l E A C b) ok_X7_isLeaf tb_456 rfl rfl ⟨Nat.le_of_ble_eq_true rfl, Nat.le_of_ble_eq_true rfl⟩ rfl hl.1 rfl (Nat.le_of_ble_eq_true rfl) dX7_prove_8 ⟨Nat.le_of_ble_eq_true rfl, Nat.le_of_ble_eq_true rfl⟩) (fun r_8 A1 C_8 H locs w_8 hP hS => ?_)
      obtain ⟨w_8, rfl, rfl⟩ := w_8
      rcases w_8 with ⟨j, hj, ej, w2_8⟩ | ⟨ho_8, w2_8⟩
      · refine lv_if_eq (tgt := 19) hx hb dX7_prove_11 (by decide) (fun c_11 => ?_) (fun c_11 => ?_)
        · exact absurd (w2_8.symm.trans c_11) (by decide)
        · refine lv_iload_n hx hb dX7_prove_14 rfl (lv_at hl 1 rfl) ?_
          refine lv_iload_n hx hb dX7_prove_15 rfl (lv_at hl 2 rfl) ?_
          refine lv_icmp_ne (tgt := 21) hx hb dX7_prove_16 (by decide) (fun c_16 => ?_) (fun c_16 => ?_)
          · have hij : i ≠ j := fun q => c_16 (by rw [ei, ej, q])
            have hop : op_prove S a b = (nI (lc_cnt i j 1), up_pf S i j (st_lf S i) (st_lf S j) (lc_tk i j (st_lf S) (st_pn S) 1)) := by unfold op_prove; rw [ei, ej, lc_ix_in hi (by decide), lc_ix_in hj (by decide)]; exact if_neg hij
            refine lv_aload_n hx hb dX7_prove_21 rfl (lv_at hl 0 rfl) ?_
            refine wg_get F hP x0 rfl iw_X7 8 (by decide) tb_171 rfl rfl dX7_prove_22 ?_
            refine lv_aload_n hx hb dX7_prove_25 rfl (lv_at hl 0 rfl) ?_
            refine wg_get F hP x0 rfl iw_X7 7 (by decide) tb_170 rfl rfl dX7_prove_26 ?_
            refine lv_iload_n hx hb dX7_prove_29 rfl (lv_at hl 1 rfl) ?_
            refine wg_topi (y := nI i) ei ?_
            refine lv_iload_n hx hb dX7_prove_30 rfl (lv_at hl 2 rfl) ?_
            refine wg_topi (y := nI j) ej ?_
            refine wg_cv hS (wg_rVN (As := [.ref (A 8), .int (nI i), .int (nI j)]) (rest := []) F hP hS (c_X4_take l E A C i j _ _ _ _ _ (st_pn S) (st_lf S) nd hi hj hij hnd x11 x12 x8 x9 x10) ok_X4_take nb_140 rfl rfl ⟨Nat.le_of_ble_eq_true rfl, Nat.le_of_ble_eq_true rfl⟩ x11 rfl rfl rfl hl.1 rfl (Nat.le_of_ble_eq_true rfl) dX7_prove_31 ⟨Nat.le_of_ble_eq_true rfl, Nat.le_of_ble_eq_true rfl⟩) (fun A1 C_31 H locs w_31 hP hS => ?_)
            obtain ⟨rfl, hfr_31, n11, n12⟩ := w_31
            have x0_c31 : C_31 0 = some (.inr (7, [.ref (A 1), .int (nI (lc_ns (st_B S))), .ref (A 2), .ref (A 4), .ref (A 5), .ref (A 6), .ref (A 7), .ref (A 8), .ref (A 11)])) := by rw [hfr_31 0 (by decide) (by decide)]; exact x0
            have x1_c31 : C_31 1 = some (.inl (E.2.1 3, 16, .inr (.inr (.inr (.inr f1))))) := by rw [hfr_31 1 (by decide) (by decide)]; exact x1
            have x2_c31 : C_31 2 = some (.inr (3, [.ref (A 3), .int (nI (lc_nh (st_B S)))])) := by rw [hfr_31 2 (by decide) (by decide)]; exact x2
            have x3_c31 : C_31 3 = some (.inl (E.2.1 4, 60, .inr (.inr (.inr (.inr f3))))) := by rw [hfr_31 3 (by decide) (by decide)]; exact x3
            have x4_c31 : C_31 4 = some (.inl (E.2.1 0, 4, .inl (fun k => nI (st_tm S k)))) := by rw [hfr_31 4 (by decide) (by decide)]; exact x4
            have x5_c31 : C_31 5 = some (.inl (E.2.1 5, 4, .inr (.inr (.inr (.inr f5))))) := by rw [hfr_31 5 (by decide) (by decide)]; exact x5
            have x6_c31 : C_31 6 = some (.inl (E.2.1 6, 4, .inr (.inr (.inr (.inr f6))))) := by rw [hfr_31 6 (by decide) (by decide)]; exact x6
            have x7_c31 : C_31 7 = some (.inl (E.2.1 0, 32, .inl f7)) := by rw [hfr_31 7 (by decide) (by decide)]; exact x7
            have x8_c31 : C_31 8 = some (.inr (5, [.ref (A 9), .ref (A 10)])) := by rw [hfr_31 8 (by decide) (by decide)]; exact x8
            have x9_c31 : C_31 9 = some (.inl (E.2.1 1, 8, .inr (.inl ((st_lf S))))) := by rw [hfr_31 9 (by decide) (by decide)]; exact x9
            have x10_c31 : C_31 10 = some (.inl (E.2.1 1, 16, .inr (.inl nd))) := by rw [hfr_31 10 (by decide) (by decide)]; exact x10
            have x13_c31 : C_31 13 = some (.inl (E.2.1 1, 16, .inr (.inl rk))) := by rw [hfr_31 13 (by decide) (by decide)]; exact x13
            have f11_c31 : C_31 11 = some (.inr (4, [.int (nI i), .int (nI j), .long (st_lf S i), .long (st_lf S j), .ref (A 12), .int (nI (lc_cnt i j 1)), .ref (A 13)])) := n11
            have f12_c31 : C_31 12 = some (.inl (E.2.1 1, 4, .inr (.inl (lc_tk i j (st_lf S) (st_pn S) 1)))) := n12
            refine lv_aload_n hx hb dX7_prove_34 rfl (lv_at hl 0 rfl) ?_
            refine wg_get F hP x0_c31 rfl iw_X7 8 (by decide) tb_171 rfl rfl dX7_prove_35 ?_
            refine wg_getN F hP f11_c31 rfl iw_X4 5 (by decide) nb_88 rfl rfl dX7_prove_38 ?_
            exact wg_iret F hP hS hr hlk (⟨rfl, by rw [hop], by rw [hop]; exact ⟨(hfr_31 0 (by omega) (by omega)).trans hX.1, hX.2.1.same (hfr_31 1 (by omega) (by omega)), (hfr_31 2 (by omega) (by omega)).trans hX.2.2.1, hX.2.2.2.1.same (hfr_31 3 (by omega) (by omega)), (hfr_31 4 (by omega) (by omega)).trans hX.2.2.2.2.1, hX.2.2.2.2.2.1.same (hfr_31 5 (by omega) (by omega)), hX.2.2.2.2.2.2.1.same (hfr_31 6 (by omega) (by omega)), hX.2.2.2.2.2.2.2.1.same (hfr_31 7 (by omega) (by omega)), hX.2.2.2.2.2.2.2.2.1.same (fun r h1 h2 => hfr_31 r (by omega) (by omega)), ⟨n11, n12, rk, x13_c31⟩, fun i2 hi2 => (hX.2.2.2.2.2.2.2.2.2.2.1 i2 hi2).same (fun r h1 => hfr_31 r (by omega) (by omega)), fun i2 hi2 => (hX.2.2.2.2.2.2.2.2.2.2.2.1 i2 hi2).same (fun r h1 => hfr_31 r (by omega) (by omega)), hX.2.2.2.2.2.2.2.2.2.2.2.2.same (fun r h1 h2 => hfr_31 r (by omega) (by omega))⟩, fun q hq => hfr_31 q (by omega) (by omega)⟩) dX7_prove_41
          · have hij : i = j := by rw [ei, ej, nI_eq (by omega) (by omega)] at c_16; exact c_16
            have hop : op_prove S a b = (-1, S) := by unfold op_prove; rw [ei, ej, lc_ix_in hi (by decide), lc_ix_in hj (by decide)]; exact if_pos hij
            refine lv_iconst (v := (-1)) hx hb dX7_prove_19 (by decide) ?_
            exact wg_iret F hP hS hr hlk (⟨rfl, by rw [hop], by rw [hop]; exact hX, fun _ _ => rfl⟩) dX7_prove_20
      · simp only [Int32.lt_iff_toInt_lt, Int32.le_iff_toInt_le, lc_t0i, nI_toInt (show 8 < 2 ^ 31 by decide)] at ho_8
        refine lv_if_eq (tgt := 19) hx hb dX7_prove_11 (by decide) (fun c_11 => ?_) (fun c_11 => ?_)
        · have hop : op_prove S a b = (-1, S) := by unfold op_prove; rw [lc_ix_no (k := b) (by omega)]; rw [ei, lc_ix_in hi (by decide)]
          refine lv_iconst (v := (-1)) hx hb dX7_prove_19 (by decide) ?_
          exact wg_iret F hP hS hr hlk (⟨rfl, by rw [hop], by rw [hop]; exact hX, fun _ _ => rfl⟩) dX7_prove_20
        · exact absurd w2_8 c_11
  · simp only [Int32.lt_iff_toInt_lt, Int32.le_iff_toInt_le, lc_t0i, nI_toInt (show 8 < 2 ^ 31 by decide)] at ho_1
    refine lv_if_eq (tgt := 19) hx hb dX7_prove_4 (by decide) (fun c_4 => ?_) (fun c_4 => ?_)
    · have hop : op_prove S a b = (-1, S) := by unfold op_prove; rw [lc_ix_no (k := a) (by omega)]
      refine lv_iconst (v := (-1)) hx hb dX7_prove_19 (by decide) ?_
      exact wg_iret F hP hS hr hlk (⟨rfl, by rw [hop], by rw [hop]; exact hX, fun _ _ => rfl⟩) dX7_prove_20
    · exact absurd w2_1 c_4
set_option maxHeartbeats 4000000 in
set_option maxRecDepth 100000 in
theorem c_X7_alter (l : Launch) (E : wg_E) (A : Nat → Nat) (C : wg_C) (S : lc_S) (k : Int32) (v : Int64) (hX : lx E A C S) (hI : lc_inv S)  : Met l yX7_alter (wg_ws yX7_alter cX7_alter 4 (some .int)) (wg_rm 2 0 0) (wg_Pc E A C [.ref (A 0), .int k, .long v]) (wg_Qi E (fun r A1 C1 => A = A1 ∧ r = (op_alter S k v).1 ∧ lx E A C1 (op_alter S k v).2 ∧ ∀ q, 1000 ≤ q → C1 q = C q)) 0 0 (wg_A E) := by
  refine wg_met (by decide) (Nat.le_of_ble_eq_true rfl) ?_
  intro p e s m below meth c ls F hr hlk hnm hP hS hl
  have F : wg_F p m c cX7_alter 4 s ([.ref (A 0), .int k, .long v] : List Value).toArray "LightChecks" E := F
  have hx := F.1
  have hb := F.2.1
  have hml := F.2.2.1
  have hown := F.2.2.2.1
  have hts := F.2.2.2.2.1
  have hl : lv_has ls 4 [(0, .ref (A 0)), (1, .int k), (2, .long v)] := hl
  obtain ⟨x0, ⟨f1, x1, x1f⟩, x2, ⟨f3, x3, x3f⟩, x4, ⟨f5, x5, x5f⟩, ⟨f6, x6, x6f⟩, ⟨f7, x7⟩, ⟨x8, x9, nd, x10, hnd⟩, ⟨x11, x12, rk, x13⟩, xc, xg, hDB⟩ := id hX
  obtain ⟨iok, ⟨itm, itm3a, itm3b⟩, icl, igv, ipa, ipb, ipab⟩ := id hI
  have ins := iok.1
  have inh := iok.2.1
  refine lv_aload_n hx hb dX7_alter_0 rfl (lv_at hl 0 rfl) ?_
  refine wg_get F hP x0 rfl iw_X7 8 (by decide) tb_171 rfl rfl dX7_alter_1 ?_
  refine lv_iload_n hx hb dX7_alter_4 rfl (lv_at hl 1 rfl) ?_
  refine lv_lload_n hx hb dX7_alter_5 rfl (lv_at hl 2 rfl) ?_
  refine wg_ci hS (wg_rVN (As := [.int k, .long v]) (rest := []) F hP hS (c_X4_replace l E A C (st_pa S) (st_pb S) (st_ct S) (st_va S) (st_vb S) (st_pn S) k v (lc_cnt_le _ ipa _ ipb ipab) x11 x12) ok_X4_replace nb_473 rfl rfl ⟨Nat.le_of_ble_eq_true rfl, Nat.le_of_ble_eq_true rfl⟩ x11 rfl rfl rfl hl.1 rfl (Nat.le_of_ble_eq_true rfl) dX7_alter_6 ⟨Nat.le_of_ble_eq_true rfl, Nat.le_of_ble_eq_true rfl⟩) (fun r_6 A1 C_6 H locs w_6 hP hS => ?_)
  obtain ⟨rfl, w_6⟩ := w_6
  rcases w_6 with ⟨w2, ⟨hk2, hC⟩ | ⟨hk3, hC⟩ | ⟨i, hi, hk, hC⟩⟩ | ⟨w2, n2, n3, nx, rfl⟩
  · have hop : op_alter S k v = (1, up_pf S (st_pa S) (st_pb S) v (st_vb S) (st_pn S)) := by unfold op_alter; rw [if_pos hk2]
    have hfr : ∀ r, r ≠ 11 → C_6 r = C r := fun r h1 => by rw [hC, va_up_ne _ _ h1]
    refine lv_if_eq (tgt := 16) hx hb dX7_alter_9 (by decide) (fun c_9 => ?_) (fun c_9 => ?_)
    · exact absurd (w2.symm.trans c_9) (by decide)
    · refine lv_iconst (v := 1) hx hb dX7_alter_12 (by decide) ?_
      refine lv_goto (tgt := 17) hx hb dX7_alter_13 (by decide) ?_
      exact wg_iret F hP hS hr hlk (⟨rfl, by rw [hop], by rw [hop]; exact ⟨(hfr 0 (by omega)).trans hX.1, hX.2.1.same (hfr 1 (by omega)), (hfr 2 (by omega)).trans hX.2.2.1, hX.2.2.2.1.same (hfr 3 (by omega)), (hfr 4 (by omega)).trans hX.2.2.2.2.1, hX.2.2.2.2.2.1.same (hfr 5 (by omega)), hX.2.2.2.2.2.2.1.same (hfr 6 (by omega)), hX.2.2.2.2.2.2.2.1.same (hfr 7 (by omega)), hX.2.2.2.2.2.2.2.2.1.same (fun r h1 h2 => hfr r (by omega)), ⟨by rw [hC]; exact va_up_self _ _ _, (hfr 12 (by decide)).trans x12, rk, (hfr 13 (by decide)).trans x13⟩, fun i2 hi2 => (hX.2.2.2.2.2.2.2.2.2.2.1 i2 hi2).same (fun r h1 => hfr r (by omega)), fun i2 hi2 => (hX.2.2.2.2.2.2.2.2.2.2.2.1 i2 hi2).same (fun r h1 => hfr r (by omega)), hX.2.2.2.2.2.2.2.2.2.2.2.2.same (fun r h1 h2 => hfr r (by omega))⟩, fun q hq => hfr q (by omega)⟩) dX7_alter_17
  · have hop : op_alter S k v = (1, up_pf S (st_pa S) (st_pb S) (st_va S) v (st_pn S)) := by unfold op_alter; rw [if_neg (by rw [hk3]; decide), if_pos hk3]
    have hfr : ∀ r, r ≠ 11 → C_6 r = C r := fun r h1 => by rw [hC, va_up_ne _ _ h1]
    refine lv_if_eq (tgt := 16) hx hb dX7_alter_9 (by decide) (fun c_9 => ?_) (fun c_9 => ?_)
    · exact absurd (w2.symm.trans c_9) (by decide)
    · refine lv_iconst (v := 1) hx hb dX7_alter_12 (by decide) ?_
      refine lv_goto (tgt := 17) hx hb dX7_alter_13 (by decide) ?_
      exact wg_iret F hP hS hr hlk (⟨rfl, by rw [hop], by rw [hop]; exact ⟨(hfr 0 (by omega)).trans hX.1, hX.2.1.same (hfr 1 (by omega)), (hfr 2 (by omega)).trans hX.2.2.1, hX.2.2.2.1.same (hfr 3 (by omega)), (hfr 4 (by omega)).trans hX.2.2.2.2.1, hX.2.2.2.2.2.1.same (hfr 5 (by omega)), hX.2.2.2.2.2.2.1.same (hfr 6 (by omega)), hX.2.2.2.2.2.2.2.1.same (hfr 7 (by omega)), hX.2.2.2.2.2.2.2.2.1.same (fun r h1 h2 => hfr r (by omega)), ⟨by rw [hC]; exact va_up_self _ _ _, (hfr 12 (by decide)).trans x12, rk, (hfr 13 (by decide)).trans x13⟩, fun i2 hi2 => (hX.2.2.2.2.2.2.2.2.2.2.1 i2 hi2).same (fun r h1 => hfr r (by omega)), fun i2 hi2 => (hX.2.2.2.2.2.2.2.2.2.2.2.1 i2 hi2).same (fun r h1 => hfr r (by omega)), hX.2.2.2.2.2.2.2.2.2.2.2.2.same (fun r h1 h2 => hfr r (by omega))⟩, fun q hq => hfr q (by omega)⟩) dX7_alter_17
  · have h4 : st_ct S ≤ 4 := lc_cnt_le _ ipa _ ipb ipab
    have tk : k.toInt = ((i + 4 : Nat) : Int) := by rw [hk, nI_toInt (by omega)]
    have hop : op_alter S k v = (1, up_pf S (st_pa S) (st_pb S) (st_va S) (st_vb S) (vp_updL (st_pn S) i v)) := by unfold op_alter; rw [if_neg (by rw [← Int32.toInt_inj, lc_t2i]; omega), if_neg (by rw [← Int32.toInt_inj, lc_t3i]; omega), if_pos (by omega), tk, Int.toNat_natCast, Nat.add_sub_cancel]
    have hfr : ∀ r, r ≠ 12 → C_6 r = C r := fun r h1 => by rw [hC, va_up_ne _ _ h1]
    refine lv_if_eq (tgt := 16) hx hb dX7_alter_9 (by decide) (fun c_9 => ?_) (fun c_9 => ?_)
    · exact absurd (w2.symm.trans c_9) (by decide)
    · refine lv_iconst (v := 1) hx hb dX7_alter_12 (by decide) ?_
      refine lv_goto (tgt := 17) hx hb dX7_alter_13 (by decide) ?_
      exact wg_iret F hP hS hr hlk (⟨rfl, by rw [hop], by rw [hop]; exact ⟨(hfr 0 (by omega)).trans hX.1, hX.2.1.same (hfr 1 (by omega)), (hfr 2 (by omega)).trans hX.2.2.1, hX.2.2.2.1.same (hfr 3 (by omega)), (hfr 4 (by omega)).trans hX.2.2.2.2.1, hX.2.2.2.2.2.1.same (hfr 5 (by omega)), hX.2.2.2.2.2.2.1.same (hfr 6 (by omega)), hX.2.2.2.2.2.2.2.1.same (hfr 7 (by omega)), hX.2.2.2.2.2.2.2.2.1.same (fun r h1 h2 => hfr r (by omega)), ⟨(hfr 11 (by decide)).trans x11, by rw [hC]; exact va_up_self _ _ _, rk, (hfr 13 (by decide)).trans x13⟩, fun i2 hi2 => (hX.2.2.2.2.2.2.2.2.2.2.1 i2 hi2).same (fun r h1 => hfr r (by omega)), fun i2 hi2 => (hX.2.2.2.2.2.2.2.2.2.2.2.1 i2 hi2).same (fun r h1 => hfr r (by omega)), hX.2.2.2.2.2.2.2.2.2.2.2.2.same (fun r h1 h2 => hfr r (by omega))⟩, fun q hq => hfr q (by omega)⟩) dX7_alter_17
  · have h4 : st_ct S ≤ 4 := lc_cnt_le _ ipa _ ipb ipab
    have hop : op_alter S k v = (-1, S) := by unfold op_alter; rw [if_neg n2, if_neg n3, if_neg (fun q => by obtain ⟨i, hi31, ek, _, eT, _⟩ := lc_ge4 (k := k) (by rw [Int32.lt_iff_toInt_lt, lc_t4i]; omega); exact nx ⟨i, by omega, ek⟩)]
    refine lv_if_eq (tgt := 16) hx hb dX7_alter_9 (by decide) (fun c_9 => ?_) (fun c_9 => ?_)
    · refine lv_iconst (v := (-1)) hx hb dX7_alter_16 (by decide) ?_
      exact wg_iret F hP hS hr hlk (⟨rfl, by rw [hop], by rw [hop]; exact hX, fun _ _ => rfl⟩) dX7_alter_17
    · exact absurd w2 c_9
