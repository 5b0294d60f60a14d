set_option maxHeartbeats 4000000 in
set_option maxRecDepth 100000 in
theorem c_X7_start (l : Launch) (E : wg_E) (A : Nat → Nat) (C : wg_C) (S : lc_S) (c0 h : Int32) (hX : lx E A C S) (hI : lc_inv S)  : Met l yX7_start (wg_ws yX7_start cX7_start 5 (some .int)) (wg_rm 3 0 0) (wg_Pc E A C [.ref (A 0), .int c0, .int h]) (wg_Qi E (fun r A1 C1 => A = A1 ∧ r = (op_start S c0 h).1 ∧ lx E A C1 (op_start S c0 h).2 ∧ ∀ q, 1000 ≤ q → C1 q = C q)) 0 0 (wg_A E) := by
  refine wg_met (by decide) (Nat.le_of_ble_eq_true rfl) ?_
  intro p e s m below meth c ls F hr hlk hnm hP hS hl
  have F : wg_F p m c cX7_start 5 s ([.ref (A 0), .int c0, .int h] : List Value).toArray "LightChecks" E := F
  have hx := F.1
  have hb := F.2.1
  have hml := F.2.2.1
  have hown := F.2.2.2.1
  have hts := F.2.2.2.2.1
  have hl : lv_has ls 5 [(0, .ref (A 0)), (1, .int c0), (2, .int h)] := hl
  obtain ⟨x0, ⟨f1, x1, x1f⟩, x2, ⟨f3, x3, x3f⟩, x4, ⟨f5, x5, x5f⟩, ⟨f6, x6, x6f⟩, ⟨f7, x7⟩, ⟨x8, x9, nd, x10, hnd⟩, ⟨x11, x12, rk, x13⟩, xc, xg, hDB⟩ := id hX
  obtain ⟨iok, ⟨itm, itm3a, itm3b⟩, icl, igv, ipa, ipb, ipab⟩ := id hI
  have ins := iok.1
  have inh := iok.2.1
  refine lv_aload_n hx hb dX7_start_0 rfl (lv_at hl 0 rfl) ?_
  refine lv_iload_n hx hb dX7_start_1 rfl (lv_at hl 1 rfl) ?_
  refine wg_cq hS (wg_rV (As := [.int c0]) (rest := []) F hP hS (c_X7_clientAt l E A C (lc_ns (st_B S)) f5 c0 x0 x5) ok_X7_clientAt tb_330 rfl rfl ⟨Nat.le_of_ble_eq_true rfl, Nat.le_of_ble_eq_true rfl⟩ x0 rfl rfl rfl hl.1 rfl (Nat.le_of_ble_eq_true rfl) dX7_start_2 ⟨Nat.le_of_ble_eq_true rfl, Nat.le_of_ble_eq_true rfl⟩) (fun r_2 A1 C_2 H locs w_2 hP hS => ?_)
  obtain ⟨w_2, rfl, rfl⟩ := w_2
  rcases hx_i : lc_ix c0 4 with _ | i
  · refine wg_none (by rw [w_2, lc_at_ix (by omega) x5f, hx_i]; rfl) ?_
    refine lv_astore_nN (lv' := [(3, .null), (0, .ref (A 0)), (1, .int c0), (2, .int h)]) hx hb dX7_start_5 rfl hl (by decide) rfl (fun ls hl => ?_)
    refine lv_aload_n hx hb dX7_start_6 rfl (lv_at hl 1 rfl) ?_
    refine wg_get F hP x0 rfl iw_X7 2 (by decide) tb_165 rfl rfl dX7_start_7 ?_
    refine lv_iload_n hx hb dX7_start_10 rfl (lv_at hl 3 rfl) ?_
    refine wg_cq hS (wg_rVN (As := [.int h]) (rest := []) F hP hS (c_X3_at l E A C 2 3 60 (lc_nh (st_B S)) f3 h inh (by decide) x2 x3) ok_X3_at nb_291 rfl rfl ⟨Nat.le_of_ble_eq_true rfl, Nat.le_of_ble_eq_true rfl⟩ x2 rfl rfl rfl hl.1 rfl (Nat.le_of_ble_eq_true rfl) dX7_start_11 ⟨Nat.le_of_ble_eq_true rfl, Nat.le_of_ble_eq_true rfl⟩) (fun r_11 A1 C_11 H locs w_11 hP hS => ?_)
    obtain ⟨w_11, rfl, rfl⟩ := w_11
    rcases hx_j : lc_ix h (lc_nh (st_B S)) with _ | j
    · refine wg_none (by rw [w_11, lc_at_ix (by omega) x3f, hx_j]; rfl) ?_
      refine lv_astoreN (lv' := [(4, .null), (3, .null), (0, .ref (A 0)), (1, .int c0), (2, .int h)]) hx hb dX7_start_14 hl (by decide) rfl (fun ls hl => ?_)
      refine lv_aload_nN hx hb dX7_start_16 rfl (lv_at hl 1 rfl) ?_
      refine lv_ifnullN (tgt := 25) hx hb dX7_start_17 (by decide) ?_
      refine lv_iconst (v := (-1)) hx hb dX7_start_25 (by decide) ?_
      exact wg_iret F hP hS hr hlk (⟨rfl, by unfold op_start; first | (rw [hx_i, hx_j]; done) | (rw [hx_i, hx_j]; rfl), by unfold op_start; first | (rw [hx_i, hx_j]; exact hX), fun _ _ => rfl⟩) dX7_start_26
    · refine wg_some (x := A (200 + j)) (by rw [w_11, lc_at_ix (by omega) x3f, hx_j]; rfl) ?_
      obtain ⟨hj, ej, tj⟩ := lc_ix_some hx_j
      have xh_j : C (200 + j) = some (.inr (2, [.int (nI j), .int (nI (lc_hh (st_B S) j)), .long (lc_hp (st_B S) j), .ref (A (100 + lc_ho (st_B S) j)), .ref (A (100 + lc_hx (st_B S) j)), .long (lc_hr (st_B S) j), .long (lc_dig (st_B S) j), .int (nI (lc_sg (st_B S) j))])) := hDB.2.1 _ hj
      obtain ⟨hk1_j, hk2_j, hk3_j, hk4_j⟩ := iok.2.2.2 _ hj
      have xho_j : C (100 + lc_ho (st_B S) j) = some (.inr (6, [.int (nI ((lc_ho (st_B S) j))), .long (lN (lc_sa (st_B S) ((lc_ho (st_B S) j)))), .long (lN (lc_sb (st_B S) ((lc_ho (st_B S) j)))), .int (nI (lc_tot (lc_sa (st_B S) ((lc_ho (st_B S) j))) (lc_sb (st_B S) ((lc_ho (st_B S) j)))))])) := hDB.1 _ hk2_j
      have xhx_j : C (100 + lc_hx (st_B S) j) = some (.inr (6, [.int (nI ((lc_hx (st_B S) j))), .long (lN (lc_sa (st_B S) ((lc_hx (st_B S) j)))), .long (lN (lc_sb (st_B S) ((lc_hx (st_B S) j)))), .int (nI (lc_tot (lc_sa (st_B S) ((lc_hx (st_B S) j))) (lc_sb (st_B S) ((lc_hx (st_B S) j)))))])) := hDB.1 _ hk3_j
      refine lv_astore (lv' := [(4, .ref (A (200 + j))), (3, .null), (0, .ref (A 0)), (1, .int c0), (2, .int h)]) hx hb dX7_start_14 hl (by decide) rfl (fun ls hl => ?_)
      refine lv_aload_nN hx hb dX7_start_16 rfl (lv_at hl 1 rfl) ?_
      refine lv_ifnullN (tgt := 25) hx hb dX7_start_17 (by decide) ?_
      refine lv_iconst (v := (-1)) hx hb dX7_start_25 (by decide) ?_
      exact wg_iret F hP hS hr hlk (⟨rfl, by unfold op_start; first | (rw [hx_i, hx_j]; done) | (rw [hx_i, hx_j]; rfl), by unfold op_start; first | (rw [hx_i, hx_j]; exact hX), fun _ _ => rfl⟩) dX7_start_26
  · refine wg_some (x := A (20 + i)) (by rw [w_2, lc_at_ix (by omega) x5f, hx_i]; rfl) ?_
    obtain ⟨hi, ei, ti⟩ := lc_ix_some hx_i
    obtain ⟨fc_i, xc1_i, xc2_i, xc3_i, xcf_i⟩ := xc i hi
    obtain ⟨icn_i, icg_i⟩ := icl i hi
    refine lv_astore_n (lv' := [(3, .ref (A (20 + i))), (0, .ref (A 0)), (1, .int c0), (2, .int h)]) hx hb dX7_start_5 rfl hl (by decide) rfl (fun ls hl => ?_)
    refine lv_aload_n hx hb dX7_start_6 rfl (lv_at hl 1 rfl) ?_
    refine wg_get F hP x0 rfl iw_X7 2 (by decide) tb_165 rfl rfl dX7_start_7 ?_
    refine lv_iload_n hx hb dX7_start_10 rfl (lv_at hl 3 rfl) ?_
    refine wg_cq hS (wg_rVN (As := [.int h]) (rest := []) F hP hS (c_X3_at l E A C 2 3 60 (lc_nh (st_B S)) f3 h inh (by decide) x2 x3) ok_X3_at nb_291 rfl rfl ⟨Nat.le_of_ble_eq_true rfl, Nat.le_of_ble_eq_true rfl⟩ x2 rfl rfl rfl hl.1 rfl (Nat.le_of_ble_eq_true rfl) dX7_start_11 ⟨Nat.le_of_ble_eq_true rfl, Nat.le_of_ble_eq_true rfl⟩) (fun r_11 A1 C_11 H locs w_11 hP hS => ?_)
    obtain ⟨w_11, rfl, rfl⟩ := w_11
    rcases hx_j : lc_ix h (lc_nh (st_B S)) with _ | j
    · refine wg_none (by rw [w_11, lc_at_ix (by omega) x3f, hx_j]; rfl) ?_
      refine lv_astoreN (lv' := [(4, .null), (3, .ref (A (20 + i))), (0, .ref (A 0)), (1, .int c0), (2, .int h)]) hx hb dX7_start_14 hl (by decide) rfl (fun ls hl => ?_)
      refine lv_aload_n hx hb dX7_start_16 rfl (lv_at hl 1 rfl) ?_
      refine lv_ifnull hx hb dX7_start_17 ?_
      refine lv_aloadN hx hb dX7_start_20 (lv_at hl 0 rfl) ?_
      refine lv_ifnonnullN hx hb dX7_start_22 ?_
      refine lv_iconst (v := (-1)) hx hb dX7_start_25 (by decide) ?_
      exact wg_iret F hP hS hr hlk (⟨rfl, by unfold op_start; first | (rw [hx_i, hx_j]; done) | (rw [hx_i, hx_j]; rfl), by unfold op_start; first | (rw [hx_i, hx_j]; exact hX), fun _ _ => rfl⟩) dX7_start_26
    · refine wg_some (x := A (200 + j)) (by rw [w_11, lc_at_ix (by omega) x3f, hx_j]; rfl) ?_
      obtain ⟨hj, ej, tj⟩ := lc_ix_some hx_j
      have xh_j : C (200 + j) = some (.inr (2, [.int (nI j), .int (nI (lc_hh (st_B S) j)), .long (lc_hp (st_B S) j), .ref (A (100 + lc_ho (st_B S) j)), .ref (A (100 + lc_hx (st_B S) j)), .long (lc_hr (st_B S) j), .long (lc_dig (st_B S) j), .int (nI (lc_sg (st_B S) j))])) := hDB.2.1 _ hj
      obtain ⟨hk1_j, hk2_j, hk3_j, hk4_j⟩ := iok.2.2.2 _ hj
      have xho_j : C (100 + lc_ho (st_B S) j) = some (.inr (6, [.int (nI ((lc_ho (st_B S) j))), .long (lN (lc_sa (st_B S) ((lc_ho (st_B S) j)))), .long (lN (lc_sb (st_B S) ((lc_ho (st_B S) j)))), .int (nI (lc_tot (lc_sa (st_B S) ((lc_ho (st_B S) j))) (lc_sb (st_B S) ((lc_ho (st_B S) j)))))])) := hDB.1 _ hk2_j
      have xhx_j : C (100 + lc_hx (st_B S) j) = some (.inr (6, [.int (nI ((lc_hx (st_B S) j))), .long (lN (lc_sa (st_B S) ((lc_hx (st_B S) j)))), .long (lN (lc_sb (st_B S) ((lc_hx (st_B S) j)))), .int (nI (lc_tot (lc_sa (st_B S) ((lc_hx (st_B S) j))) (lc_sb (st_B S) ((lc_hx (st_B S) j)))))])) := hDB.1 _ hk3_j
      refine lv_astore (lv' := [(4, .ref (A (200 + j))), (3, .ref (A (20 + i))), (0, .ref (A 0)), (1, .int c0), (2, .int h)]) hx hb dX7_start_14 hl (by decide) rfl (fun ls hl => ?_)
      refine lv_aload_n hx hb dX7_start_16 rfl (lv_at hl 1 rfl) ?_
      refine lv_ifnull hx hb dX7_start_17 ?_
      refine lv_aload hx hb dX7_start_20 (lv_at hl 0 rfl) ?_
      refine lv_ifnonnull (tgt := 27) hx hb dX7_start_22 (by decide) ?_
      refine lv_aload_n hx hb dX7_start_27 rfl (lv_at hl 1 rfl) ?_
      refine lv_aload hx hb dX7_start_28 (lv_at hl 0 rfl) ?_
      refine wg_cv hS (wg_rVN (As := [.ref (A (200 + j))]) (rest := []) F hP hS (c_X0_begin l E A C i (st_cn S i) fc_i (st_co S i) (st_rb S i) (st_ra S i) j _ hi (by omega) xc1_i xc2_i xc3_i xh_j) ok_X0_begin nb_334 rfl rfl ⟨Nat.le_of_ble_eq_true rfl, Nat.le_of_ble_eq_true rfl⟩ xc1_i rfl rfl rfl hl.1 rfl (Nat.le_of_ble_eq_true rfl) dX7_start_30 ⟨Nat.le_of_ble_eq_true rfl, Nat.le_of_ble_eq_true rfl⟩) (fun A1 C_30 H locs w_30 hP hS => ?_)
      obtain ⟨rfl, hfr_30, n1, n2, n3⟩ := w_30
      have x0_c30 : C_30 0 = some (.inr (7, [.ref (A 1), .int (nI (lc_ns (st_B S))), .ref (A 2), .ref (A 4), .ref (A 5), .ref (A 6), .ref (A 7), .ref (A 8), .ref (A 11)])) := by rw [hfr_30 0 (by omega) (by omega) (by omega)]; exact x0
      have x1_c30 : C_30 1 = some (.inl (E.2.1 3, 16, .inr (.inr (.inr (.inr f1))))) := by rw [hfr_30 1 (by omega) (by omega) (by omega)]; exact x1
      have x2_c30 : C_30 2 = some (.inr (3, [.ref (A 3), .int (nI (lc_nh (st_B S)))])) := by rw [hfr_30 2 (by omega) (by omega) (by omega)]; exact x2
      have x3_c30 : C_30 3 = some (.inl (E.2.1 4, 60, .inr (.inr (.inr (.inr f3))))) := by rw [hfr_30 3 (by omega) (by omega) (by omega)]; exact x3
      have x4_c30 : C_30 4 = some (.inl (E.2.1 0, 4, .inl (fun k => nI (st_tm S k)))) := by rw [hfr_30 4 (by omega) (by omega) (by omega)]; exact x4
      have x5_c30 : C_30 5 = some (.inl (E.2.1 5, 4, .inr (.inr (.inr (.inr f5))))) := by rw [hfr_30 5 (by omega) (by omega) (by omega)]; exact x5
      have x6_c30 : C_30 6 = some (.inl (E.2.1 6, 4, .inr (.inr (.inr (.inr f6))))) := by rw [hfr_30 6 (by omega) (by omega) (by omega)]; exact x6
      have x7_c30 : C_30 7 = some (.inl (E.2.1 0, 32, .inl f7)) := by rw [hfr_30 7 (by omega) (by omega) (by omega)]; exact x7
      have x8_c30 : C_30 8 = some (.inr (5, [.ref (A 9), .ref (A 10)])) := by rw [hfr_30 8 (by omega) (by omega) (by omega)]; exact x8
      have x9_c30 : C_30 9 = some (.inl (E.2.1 1, 8, .inr (.inl ((st_lf S))))) := by rw [hfr_30 9 (by omega) (by omega) (by omega)]; exact x9
      have x10_c30 : C_30 10 = some (.inl (E.2.1 1, 16, .inr (.inl nd))) := by rw [hfr_30 10 (by omega) (by omega) (by omega)]; exact x10
      have x11_c30 : C_30 11 = some (.inr (4, [.int (nI (st_pa S)), .int (nI (st_pb S)), .long (st_va S), .long (st_vb S), .ref (A 12), .int (nI (lc_cnt (st_pa S) (st_pb S) 1)), .ref (A 13)])) := by rw [hfr_30 11 (by omega) (by omega) (by omega)]; exact x11
      have x12_c30 : C_30 12 = some (.inl (E.2.1 1, 4, .inr (.inl ((st_pn S))))) := by rw [hfr_30 12 (by omega) (by omega) (by omega)]; exact x12
      have x13_c30 : C_30 13 = some (.inl (E.2.1 1, 16, .inr (.inl rk))) := by rw [hfr_30 13 (by omega) (by omega) (by omega)]; exact x13
      have xh_j_c30 : C_30 (200 + j) = some (.inr (2, [.int (nI j), .int (nI (lc_hh (st_B S) j)), .long (lc_hp (st_B S) j), .ref (A (100 + lc_ho (st_B S) j)), .ref (A (100 + lc_hx (st_B S) j)), .long (lc_hr (st_B S) j), .long (lc_dig (st_B S) j), .int (nI (lc_sg (st_B S) j))])) := by rw [hfr_30 (200 + j) (by omega) (by omega) (by omega)]; exact xh_j
      have xho_j_c30 : C_30 (100 + lc_ho (st_B S) j) = some (.inr (6, [.int (nI ((lc_ho (st_B S) j))), .long (lN (lc_sa (st_B S) ((lc_ho (st_B S) j)))), .long (lN (lc_sb (st_B S) ((lc_ho (st_B S) j)))), .int (nI (lc_tot (lc_sa (st_B S) ((lc_ho (st_B S) j))) (lc_sb (st_B S) ((lc_ho (st_B S) j)))))])) := by rw [hfr_30 (100 + lc_ho (st_B S) j) (by omega) (by omega) (by omega)]; exact xho_j
      have xhx_j_c30 : C_30 (100 + lc_hx (st_B S) j) = some (.inr (6, [.int (nI ((lc_hx (st_B S) j))), .long (lN (lc_sa (st_B S) ((lc_hx (st_B S) j)))), .long (lN (lc_sb (st_B S) ((lc_hx (st_B S) j)))), .int (nI (lc_tot (lc_sa (st_B S) ((lc_hx (st_B S) j))) (lc_sb (st_B S) ((lc_hx (st_B S) j)))))])) := by rw [hfr_30 (100 + lc_hx (st_B S) j) (by omega) (by omega) (by omega)]; exact xhx_j
      have hop : op_start S c0 h = (1, up_cl S (va_up (st_cn S) i 1) (va_up (st_cg S) i (va_up (st_cg S i) 0 j)) (va_up (st_co S) i 0) (va_up (st_rb S) i (-2)) (va_up (st_ra S) i (-2))) := by unfold op_start; rw [hx_i, hx_j]
      have hcl := lx_cup (S := S) xc hfr_30 hi (n := 1) (g := va_up (st_cg S i) 0 j) ⟨_, n1, n2, n3, fun q hq => by rw [show q = 0 by omega, va_up_self, va_up_self]⟩
      refine lv_iconst (v := 1) hx hb dX7_start_33 (by decide) ?_
      exact wg_iret F hP hS hr hlk (⟨rfl, by rw [hop], by rw [hop]; exact ⟨(hfr_30 0 (by omega) (by omega) (by omega)).trans hX.1, hX.2.1.same (hfr_30 1 (by omega) (by omega) (by omega)), (hfr_30 2 (by omega) (by omega) (by omega)).trans hX.2.2.1, hX.2.2.2.1.same (hfr_30 3 (by omega) (by omega) (by omega)), (hfr_30 4 (by omega) (by omega) (by omega)).trans hX.2.2.2.2.1, hX.2.2.2.2.2.1.same (hfr_30 5 (by omega) (by omega) (by omega)), hX.2.2.2.2.2.2.1.same (hfr_30 6 (by omega) (by omega) (by omega)), hX.2.2.2.2.2.2.2.1.same (hfr_30 7 (by omega) (by omega) (by omega)), hX.2.2.2.2.2.2.2.2.1.same (fun r h1 h2 => hfr_30 r (by omega) (by omega) (by omega)), hX.2.2.2.2.2.2.2.2.2.1.same (fun r h1 h2 => hfr_30 r (by omega) (by omega) (by omega)), hcl, fun i2 hi2 => (hX.2.2.2.2.2.2.2.2.2.2.2.1 i2 hi2).same (fun r h1 => hfr_30 r (by omega) (by omega) (by omega)), hX.2.2.2.2.2.2.2.2.2.2.2.2.same (fun r h1 h2 => hfr_30 r (by omega) (by omega) (by omega))⟩, fun q hq => hfr_30 q (by omega) (by omega) (by omega)⟩) dX7_start_34
set_option maxHeartbeats 4000000 in
set_option maxRecDepth 100000 in
theorem c_X7_follow (l : Launch) (E : wg_E) (A : Nat → Nat) (C : wg_C) (S : lc_S) (c0 h : Int32) (hX : lx E A C S) (hI : lc_inv S)  : Met l yX7_follow (wg_ws yX7_follow cX7_follow 7 (some .int)) (wg_rm 5 0 0) (wg_Pc E A C [.ref (A 0), .int c0, .int h]) (wg_Qi E (fun r A1 C1 => A = A1 ∧ r = (op_follow S c0 h).1 ∧ lx E A C1 (op_follow S c0 h).2 ∧ ∀ q, 1000 ≤ q → C1 q = C q)) 0 0 (wg_A E) := by
  refine wg_met (by decide) (Nat.le_of_ble_eq_true rfl) ?_
  intro p e s m below meth c ls F hr hlk hnm hP hS hl
  have F : wg_F p m c cX7_follow 7 s ([.ref (A 0), .int c0, .int h] : List Value).toArray "LightChecks" E := F
  have hx := F.1
  have hb := F.2.1
  have hml := F.2.2.1
  have hown := F.2.2.2.1
  have hts := F.2.2.2.2.1
  have hl : lv_has ls 7 [(0, .ref (A 0)), (1, .int c0), (2, .int h)] := hl
  obtain ⟨x0, ⟨f1, x1, x1f⟩, x2, ⟨f3, x3, x3f⟩, x4, ⟨f5, x5, x5f⟩, ⟨f6, x6, x6f⟩, ⟨f7, x7⟩, ⟨x8, x9, nd, x10, hnd⟩, ⟨x11, x12, rk, x13⟩, xc, xg, hDB⟩ := id hX
  obtain ⟨iok, ⟨itm, itm3a, itm3b⟩, icl, igv, ipa, ipb, ipab⟩ := id hI
  have ins := iok.1
  have inh := iok.2.1
  refine lv_aload_n hx hb dX7_follow_0 rfl (lv_at hl 0 rfl) ?_
  refine lv_iload_n hx hb dX7_follow_1 rfl (lv_at hl 1 rfl) ?_
  refine wg_cq hS (wg_rV (As := [.int c0]) (rest := []) F hP hS (c_X7_clientAt l E A C (lc_ns (st_B S)) f5 c0 x0 x5) ok_X7_clientAt tb_330 rfl rfl ⟨Nat.le_of_ble_eq_true rfl, Nat.le_of_ble_eq_true rfl⟩ x0 rfl rfl rfl hl.1 rfl (Nat.le_of_ble_eq_true rfl) dX7_follow_2 ⟨Nat.le_of_ble_eq_true rfl, Nat.le_of_ble_eq_true rfl⟩) (fun r_2 A1 C_2 H locs w_2 hP hS => ?_)
  obtain ⟨w_2, rfl, rfl⟩ := w_2
  rcases hx_i : lc_ix c0 4 with _ | i
  · refine wg_none (by rw [w_2, lc_at_ix (by omega) x5f, hx_i]; rfl) ?_
    refine lv_astore_nN (lv' := [(3, .null), (0, .ref (A 0)), (1, .int c0), (2, .int h)]) hx hb dX7_follow_5 rfl hl (by decide) rfl (fun ls hl => ?_)
    refine lv_aload_n hx hb dX7_follow_6 rfl (lv_at hl 1 rfl) ?_
    refine wg_get F hP x0 rfl iw_X7 2 (by decide) tb_165 rfl rfl dX7_follow_7 ?_
    refine lv_iload_n hx hb dX7_follow_10 rfl (lv_at hl 3 rfl) ?_
    refine wg_cq hS (wg_rVN (As := [.int h]) (rest := []) F hP hS (c_X3_at l E A C 2 3 60 (lc_nh (st_B S)) f3 h inh (by decide) x2 x3) ok_X3_at nb_291 rfl rfl ⟨Nat.le_of_ble_eq_true rfl, Nat.le_of_ble_eq_true rfl⟩ x2 rfl rfl rfl hl.1 rfl (Nat.le_of_ble_eq_true rfl) dX7_follow_11 ⟨Nat.le_of_ble_eq_true rfl, Nat.le_of_ble_eq_true rfl⟩) (fun r_11 A1 C_11 H locs w_11 hP hS => ?_)
    obtain ⟨w_11, rfl, rfl⟩ := w_11
    rcases hx_j : lc_ix h (lc_nh (st_B S)) with _ | j
    · refine wg_none (by rw [w_11, lc_at_ix (by omega) x3f, hx_j]; rfl) ?_
      refine lv_astoreN (lv' := [(4, .null), (3, .null), (0, .ref (A 0)), (1, .int c0), (2, .int h)]) hx hb dX7_follow_14 hl (by decide) rfl (fun ls hl => ?_)
      refine lv_aload_nN hx hb dX7_follow_16 rfl (lv_at hl 1 rfl) ?_
      refine lv_ifnullN (tgt := 25) hx hb dX7_follow_17 (by decide) ?_
      refine lv_iconst (v := (-1)) hx hb dX7_follow_25 (by decide) ?_
      exact wg_iret F hP hS hr hlk (⟨rfl, by unfold op_follow; first | (rw [hx_i, hx_j]; done) | (rw [hx_i, hx_j]; rfl), by unfold op_follow; first | (rw [hx_i, hx_j]; exact hX), fun _ _ => rfl⟩) dX7_follow_26
    · refine wg_some (x := A (200 + j)) (by rw [w_11, lc_at_ix (by omega) x3f, hx_j]; rfl) ?_
      obtain ⟨hj, ej, tj⟩ := lc_ix_some hx_j
      have xh_j : C (200 + j) = some (.inr (2, [.int (nI j), .int (nI (lc_hh (st_B S) j)), .long (lc_hp (st_B S) j), .ref (A (100 + lc_ho (st_B S) j)), .ref (A (100 + lc_hx (st_B S) j)), .long (lc_hr (st_B S) j), .long (lc_dig (st_B S) j), .int (nI (lc_sg (st_B S) j))])) := hDB.2.1 _ hj
      obtain ⟨hk1_j, hk2_j, hk3_j, hk4_j⟩ := iok.2.2.2 _ hj
      have xho_j : C (100 + lc_ho (st_B S) j) = some (.inr (6, [.int (nI ((lc_ho (st_B S) j))), .long (lN (lc_sa (st_B S) ((lc_ho (st_B S) j)))), .long (lN (lc_sb (st_B S) ((lc_ho (st_B S) j)))), .int (nI (lc_tot (lc_sa (st_B S) ((lc_ho (st_B S) j))) (lc_sb (st_B S) ((lc_ho (st_B S) j)))))])) := hDB.1 _ hk2_j
      have xhx_j : C (100 + lc_hx (st_B S) j) = some (.inr (6, [.int (nI ((lc_hx (st_B S) j))), .long (lN (lc_sa (st_B S) ((lc_hx (st_B S) j)))), .long (lN (lc_sb (st_B S) ((lc_hx (st_B S) j)))), .int (nI (lc_tot (lc_sa (st_B S) ((lc_hx (st_B S) j))) (lc_sb (st_B S) ((lc_hx (st_B S) j)))))])) := hDB.1 _ hk3_j
      refine lv_astore (lv' := [(4, .ref (A (200 + j))), (3, .null), (0, .ref (A 0)), (1, .int c0), (2, .int h)]) hx hb dX7_follow_14 hl (by decide) rfl (fun ls hl => ?_)
      refine lv_aload_nN hx hb dX7_follow_16 rfl (lv_at hl 1 rfl) ?_
      refine lv_ifnullN (tgt := 25) hx hb dX7_follow_17 (by decide) ?_
      refine lv_iconst (v := (-1)) hx hb dX7_follow_25 (by decide) ?_
      exact wg_iret F hP hS hr hlk (⟨rfl, by unfold op_follow; first | (rw [hx_i, hx_j]; done) | (rw [hx_i, hx_j]; rfl), by unfold op_follow; first | (rw [hx_i, hx_j]; exact hX), fun _ _ => rfl⟩) dX7_follow_26
  · refine wg_some (x := A (20 + i)) (by rw [w_2, lc_at_ix (by omega) x5f, hx_i]; rfl) ?_
    obtain ⟨hi, ei, ti⟩ := lc_ix_some hx_i
    obtain ⟨fc_i, xc1_i, xc2_i, xc3_i, xcf_i⟩ := xc i hi
    obtain ⟨icn_i, icg_i⟩ := icl i hi
    refine lv_astore_n (lv' := [(3, .ref (A (20 + i))), (0, .ref (A 0)), (1, .int c0), (2, .int h)]) hx hb dX7_follow_5 rfl hl (by decide) rfl (fun ls hl => ?_)
    refine lv_aload_n hx hb dX7_follow_6 rfl (lv_at hl 1 rfl) ?_
    refine wg_get F hP x0 rfl iw_X7 2 (by decide) tb_165 rfl rfl dX7_follow_7 ?_
    refine lv_iload_n hx hb dX7_follow_10 rfl (lv_at hl 3 rfl) ?_
    refine wg_cq hS (wg_rVN (As := [.int h]) (rest := []) F hP hS (c_X3_at l E A C 2 3 60 (lc_nh (st_B S)) f3 h inh (by decide) x2 x3) ok_X3_at nb_291 rfl rfl ⟨Nat.le_of_ble_eq_true rfl, Nat.le_of_ble_eq_true rfl⟩ x2 rfl rfl rfl hl.1 rfl (Nat.le_of_ble_eq_true rfl) dX7_follow_11 ⟨Nat.le_of_ble_eq_true rfl, Nat.le_of_ble_eq_true rfl⟩) (fun r_11 A1 C_11 H locs w_11 hP hS => ?_)
    obtain ⟨w_11, rfl, rfl⟩ := w_11
    rcases hx_j : lc_ix h (lc_nh (st_B S)) with _ | j
    · refine wg_none (by rw [w_11, lc_at_ix (by omega) x3f, hx_j]; rfl) ?_
      refine lv_astoreN (lv' := [(4, .null), (3, .ref (A (20 + i))), (0, .ref (A 0)), (1, .int c0), (2, .int h)]) hx hb dX7_follow_14 hl (by decide) rfl (fun ls hl => ?_)
      refine lv_aload_n hx hb dX7_follow_16 rfl (lv_at hl 1 rfl) ?_
      refine lv_ifnull hx hb dX7_follow_17 ?_
      refine lv_aloadN hx hb dX7_follow_20 (lv_at hl 0 rfl) ?_
      refine lv_ifnonnullN hx hb dX7_follow_22 ?_
      refine lv_iconst (v := (-1)) hx hb dX7_follow_25 (by decide) ?_
      exact wg_iret F hP hS hr hlk (⟨rfl, by unfold op_follow; first | (rw [hx_i, hx_j]; done) | (rw [hx_i, hx_j]; rfl), by unfold op_follow; first | (rw [hx_i, hx_j]; exact hX), fun _ _ => rfl⟩) dX7_follow_26
    · refine wg_some (x := A (200 + j)) (by rw [w_11, lc_at_ix (by omega) x3f, hx_j]; rfl) ?_
      obtain ⟨hj, ej, tj⟩ := lc_ix_some hx_j
      have xh_j : C (200 + j) = some (.inr (2, [.int (nI j), .int (nI (lc_hh (st_B S) j)), .long (lc_hp (st_B S) j), .ref (A (100 + lc_ho (st_B S) j)), .ref (A (100 + lc_hx (st_B S) j)), .long (lc_hr (st_B S) j), .long (lc_dig (st_B S) j), .int (nI (lc_sg (st_B S) j))])) := hDB.2.1 _ hj
      obtain ⟨hk1_j, hk2_j, hk3_j, hk4_j⟩ := iok.2.2.2 _ hj
      have xho_j : C (100 + lc_ho (st_B S) j) = some (.inr (6, [.int (nI ((lc_ho (st_B S) j))), .long (lN (lc_sa (st_B S) ((lc_ho (st_B S) j)))), .long (lN (lc_sb (st_B S) ((lc_ho (st_B S) j)))), .int (nI (lc_tot (lc_sa (st_B S) ((lc_ho (st_B S) j))) (lc_sb (st_B S) ((lc_ho (st_B S) j)))))])) := hDB.1 _ hk2_j
      have xhx_j : C (100 + lc_hx (st_B S) j) = some (.inr (6, [.int (nI ((lc_hx (st_B S) j))), .long (lN (lc_sa (st_B S) ((lc_hx (st_B S) j)))), .long (lN (lc_sb (st_B S) ((lc_hx (st_B S) j)))), .int (nI (lc_tot (lc_sa (st_B S) ((lc_hx (st_B S) j))) (lc_sb (st_B S) ((lc_hx (st_B S) j)))))])) := hDB.1 _ hk3_j
      refine lv_astore (lv' := [(4, .ref (A (200 + j))), (3, .ref (A (20 + i))), (0, .ref (A 0)), (1, .int c0), (2, .int h)]) hx hb dX7_follow_14 hl (by decide) rfl (fun ls hl => ?_)
      refine lv_aload_n hx hb dX7_follow_16 rfl (lv_at hl 1 rfl) ?_
      refine lv_ifnull hx hb dX7_follow_17 ?_
      refine lv_aload hx hb dX7_follow_20 (lv_at hl 0 rfl) ?_
      refine lv_ifnonnull (tgt := 27) hx hb dX7_follow_22 (by decide) ?_
      refine lv_aload_n hx hb dX7_follow_27 rfl (lv_at hl 1 rfl) ?_
      refine wg_cq hS (wg_rVN (As := []) (rest := []) F hP hS (c_X0_trusted l E A C i (st_cn S i) fc_i (st_co S i) (st_rb S i) (st_ra S i) (by omega) xc1_i xc2_i xc3_i) ok_X0_trusted nb_350 rfl rfl ⟨Nat.le_of_ble_eq_true rfl, Nat.le_of_ble_eq_true rfl⟩ xc1_i rfl rfl rfl hl.1 rfl (Nat.le_of_ble_eq_true rfl) dX7_follow_28 ⟨Nat.le_of_ble_eq_true rfl, Nat.le_of_ble_eq_true rfl⟩) (fun r_28 A1 C_28 H locs w_28 hP hS => ?_)
      obtain ⟨w_28, rfl, rfl⟩ := w_28
      by_cases hcn : st_cn S i = 0
      · refine wg_none (by rw [w_28, hcn]; exact lc_at_out (Or.inl (by decide)) (by decide)) ?_
        refine lv_astoreN (lv' := [(5, .null), (4, .ref (A (200 + j))), (3, .ref (A (20 + i))), (0, .ref (A 0)), (1, .int c0), (2, .int h)]) hx hb dX7_follow_31 hl (by decide) rfl (fun ls hl => ?_)
        refine lv_aloadN hx hb dX7_follow_33 (lv_at hl 0 rfl) ?_
        refine lv_ifnonnullN hx hb dX7_follow_35 ?_
        have hop : op_follow S c0 h = (-2, S) := by unfold op_follow; rw [hx_i, hx_j]; exact if_pos hcn
        refine lv_bipush (v := (-2)) hx hb dX7_follow_38 (by decide) ?_
        exact wg_iret F hP hS hr hlk (⟨rfl, by rw [hop], by rw [hop]; exact hX, fun _ _ => rfl⟩) dX7_follow_40
      · refine wg_some (x := A (200 + st_t S i)) (by rw [w_28, show (1 : Int32) = nI 1 from rfl, pk_sub (by omega), lc_at_in (by omega) (by omega)]; exact xcf_i _ (by omega)) ?_
        have xh_t : C (200 + st_t S i) = some (.inr (2, [.int (nI (st_t S i)), .int (nI (lc_hh (st_B S) (st_t S i))), .long (lc_hp (st_B S) (st_t S i)), .ref (A (100 + lc_ho (st_B S) (st_t S i))), .ref (A (100 + lc_hx (st_B S) (st_t S i))), .long (lc_hr (st_B S) (st_t S i)), .long (lc_dig (st_B S) (st_t S i)), .int (nI (lc_sg (st_B S) (st_t S i)))])) := hDB.2.1 _ (icg_i (st_cn S i - 1) (by omega))
        obtain ⟨hk1_t, hk2_t, hk3_t, hk4_t⟩ := iok.2.2.2 _ (icg_i (st_cn S i - 1) (by omega))
        have xho_t : C (100 + lc_ho (st_B S) (st_t S i)) = some (.inr (6, [.int (nI ((lc_ho (st_B S) (st_t S i)))), .long (lN (lc_sa (st_B S) ((lc_ho (st_B S) (st_t S i))))), .long (lN (lc_sb (st_B S) ((lc_ho (st_B S) (st_t S i))))), .int (nI (lc_tot (lc_sa (st_B S) ((lc_ho (st_B S) (st_t S i)))) (lc_sb (st_B S) ((lc_ho (st_B S) (st_t S i))))))])) := hDB.1 _ hk2_t
        have xhx_t : C (100 + lc_hx (st_B S) (st_t S i)) = some (.inr (6, [.int (nI ((lc_hx (st_B S) (st_t S i)))), .long (lN (lc_sa (st_B S) ((lc_hx (st_B S) (st_t S i))))), .long (lN (lc_sb (st_B S) ((lc_hx (st_B S) (st_t S i))))), .int (nI (lc_tot (lc_sa (st_B S) ((lc_hx (st_B S) (st_t S i)))) (lc_sb (st_B S) ((lc_hx (st_B S) (st_t S i))))))])) := hDB.1 _ hk3_t
        refine lv_astore (lv' := [(5, .ref (A (200 + st_t S i))), (4, .ref (A (200 + j))), (3, .ref (A (20 + i))), (0, .ref (A 0)), (1, .int c0), (2, .int h)]) hx hb dX7_follow_31 hl (by decide) rfl (fun ls hl => ?_)
        refine lv_aload hx hb dX7_follow_33 (lv_at hl 0 rfl) ?_
        refine lv_ifnonnull (tgt := 41) hx hb dX7_follow_35 (by decide) ?_
        refine lv_aload_n hx hb dX7_follow_41 rfl (lv_at hl 3 rfl) ?_
        refine lv_aload hx hb dX7_follow_42 (lv_at hl 0 rfl) ?_
        refine lv_aload hx hb dX7_follow_44 (lv_at hl 1 rfl) ?_
        refine wg_ci hS (wg_rV (As := [.ref (A (200 + st_t S i)), .ref (A (200 + j))]) (rest := []) F hP hS (c_X7_refusal l E A C (lc_ns (st_B S)) (st_tm S) (st_B S) (st_t S i) j hDB (icg_i _ (by omega)) hj itm x0 x4) ok_X7_refusal tb_355 rfl rfl ⟨Nat.le_of_ble_eq_true rfl, Nat.le_of_ble_eq_true rfl⟩ x0 rfl rfl rfl hl.1 rfl (Nat.le_of_ble_eq_true rfl) dX7_follow_46 ⟨Nat.le_of_ble_eq_true rfl, Nat.le_of_ble_eq_true rfl⟩) (fun r_46 A1 C_46 H locs w_46 hP hS => ?_)
        obtain ⟨w_46, rfl, rfl⟩ := w_46
        have hw6 := lc_why_le (st_B S) (st_tm S) (st_t S i) j
        refine wg_topi (y := nI (lc_why (st_B S) (st_tm S) (st_t S i) j)) w_46 ?_
        refine lv_istore (lv' := [(6, .int (nI (lc_why (st_B S) (st_tm S) (st_t S i) j))), (5, .ref (A (200 + st_t S i))), (4, .ref (A (200 + j))), (3, .ref (A (20 + i))), (0, .ref (A 0)), (1, .int c0), (2, .int h)]) hx hb dX7_follow_49 hl (by decide) rfl (fun ls hl => ?_)
        refine lv_iload hx hb dX7_follow_51 (lv_at hl 0 rfl) ?_
        refine lv_if_eq (tgt := 68) hx hb dX7_follow_53 (by decide) (fun c_53 => ?_) (fun c_53 => ?_)
        · have hy : lc_why (st_B S) (st_tm S) (st_t S i) j = 0 := by rw [← nI_0, nI_eq (by omega) (by decide)] at c_53; exact c_53
          have hop : op_follow S c0 h = (1, st_keep S i j) := by unfold op_follow; rw [hx_i, hx_j]; simp only []; rw [if_neg hcn, if_pos hy]
          refine lv_aload_n hx hb dX7_follow_68 rfl (lv_at hl 3 rfl) ?_
          refine lv_aload hx hb dX7_follow_69 (lv_at hl 2 rfl) ?_
          refine lv_aload_n hx hb dX7_follow_71 rfl (lv_at hl 4 rfl) ?_
          refine wg_get F hP x0 rfl iw_X7 3 (by decide) tb_166 rfl rfl dX7_follow_72 ?_
          refine lv_iconst (v := 3) hx hb dX7_follow_75 (by decide) ?_
          refine wg_ild F hP x4 (vp_in_nI (n := 3) (by decide) (by decide)) dX7_follow_76 ?_
          refine wg_topi (y := nI (st_tm S 3)) rfl ?_
          refine wg_cv hS (wg_rVN (As := [.ref (A (200 + j)), .int (nI (st_tm S 3))]) (rest := []) F hP hS (c_X0_keep l E A C i (st_cn S i) fc_i (st_co S i) (st_rb S i) (st_ra S i) (st_cg S i) (st_B S) j (st_tm S 3) hi icn_i (by omega) itm3b xcf_i icg_i hDB hj xc1_i xc2_i xc3_i) ok_X0_keep nb_371 rfl rfl ⟨Nat.le_of_ble_eq_true rfl, Nat.le_of_ble_eq_true rfl⟩ xc1_i rfl rfl rfl hl.1 rfl (Nat.le_of_ble_eq_true rfl) dX7_follow_77 ⟨Nat.le_of_ble_eq_true rfl, Nat.le_of_ble_eq_true rfl⟩) (fun A1 C_77 H locs w_77 hP hS => ?_)
          obtain ⟨rfl, hfr_77, n2, fn, n3, nf⟩ := w_77
          have x0_c77 : C_77 0 = some (.inr (7, [.ref (A 1), .int (nI (lc_ns (st_B S))), .ref (A 2), .ref (A 4), .ref (A 5), .ref (A 6), .ref (A 7), .ref (A 8), .ref (A 11)])) := by rw [hfr_77 0 (by omega) (by omega)]; exact x0
          have x1_c77 : C_77 1 = some (.inl (E.2.1 3, 16, .inr (.inr (.inr (.inr f1))))) := by rw [hfr_77 1 (by omega) (by omega)]; exact x1
          have x2_c77 : C_77 2 = some (.inr (3, [.ref (A 3), .int (nI (lc_nh (st_B S)))])) := by rw [hfr_77 2 (by omega) (by omega)]; exact x2
          have x3_c77 : C_77 3 = some (.inl (E.2.1 4, 60, .inr (.inr (.inr (.inr f3))))) := by rw [hfr_77 3 (by omega) (by omega)]; exact x3
          have x4_c77 : C_77 4 = some (.inl (E.2.1 0, 4, .inl (fun k => nI (st_tm S k)))) := by rw [hfr_77 4 (by omega) (by omega)]; exact x4
          have x5_c77 : C_77 5 = some (.inl (E.2.1 5, 4, .inr (.inr (.inr (.inr f5))))) := by rw [hfr_77 5 (by omega) (by omega)]; exact x5
          have x6_c77 : C_77 6 = some (.inl (E.2.1 6, 4, .inr (.inr (.inr (.inr f6))))) := by rw [hfr_77 6 (by omega) (by omega)]; exact x6
          have x7_c77 : C_77 7 = some (.inl (E.2.1 0, 32, .inl f7)) := by rw [hfr_77 7 (by omega) (by omega)]; exact x7
          have x8_c77 : C_77 8 = some (.inr (5, [.ref (A 9), .ref (A 10)])) := by rw [hfr_77 8 (by omega) (by omega)]; exact x8
          have x9_c77 : C_77 9 = some (.inl (E.2.1 1, 8, .inr (.inl ((st_lf S))))) := by rw [hfr_77 9 (by omega) (by omega)]; exact x9
          have x10_c77 : C_77 10 = some (.inl (E.2.1 1, 16, .inr (.inl nd))) := by rw [hfr_77 10 (by omega) (by omega)]; exact x10
          have x11_c77 : C_77 11 = some (.inr (4, [.int (nI (st_pa S)), .int (nI (st_pb S)), .long (st_va S), .long (st_vb S), .ref (A 12), .int (nI (lc_cnt (st_pa S) (st_pb S) 1)), .ref (A 13)])) := by rw [hfr_77 11 (by omega) (by omega)]; exact x11
          have x12_c77 : C_77 12 = some (.inl (E.2.1 1, 4, .inr (.inl ((st_pn S))))) := by rw [hfr_77 12 (by omega) (by omega)]; exact x12
          have x13_c77 : C_77 13 = some (.inl (E.2.1 1, 16, .inr (.inl rk))) := by rw [hfr_77 13 (by omega) (by omega)]; exact x13
          have xc1_i_c77 : C_77 (20 + i) = some (.inr (0, [.ref (A (24 + i)), .int (st_co S i), .int (st_rb S i), .int (st_ra S i)])) := by rw [hfr_77 (20 + i) (by omega) (by omega)]; exact xc1_i
          have xh_j_c77 : C_77 (200 + j) = some (.inr (2, [.int (nI j), .int (nI (lc_hh (st_B S) j)), .long (lc_hp (st_B S) j), .ref (A (100 + lc_ho (st_B S) j)), .ref (A (100 + lc_hx (st_B S) j)), .long (lc_hr (st_B S) j), .long (lc_dig (st_B S) j), .int (nI (lc_sg (st_B S) j))])) := by rw [hfr_77 (200 + j) (by omega) (by omega)]; exact xh_j
          have xho_j_c77 : C_77 (100 + lc_ho (st_B S) j) = some (.inr (6, [.int (nI ((lc_ho (st_B S) j))), .long (lN (lc_sa (st_B S) ((lc_ho (st_B S) j)))), .long (lN (lc_sb (st_B S) ((lc_ho (st_B S) j)))), .int (nI (lc_tot (lc_sa (st_B S) ((lc_ho (st_B S) j))) (lc_sb (st_B S) ((lc_ho (st_B S) j)))))])) := by rw [hfr_77 (100 + lc_ho (st_B S) j) (by omega) (by omega)]; exact xho_j
          have xhx_j_c77 : C_77 (100 + lc_hx (st_B S) j) = some (.inr (6, [.int (nI ((lc_hx (st_B S) j))), .long (lN (lc_sa (st_B S) ((lc_hx (st_B S) j)))), .long (lN (lc_sb (st_B S) ((lc_hx (st_B S) j)))), .int (nI (lc_tot (lc_sa (st_B S) ((lc_hx (st_B S) j))) (lc_sb (st_B S) ((lc_hx (st_B S) j)))))])) := by rw [hfr_77 (100 + lc_hx (st_B S) j) (by omega) (by omega)]; exact xhx_j
          have xh_t_c77 : C_77 (200 + st_t S i) = some (.inr (2, [.int (nI (st_t S i)), .int (nI (lc_hh (st_B S) (st_t S i))), .long (lc_hp (st_B S) (st_t S i)), .ref (A (100 + lc_ho (st_B S) (st_t S i))), .ref (A (100 + lc_hx (st_B S) (st_t S i))), .long (lc_hr (st_B S) (st_t S i)), .long (lc_dig (st_B S) (st_t S i)), .int (nI (lc_sg (st_B S) (st_t S i)))])) := by rw [hfr_77 (200 + st_t S i) (by omega) (by omega)]; exact xh_t
          have xho_t_c77 : C_77 (100 + lc_ho (st_B S) (st_t S i)) = some (.inr (6, [.int (nI ((lc_ho (st_B S) (st_t S i)))), .long (lN (lc_sa (st_B S) ((lc_ho (st_B S) (st_t S i))))), .long (lN (lc_sb (st_B S) ((lc_ho (st_B S) (st_t S i))))), .int (nI (lc_tot (lc_sa (st_B S) ((lc_ho (st_B S) (st_t S i)))) (lc_sb (st_B S) ((lc_ho (st_B S) (st_t S i))))))])) := by rw [hfr_77 (100 + lc_ho (st_B S) (st_t S i)) (by omega) (by omega)]; exact xho_t
          have xhx_t_c77 : C_77 (100 + lc_hx (st_B S) (st_t S i)) = some (.inr (6, [.int (nI ((lc_hx (st_B S) (st_t S i)))), .long (lN (lc_sa (st_B S) ((lc_hx (st_B S) (st_t S i))))), .long (lN (lc_sb (st_B S) ((lc_hx (st_B S) (st_t S i))))), .int (nI (lc_tot (lc_sa (st_B S) ((lc_hx (st_B S) (st_t S i)))) (lc_sb (st_B S) ((lc_hx (st_B S) (st_t S i))))))])) := by rw [hfr_77 (100 + lc_hx (st_B S) (st_t S i)) (by omega) (by omega)]; exact xhx_t
          have hfr : ∀ r, r ≠ 20 + i → r ≠ 24 + i → r ≠ 28 + i → C_77 r = C r := fun r _ h2 h3 => hfr_77 r h2 h3
          have hcl := lx_cup (S := S) xc hfr hi (co := st_co S i) (rb := st_rb S i) (ra := st_ra S i) ⟨fn, xc1_i_c77, n2, n3, nf⟩
          rw [lc_vid, lc_vid, lc_vid] at hcl
          refine lv_iconst (v := 1) hx hb dX7_follow_80 (by decide) ?_
          exact wg_iret F hP hS hr hlk (⟨rfl, by rw [hop], by rw [hop]; exact ⟨(hfr 0 (by omega) (by omega) (by omega)).trans hX.1, hX.2.1.same (hfr 1 (by omega) (by omega) (by omega)), (hfr 2 (by omega) (by omega) (by omega)).trans hX.2.2.1, hX.2.2.2.1.same (hfr 3 (by omega) (by omega) (by omega)), (hfr 4 (by omega) (by omega) (by omega)).trans hX.2.2.2.2.1, hX.2.2.2.2.2.1.same (hfr 5 (by omega) (by omega) (by omega)), hX.2.2.2.2.2.2.1.same (hfr 6 (by omega) (by omega) (by omega)), hX.2.2.2.2.2.2.2.1.same (hfr 7 (by omega) (by omega) (by omega)), hX.2.2.2.2.2.2.2.2.1.same (fun r h1 h2 => hfr r (by omega) (by omega) (by omega)), hX.2.2.2.2.2.2.2.2.2.1.same (fun r h1 h2 => hfr r (by omega) (by omega) (by omega)), hcl, fun i2 hi2 => (hX.2.2.2.2.2.2.2.2.2.2.2.1 i2 hi2).same (fun r h1 => hfr r (by omega) (by omega) (by omega)), hX.2.2.2.2.2.2.2.2.2.2.2.2.same (fun r h1 h2 => hfr r (by omega) (by omega) (by omega))⟩, fun q hq => hfr q (by omega) (by omega) (by omega)⟩) dX7_follow_81
        · have hy : ¬ lc_why (st_B S) (st_tm S) (st_t S i) j = 0 := by rw [← nI_0, nI_eq (by omega) (by decide)] at c_53; exact c_53
          have hop : op_follow S c0 h = (-10 - nI (lc_why (st_B S) (st_tm S) (st_t S i) j), st_ref S i (nI (lc_why (st_B S) (st_tm S) (st_t S i) j)) (nI (lc_hh (st_B S) j))) := by unfold op_follow; rw [hx_i, hx_j]; simp only []; rw [if_neg hcn, if_neg hy]
          refine lv_aload_n hx hb dX7_follow_56 rfl (lv_at hl 3 rfl) ?_
          refine lv_iload hx hb dX7_follow_57 (lv_at hl 0 rfl) ?_
          refine lv_aload hx hb dX7_follow_59 (lv_at hl 2 rfl) ?_
          refine wg_getN F hP xh_j rfl iw_X2 1 (by decide) nb_251 rfl rfl dX7_follow_61 ?_
          refine wg_ci hS (wg_rVN (As := [.int (nI (lc_why (st_B S) (st_tm S) (st_t S i) j)), .int (nI (lc_hh (st_B S) j))]) (rest := []) F hP hS (c_X0_refuse l E A C i (st_cn S i) fc_i (st_co S i) (st_rb S i) (st_ra S i) _ _ hi xc1_i) ok_X0_refuse nb_367 rfl rfl ⟨Nat.le_of_ble_eq_true rfl, Nat.le_of_ble_eq_true rfl⟩ xc1_i rfl rfl rfl hl.1 rfl (Nat.le_of_ble_eq_true rfl) dX7_follow_64 ⟨Nat.le_of_ble_eq_true rfl, Nat.le_of_ble_eq_true rfl⟩) (fun r_64 A1 C_64 H locs w_64 hP hS => ?_)
          obtain ⟨w_64, rfl, hC_64⟩ := w_64
          have x0_c64 : C_64 0 = some (.inr (7, [.ref (A 1), .int (nI (lc_ns (st_B S))), .ref (A 2), .ref (A 4), .ref (A 5), .ref (A 6), .ref (A 7), .ref (A 8), .ref (A 11)])) := by rw [hC_64]; rw [va_up_ne _ _ (by omega)]; exact x0
          have x1_c64 : C_64 1 = some (.inl (E.2.1 3, 16, .inr (.inr (.inr (.inr f1))))) := by rw [hC_64]; rw [va_up_ne _ _ (by omega)]; exact x1
          have x2_c64 : C_64 2 = some (.inr (3, [.ref (A 3), .int (nI (lc_nh (st_B S)))])) := by rw [hC_64]; rw [va_up_ne _ _ (by omega)]; exact x2
          have x3_c64 : C_64 3 = some (.inl (E.2.1 4, 60, .inr (.inr (.inr (.inr f3))))) := by rw [hC_64]; rw [va_up_ne _ _ (by omega)]; exact x3
          have x4_c64 : C_64 4 = some (.inl (E.2.1 0, 4, .inl (fun k => nI (st_tm S k)))) := by rw [hC_64]; rw [va_up_ne _ _ (by omega)]; exact x4
          have x5_c64 : C_64 5 = some (.inl (E.2.1 5, 4, .inr (.inr (.inr (.inr f5))))) := by rw [hC_64]; rw [va_up_ne _ _ (by omega)]; exact x5
          have x6_c64 : C_64 6 = some (.inl (E.2.1 6, 4, .inr (.inr (.inr (.inr f6))))) := by rw [hC_64]; rw [va_up_ne _ _ (by omega)]; exact x6
          have x7_c64 : C_64 7 = some (.inl (E.2.1 0, 32, .inl f7)) := by rw [hC_64]; rw [va_up_ne _ _ (by omega)]; exact x7
          have x8_c64 : C_64 8 = some (.inr (5, [.ref (A 9), .ref (A 10)])) := by rw [hC_64]; rw [va_up_ne _ _ (by omega)]; exact x8
          have x9_c64 : C_64 9 = some (.inl (E.2.1 1, 8, .inr (.inl ((st_lf S))))) := by rw [hC_64]; rw [va_up_ne _ _ (by omega)]; exact x9
          have x10_c64 : C_64 10 = some (.inl (E.2.1 1, 16, .inr (.inl nd))) := by rw [hC_64]; rw [va_up_ne _ _ (by omega)]; exact x10
          have x11_c64 : C_64 11 = some (.inr (4, [.int (nI (st_pa S)), .int (nI (st_pb S)), .long (st_va S), .long (st_vb S), .ref (A 12), .int (nI (lc_cnt (st_pa S) (st_pb S) 1)), .ref (A 13)])) := by rw [hC_64]; rw [va_up_ne _ _ (by omega)]; exact x11
          have x12_c64 : C_64 12 = some (.inl (E.2.1 1, 4, .inr (.inl ((st_pn S))))) := by rw [hC_64]; rw [va_up_ne _ _ (by omega)]; exact x12
          have x13_c64 : C_64 13 = some (.inl (E.2.1 1, 16, .inr (.inl rk))) := by rw [hC_64]; rw [va_up_ne _ _ (by omega)]; exact x13
          have xc1_i_c64 : C_64 (20 + i) = some (.inr (0, [.ref (A (24 + i)), .int (st_co S i), .int (nI (lc_why (st_B S) (st_tm S) (st_t S i) j)), .int (nI (lc_hh (st_B S) j))])) := by rw [hC_64]; exact va_up_self _ _ _
          have xc2_i_c64 : C_64 (24 + i) = some (.inr (3, [.ref (A (28 + i)), .int (nI (st_cn S i))])) := by rw [hC_64]; rw [va_up_ne _ _ (by omega)]; exact xc2_i
          have xc3_i_c64 : C_64 (28 + i) = some (.inl (E.2.1 4, 11, .inr (.inr (.inr (.inr fc_i))))) := by rw [hC_64]; rw [va_up_ne _ _ (by omega)]; exact xc3_i
          have xh_j_c64 : C_64 (200 + j) = some (.inr (2, [.int (nI j), .int (nI (lc_hh (st_B S) j)), .long (lc_hp (st_B S) j), .ref (A (100 + lc_ho (st_B S) j)), .ref (A (100 + lc_hx (st_B S) j)), .long (lc_hr (st_B S) j), .long (lc_dig (st_B S) j), .int (nI (lc_sg (st_B S) j))])) := by rw [hC_64]; rw [va_up_ne _ _ (by omega)]; exact xh_j
          have xho_j_c64 : C_64 (100 + lc_ho (st_B S) j) = some (.inr (6, [.int (nI ((lc_ho (st_B S) j))), .long (lN (lc_sa (st_B S) ((lc_ho (st_B S) j)))), .long (lN (lc_sb (st_B S) ((lc_ho (st_B S) j)))), .int (nI (lc_tot (lc_sa (st_B S) ((lc_ho (st_B S) j))) (lc_sb (st_B S) ((lc_ho (st_B S) j)))))])) := by rw [hC_64]; rw [va_up_ne _ _ (by omega)]; exact xho_j
          have xhx_j_c64 : C_64 (100 + lc_hx (st_B S) j) = some (.inr (6, [.int (nI ((lc_hx (st_B S) j))), .long (lN (lc_sa (st_B S) ((lc_hx (st_B S) j)))), .long (lN (lc_sb (st_B S) ((lc_hx (st_B S) j)))), .int (nI (lc_tot (lc_sa (st_B S) ((lc_hx (st_B S) j))) (lc_sb (st_B S) ((lc_hx (st_B S) j)))))])) := by rw [hC_64]; rw [va_up_ne _ _ (by omega)]; exact xhx_j
          have xh_t_c64 : C_64 (200 + st_t S i) = some (.inr (2, [.int (nI (st_t S i)), .int (nI (lc_hh (st_B S) (st_t S i))), .long (lc_hp (st_B S) (st_t S i)), .ref (A (100 + lc_ho (st_B S) (st_t S i))), .ref (A (100 + lc_hx (st_B S) (st_t S i))), .long (lc_hr (st_B S) (st_t S i)), .long (lc_dig (st_B S) (st_t S i)), .int (nI (lc_sg (st_B S) (st_t S i)))])) := by rw [hC_64]; rw [va_up_ne _ _ (by omega)]; exact xh_t
          have xho_t_c64 : C_64 (100 + lc_ho (st_B S) (st_t S i)) = some (.inr (6, [.int (nI ((lc_ho (st_B S) (st_t S i)))), .long (lN (lc_sa (st_B S) ((lc_ho (st_B S) (st_t S i))))), .long (lN (lc_sb (st_B S) ((lc_ho (st_B S) (st_t S i))))), .int (nI (lc_tot (lc_sa (st_B S) ((lc_ho (st_B S) (st_t S i)))) (lc_sb (st_B S) ((lc_ho (st_B S) (st_t S i))))))])) := by rw [hC_64]; rw [va_up_ne _ _ (by omega)]; exact xho_t
          have xhx_t_c64 : C_64 (100 + lc_hx (st_B S) (st_t S i)) = some (.inr (6, [.int (nI ((lc_hx (st_B S) (st_t S i)))), .long (lN (lc_sa (st_B S) ((lc_hx (st_B S) (st_t S i))))), .long (lN (lc_sb (st_B S) ((lc_hx (st_B S) (st_t S i))))), .int (nI (lc_tot (lc_sa (st_B S) ((lc_hx (st_B S) (st_t S i)))) (lc_sb (st_B S) ((lc_hx (st_B S) (st_t S i))))))])) := by rw [hC_64]; rw [va_up_ne _ _ (by omega)]; exact xhx_t
          have hfr : ∀ r, r ≠ 20 + i → r ≠ 24 + i → r ≠ 28 + i → C_64 r = C r := fun r h1 _ _ => by rw [hC_64, va_up_ne _ _ h1]
          have hcl := lx_cup (S := S) xc hfr hi (n := st_cn S i) (g := st_cg S i) (co := st_co S i) ⟨fc_i, xc1_i_c64, xc2_i_c64, xc3_i_c64, xcf_i⟩
          rw [lc_vid, lc_vid, lc_vid] at hcl
          exact wg_iret F hP hS hr hlk (⟨rfl, by rw [hop]; exact w_64, by rw [hop]; exact ⟨(hfr 0 (by omega) (by omega) (by omega)).trans hX.1, hX.2.1.same (hfr 1 (by omega) (by omega) (by omega)), (hfr 2 (by omega) (by omega) (by omega)).trans hX.2.2.1, hX.2.2.2.1.same (hfr 3 (by omega) (by omega) (by omega)), (hfr 4 (by omega) (by omega) (by omega)).trans hX.2.2.2.2.1, hX.2.2.2.2.2.1.same (hfr 5 (by omega) (by omega) (by omega)), hX.2.2.2.2.2.2.1.same (hfr 6 (by omega) (by omega) (by omega)), hX.2.2.2.2.2.2.2.1.same (hfr 7 (by omega) (by omega) (by omega)), hX.2.2.2.2.2.2.2.2.1.same (fun r h1 h2 => hfr r (by omega) (by omega) (by omega)), hX.2.2.2.2.2.2.2.2.2.1.same (fun r h1 h2 => hfr r (by omega) (by omega) (by omega)), hcl, fun i2 hi2 => (hX.2.2.2.2.2.2.2.2.2.2.2.1 i2 hi2).same (fun r h1 => hfr r (by omega) (by omega) (by omega)), hX.2.2.2.2.2.2.2.2.2.2.2.2.same (fun r h1 h2 => hfr r (by omega) (by omega) (by omega))⟩, fun q hq => hfr q (by omega) (by omega) (by omega)⟩) dX7_follow_67
set_option maxHeartbeats 4000000 in
set_option maxRecDepth 100000 in
theorem c_X7_give (l : Launch) (E : wg_E) (A : Nat → Nat) (C : wg_C) (S : lc_S) (g0 h : Int32) (hX : lx E A C S) (hI : lc_inv S)  : Met l yX7_give (wg_ws yX7_give cX7_give 6 (some .int)) (wg_rm 3 0 0) (wg_Pc E A C [.ref (A 0), .int g0, .int h]) (wg_Qi E (fun r A1 C1 => A = A1 ∧ r = (op_give S g0 h).1 ∧ lx E A C1 (op_give S g0 h).2 ∧ ∀ q, 1000 ≤ q → C1 q = C q)) 0 0 (wg_A E) := by
  refine wg_met (by decide) (Nat.le_of_ble_eq_true rfl) ?_
  intro p e s m below meth c ls F hr hlk hnm hP hS hl
  have F : wg_F p m c cX7_give 6 s ([.ref (A 0), .int g0, .int h] : List Value).toArray "LightChecks" E := F
  have hx := F.1
  have hb := F.2.1
  have hml := F.2.2.1
  have hown := F.2.2.2.1
  have hts := F.2.2.2.2.1
  have hl : lv_has ls 6 [(0, .ref (A 0)), (1, .int g0), (2, .int h)] := hl
  obtain ⟨x0, ⟨f1, x1, x1f⟩, x2, ⟨f3, x3, x3f⟩, x4, ⟨f5, x5, x5f⟩, ⟨f6, x6, x6f⟩, ⟨f7, x7⟩, ⟨x8, x9, nd, x10, hnd⟩, ⟨x11, x12, rk, x13⟩, xc, xg, hDB⟩ := id hX
  obtain ⟨iok, ⟨itm, itm3a, itm3b⟩, icl, igv, ipa, ipb, ipab⟩ := id hI
  have ins := iok.1
  have inh := iok.2.1
  refine lv_aload_n hx hb dX7_give_0 rfl (lv_at hl 0 rfl) ?_
  refine lv_iload_n hx hb dX7_give_1 rfl (lv_at hl 1 rfl) ?_
  refine wg_cq hS (wg_rV (As := [.int g0]) (rest := []) F hP hS (c_X7_giverAt l E A C (lc_ns (st_B S)) f6 g0 x0 x6) ok_X7_giverAt tb_383 rfl rfl ⟨Nat.le_of_ble_eq_true rfl, Nat.le_of_ble_eq_true rfl⟩ x0 rfl rfl rfl hl.1 rfl (Nat.le_of_ble_eq_true rfl) dX7_give_2 ⟨Nat.le_of_ble_eq_true rfl, Nat.le_of_ble_eq_true rfl⟩) (fun r_2 A1 C_2 H locs w_2 hP hS => ?_)
  obtain ⟨w_2, rfl, rfl⟩ := w_2
  rcases hx_i : lc_ix g0 4 with _ | i
  · refine wg_none (by rw [w_2, lc_at_ix (by omega) x6f, hx_i]; rfl) ?_
    refine lv_astore_nN (lv' := [(3, .null), (0, .ref (A 0)), (1, .int g0), (2, .int h)]) hx hb dX7_give_5 rfl hl (by decide) rfl (fun ls hl => ?_)
    refine lv_aload_n hx hb dX7_give_6 rfl (lv_at hl 1 rfl) ?_
    refine wg_get F hP x0 rfl iw_X7 2 (by decide) tb_165 rfl rfl dX7_give_7 ?_
    refine lv_iload_n hx hb dX7_give_10 rfl (lv_at hl 3 rfl) ?_
    refine wg_cq hS (wg_rVN (As := [.int h]) (rest := []) F hP hS (c_X3_at l E A C 2 3 60 (lc_nh (st_B S)) f3 h inh (by decide) x2 x3) ok_X3_at nb_291 rfl rfl ⟨Nat.le_of_ble_eq_true rfl, Nat.le_of_ble_eq_true rfl⟩ x2 rfl rfl rfl hl.1 rfl (Nat.le_of_ble_eq_true rfl) dX7_give_11 ⟨Nat.le_of_ble_eq_true rfl, Nat.le_of_ble_eq_true rfl⟩) (fun r_11 A1 C_11 H locs w_11 hP hS => ?_)
    obtain ⟨w_11, rfl, rfl⟩ := w_11
    rcases hx_j : lc_ix h (lc_nh (st_B S)) with _ | j
    · refine wg_none (by rw [w_11, lc_at_ix (by omega) x3f, hx_j]; rfl) ?_
      refine lv_astoreN (lv' := [(4, .null), (3, .null), (0, .ref (A 0)), (1, .int g0), (2, .int h)]) hx hb dX7_give_14 hl (by decide) rfl (fun ls hl => ?_)
      refine lv_aload_nN hx hb dX7_give_16 rfl (lv_at hl 1 rfl) ?_
      refine lv_ifnullN (tgt := 25) hx hb dX7_give_17 (by decide) ?_
      refine lv_iconst (v := (-1)) hx hb dX7_give_25 (by decide) ?_
      exact wg_iret F hP hS hr hlk (⟨rfl, by unfold op_give; first | (rw [hx_i, hx_j]; done) | (rw [hx_i, hx_j]; rfl), by unfold op_give; first | (rw [hx_i, hx_j]; exact hX), fun _ _ => rfl⟩) dX7_give_26
    · refine wg_some (x := A (200 + j)) (by rw [w_11, lc_at_ix (by omega) x3f, hx_j]; rfl) ?_
      obtain ⟨hj, ej, tj⟩ := lc_ix_some hx_j
      have xh_j : C (200 + j) = some (.inr (2, [.int (nI j), .int (nI (lc_hh (st_B S) j)), .long (lc_hp (st_B S) j), .ref (A (100 + lc_ho (st_B S) j)), .ref (A (100 + lc_hx (st_B S) j)), .long (lc_hr (st_B S) j), .long (lc_dig (st_B S) j), .int (nI (lc_sg (st_B S) j))])) := hDB.2.1 _ hj
      obtain ⟨hk1_j, hk2_j, hk3_j, hk4_j⟩ := iok.2.2.2 _ hj
      have xho_j : C (100 + lc_ho (st_B S) j) = some (.inr (6, [.int (nI ((lc_ho (st_B S) j))), .long (lN (lc_sa (st_B S) ((lc_ho (st_B S) j)))), .long (lN (lc_sb (st_B S) ((lc_ho (st_B S) j)))), .int (nI (lc_tot (lc_sa (st_B S) ((lc_ho (st_B S) j))) (lc_sb (st_B S) ((lc_ho (st_B S) j)))))])) := hDB.1 _ hk2_j
      have xhx_j : C (100 + lc_hx (st_B S) j) = some (.inr (6, [.int (nI ((lc_hx (st_B S) j))), .long (lN (lc_sa (st_B S) ((lc_hx (st_B S) j)))), .long (lN (lc_sb (st_B S) ((lc_hx (st_B S) j)))), .int (nI (lc_tot (lc_sa (st_B S) ((lc_hx (st_B S) j))) (lc_sb (st_B S) ((lc_hx (st_B S) j)))))])) := hDB.1 _ hk3_j
      refine lv_astore (lv' := [(4, .ref (A (200 + j))), (3, .null), (0, .ref (A 0)), (1, .int g0), (2, .int h)]) hx hb dX7_give_14 hl (by decide) rfl (fun ls hl => ?_)
      refine lv_aload_nN hx hb dX7_give_16 rfl (lv_at hl 1 rfl) ?_
      refine lv_ifnullN (tgt := 25) hx hb dX7_give_17 (by decide) ?_
      refine lv_iconst (v := (-1)) hx hb dX7_give_25 (by decide) ?_
      exact wg_iret F hP hS hr hlk (⟨rfl, by unfold op_give; first | (rw [hx_i, hx_j]; done) | (rw [hx_i, hx_j]; rfl), by unfold op_give; first | (rw [hx_i, hx_j]; exact hX), fun _ _ => rfl⟩) dX7_give_26
  · refine wg_some (x := A (32 + i)) (by rw [w_2, lc_at_ix (by omega) x6f, hx_i]; rfl) ?_
    obtain ⟨hi, ei, ti⟩ := lc_ix_some hx_i
    obtain ⟨fg_i, xg1_i, xg2_i, xg3_i, xgf_i⟩ := xg i hi
    obtain ⟨ign_i, igg_i, igd_i⟩ := igv i hi
    refine lv_astore_n (lv' := [(3, .ref (A (32 + i))), (0, .ref (A 0)), (1, .int g0), (2, .int h)]) hx hb dX7_give_5 rfl hl (by decide) rfl (fun ls hl => ?_)
    refine lv_aload_n hx hb dX7_give_6 rfl (lv_at hl 1 rfl) ?_
    refine wg_get F hP x0 rfl iw_X7 2 (by decide) tb_165 rfl rfl dX7_give_7 ?_
    refine lv_iload_n hx hb dX7_give_10 rfl (lv_at hl 3 rfl) ?_
    refine wg_cq hS (wg_rVN (As := [.int h]) (rest := []) F hP hS (c_X3_at l E A C 2 3 60 (lc_nh (st_B S)) f3 h inh (by decide) x2 x3) ok_X3_at nb_291 rfl rfl ⟨Nat.le_of_ble_eq_true rfl, Nat.le_of_ble_eq_true rfl⟩ x2 rfl rfl rfl hl.1 rfl (Nat.le_of_ble_eq_true rfl) dX7_give_11 ⟨Nat.le_of_ble_eq_true rfl, Nat.le_of_ble_eq_true rfl⟩) (fun r_11 A1 C_11 H locs w_11 hP hS => ?_)
    obtain ⟨w_11, rfl, rfl⟩ := w_11
    rcases hx_j : lc_ix h (lc_nh (st_B S)) with _ | j
    · refine wg_none (by rw [w_11, lc_at_ix (by omega) x3f, hx_j]; rfl) ?_
      refine lv_astoreN (lv' := [(4, .null), (3, .ref (A (32 + i))), (0, .ref (A 0)), (1, .int g0), (2, .int h)]) hx hb dX7_give_14 hl (by decide) rfl (fun ls hl => ?_)
      refine lv_aload_n hx hb dX7_give_16 rfl (lv_at hl 1 rfl) ?_
      refine lv_ifnull hx hb dX7_give_17 ?_
      refine lv_aloadN hx hb dX7_give_20 (lv_at hl 0 rfl) ?_
      refine lv_ifnonnullN hx hb dX7_give_22 ?_
      refine lv_iconst (v := (-1)) hx hb dX7_give_25 (by decide) ?_
      exact wg_iret F hP hS hr hlk (⟨rfl, by unfold op_give; first | (rw [hx_i, hx_j]; done) | (rw [hx_i, hx_j]; rfl), by unfold op_give; first | (rw [hx_i, hx_j]; exact hX), fun _ _ => rfl⟩) dX7_give_26
    · refine wg_some (x := A (200 + j)) (by rw [w_11, lc_at_ix (by omega) x3f, hx_j]; rfl) ?_
      obtain ⟨hj, ej, tj⟩ := lc_ix_some hx_j
      have xh_j : C (200 + j) = some (.inr (2, [.int (nI j), .int (nI (lc_hh (st_B S) j)), .long (lc_hp (st_B S) j), .ref (A (100 + lc_ho (st_B S) j)), .ref (A (100 + lc_hx (st_B S) j)), .long (lc_hr (st_B S) j), .long (lc_dig (st_B S) j), .int (nI (lc_sg (st_B S) j))])) := hDB.2.1 _ hj
      obtain ⟨hk1_j, hk2_j, hk3_j, hk4_j⟩ := iok.2.2.2 _ hj
      have xho_j : C (100 + lc_ho (st_B S) j) = some (.inr (6, [.int (nI ((lc_ho (st_B S) j))), .long (lN (lc_sa (st_B S) ((lc_ho (st_B S) j)))), .long (lN (lc_sb (st_B S) ((lc_ho (st_B S) j)))), .int (nI (lc_tot (lc_sa (st_B S) ((lc_ho (st_B S) j))) (lc_sb (st_B S) ((lc_ho (st_B S) j)))))])) := hDB.1 _ hk2_j
      have xhx_j : C (100 + lc_hx (st_B S) j) = some (.inr (6, [.int (nI ((lc_hx (st_B S) j))), .long (lN (lc_sa (st_B S) ((lc_hx (st_B S) j)))), .long (lN (lc_sb (st_B S) ((lc_hx (st_B S) j)))), .int (nI (lc_tot (lc_sa (st_B S) ((lc_hx (st_B S) j))) (lc_sb (st_B S) ((lc_hx (st_B S) j)))))])) := hDB.1 _ hk3_j
      refine lv_astore (lv' := [(4, .ref (A (200 + j))), (3, .ref (A (32 + i))), (0, .ref (A 0)), (1, .int g0), (2, .int h)]) hx hb dX7_give_14 hl (by decide) rfl (fun ls hl => ?_)
      refine lv_aload_n hx hb dX7_give_16 rfl (lv_at hl 1 rfl) ?_
      refine lv_ifnull hx hb dX7_give_17 ?_
      refine lv_aload hx hb dX7_give_20 (lv_at hl 0 rfl) ?_
      refine lv_ifnonnull (tgt := 27) hx hb dX7_give_22 (by decide) ?_
      refine lv_aload_n hx hb dX7_give_27 rfl (lv_at hl 1 rfl) ?_
      refine lv_aload hx hb dX7_give_28 (lv_at hl 0 rfl) ?_
      refine wg_cq hS (wg_rVN (As := [.ref (A (200 + j))]) (rest := []) F hP hS (c_X1_replace l E A C i (st_gn S i) fg_i (st_gg S i) (st_B S) j hi ign_i xgf_i igg_i hDB hj (lc_room hI hi hj) xg1_i xg2_i xg3_i) ok_X1_replace nb_387 rfl rfl ⟨Nat.le_of_ble_eq_true rfl, Nat.le_of_ble_eq_true rfl⟩ xg1_i rfl rfl rfl hl.1 rfl (Nat.le_of_ble_eq_true rfl) dX7_give_30 ⟨Nat.le_of_ble_eq_true rfl, Nat.le_of_ble_eq_true rfl⟩) (fun r_30 A1 C_30 H locs w_30 hP hS => ?_)
      obtain ⟨w_30, rfl, hfr_30, n2, fn, n3, nf⟩ := w_30
      have x0_c30 : C_30 0 = some (.inr (7, [.ref (A 1), .int (nI (lc_ns (st_B S))), .ref (A 2), .ref (A 4), .ref (A 5), .ref (A 6), .ref (A 7), .ref (A 8), .ref (A 11)])) := by rw [hfr_30 0 (by omega) (by omega)]; exact x0
      have x1_c30 : C_30 1 = some (.inl (E.2.1 3, 16, .inr (.inr (.inr (.inr f1))))) := by rw [hfr_30 1 (by omega) (by omega)]; exact x1
      have x2_c30 : C_30 2 = some (.inr (3, [.ref (A 3), .int (nI (lc_nh (st_B S)))])) := by rw [hfr_30 2 (by omega) (by omega)]; exact x2
      have x3_c30 : C_30 3 = some (.inl (E.2.1 4, 60, .inr (.inr (.inr (.inr f3))))) := by rw [hfr_30 3 (by omega) (by omega)]; exact x3
      have x4_c30 : C_30 4 = some (.inl (E.2.1 0, 4, .inl (fun k => nI (st_tm S k)))) := by rw [hfr_30 4 (by omega) (by omega)]; exact x4
      have x5_c30 : C_30 5 = some (.inl (E.2.1 5, 4, .inr (.inr (.inr (.inr f5))))) := by rw [hfr_30 5 (by omega) (by omega)]; exact x5
      have x6_c30 : C_30 6 = some (.inl (E.2.1 6, 4, .inr (.inr (.inr (.inr f6))))) := by rw [hfr_30 6 (by omega) (by omega)]; exact x6
      have x7_c30 : C_30 7 = some (.inl (E.2.1 0, 32, .inl f7)) := by rw [hfr_30 7 (by omega) (by omega)]; exact x7
      have x8_c30 : C_30 8 = some (.inr (5, [.ref (A 9), .ref (A 10)])) := by rw [hfr_30 8 (by omega) (by omega)]; exact x8
      have x9_c30 : C_30 9 = some (.inl (E.2.1 1, 8, .inr (.inl ((st_lf S))))) := by rw [hfr_30 9 (by omega) (by omega)]; exact x9
      have x10_c30 : C_30 10 = some (.inl (E.2.1 1, 16, .inr (.inl nd))) := by rw [hfr_30 10 (by omega) (by omega)]; exact x10
      have x11_c30 : C_30 11 = some (.inr (4, [.int (nI (st_pa S)), .int (nI (st_pb S)), .long (st_va S), .long (st_vb S), .ref (A 12), .int (nI (lc_cnt (st_pa S) (st_pb S) 1)), .ref (A 13)])) := by rw [hfr_30 11 (by omega) (by omega)]; exact x11
      have x12_c30 : C_30 12 = some (.inl (E.2.1 1, 4, .inr (.inl ((st_pn S))))) := by rw [hfr_30 12 (by omega) (by omega)]; exact x12
      have x13_c30 : C_30 13 = some (.inl (E.2.1 1, 16, .inr (.inl rk))) := by rw [hfr_30 13 (by omega) (by omega)]; exact x13
      have xg1_i_c30 : C_30 (32 + i) = some (.inr (1, [.ref (A (36 + i))])) := by rw [hfr_30 (32 + i) (by omega) (by omega)]; exact xg1_i
      have xh_j_c30 : C_30 (200 + j) = some (.inr (2, [.int (nI j), .int (nI (lc_hh (st_B S) j)), .long (lc_hp (st_B S) j), .ref (A (100 + lc_ho (st_B S) j)), .ref (A (100 + lc_hx (st_B S) j)), .long (lc_hr (st_B S) j), .long (lc_dig (st_B S) j), .int (nI (lc_sg (st_B S) j))])) := by rw [hfr_30 (200 + j) (by omega) (by omega)]; exact xh_j
      have xho_j_c30 : C_30 (100 + lc_ho (st_B S) j) = some (.inr (6, [.int (nI ((lc_ho (st_B S) j))), .long (lN (lc_sa (st_B S) ((lc_ho (st_B S) j)))), .long (lN (lc_sb (st_B S) ((lc_ho (st_B S) j)))), .int (nI (lc_tot (lc_sa (st_B S) ((lc_ho (st_B S) j))) (lc_sb (st_B S) ((lc_ho (st_B S) j)))))])) := by rw [hfr_30 (100 + lc_ho (st_B S) j) (by omega) (by omega)]; exact xho_j
      have xhx_j_c30 : C_30 (100 + lc_hx (st_B S) j) = some (.inr (6, [.int (nI ((lc_hx (st_B S) j))), .long (lN (lc_sa (st_B S) ((lc_hx (st_B S) j)))), .long (lN (lc_sb (st_B S) ((lc_hx (st_B S) j)))), .int (nI (lc_tot (lc_sa (st_B S) ((lc_hx (st_B S) j))) (lc_sb (st_B S) ((lc_hx (st_B S) j)))))])) := by rw [hfr_30 (100 + lc_hx (st_B S) j) (by omega) (by omega)]; exact xhx_j
      have hgl := lx_gup (S := S) xg hfr_30 hi ⟨fn, xg1_i_c30, n2, n3, nf⟩
      have hop : op_give S g0 h = (lc_I ((lc_pl (fun k => lc_hh (st_B S) (st_gg S i k)) (lc_hh (st_B S) j) (st_gn S i)).map (st_gg S i)), up_gv S (va_up (st_gn S) i (lc_gn (st_gn S i) (lc_pl (fun k => lc_hh (st_B S) (st_gg S i k)) (lc_hh (st_B S) j) (st_gn S i)))) (va_up (st_gg S) i (lc_gg (st_gn S i) (st_gg S i) j (lc_pl (fun k => lc_hh (st_B S) (st_gg S i k)) (lc_hh (st_B S) j) (st_gn S i))))) := by unfold op_give; rw [hx_i, hx_j]
      have hX1 : lx E A C_30 (op_give S g0 h).2 := by rw [hop]; exact ⟨(hfr_30 0 (by omega) (by omega)).trans hX.1, hX.2.1.same (hfr_30 1 (by omega) (by omega)), (hfr_30 2 (by omega) (by omega)).trans hX.2.2.1, hX.2.2.2.1.same (hfr_30 3 (by omega) (by omega)), (hfr_30 4 (by omega) (by omega)).trans hX.2.2.2.2.1, hX.2.2.2.2.2.1.same (hfr_30 5 (by omega) (by omega)), hX.2.2.2.2.2.2.1.same (hfr_30 6 (by omega) (by omega)), hX.2.2.2.2.2.2.2.1.same (hfr_30 7 (by omega) (by omega)), hX.2.2.2.2.2.2.2.2.1.same (fun r h1 h2 => hfr_30 r (by omega) (by omega)), hX.2.2.2.2.2.2.2.2.2.1.same (fun r h1 h2 => hfr_30 r (by omega) (by omega)), fun i2 hi2 => (hX.2.2.2.2.2.2.2.2.2.2.1 i2 hi2).same (fun r h1 => hfr_30 r (by omega) (by omega)), hgl, hX.2.2.2.2.2.2.2.2.2.2.2.2.same (fun r h1 h2 => hfr_30 r (by omega) (by omega))⟩
      have hv : (op_give S g0 h).1 = lc_I ((lc_pl (fun k => lc_hh (st_B S) (st_gg S i k)) (lc_hh (st_B S) j) (st_gn S i)).map (st_gg S i)) := by rw [hop]
      rcases hpl : lc_pl (fun k => lc_hh (st_B S) (st_gg S i k)) (lc_hh (st_B S) j) (st_gn S i) with _ | q
      · refine wg_none (by rw [w_30, hpl]; rfl) ?_
        refine lv_astoreN (lv' := [(5, .null), (4, .ref (A (200 + j))), (3, .ref (A (32 + i))), (0, .ref (A 0)), (1, .int g0), (2, .int h)]) hx hb dX7_give_33 hl (by decide) rfl (fun ls hl => ?_)
        refine lv_aloadN hx hb dX7_give_35 (lv_at hl 0 rfl) ?_
        refine lv_ifnonnullN hx hb dX7_give_37 ?_
        refine lv_bipush (v := (-2)) hx hb dX7_give_40 (by decide) ?_
        refine lv_goto (tgt := 50) hx hb dX7_give_42 (by decide) ?_
        exact wg_iret F hP hS hr hlk (⟨rfl, by rw [hv, hpl]; rfl, hX1, fun q hq => hfr_30 q (by omega) (by omega)⟩) dX7_give_50
      · refine wg_some (x := A (200 + st_gg S i q)) (by rw [w_30, hpl]; rfl) ?_
        have xh_q : C_30 (200 + st_gg S i q) = some (.inr (2, [.int (nI (st_gg S i q)), .int (nI (lc_hh (st_B S) (st_gg S i q))), .long (lc_hp (st_B S) (st_gg S i q)), .ref (A (100 + lc_ho (st_B S) (st_gg S i q))), .ref (A (100 + lc_hx (st_B S) (st_gg S i q))), .long (lc_hr (st_B S) (st_gg S i q)), .long (lc_dig (st_B S) (st_gg S i q)), .int (nI (lc_sg (st_B S) (st_gg S i q)))])) := by rw [hfr_30 _ (by omega) (by omega)]; exact hDB.2.1 _ (igg_i q (lc_pl_of hpl).1)
        refine lv_astore (lv' := [(5, .ref (A (200 + st_gg S i q))), (4, .ref (A (200 + j))), (3, .ref (A (32 + i))), (0, .ref (A 0)), (1, .int g0), (2, .int h)]) hx hb dX7_give_33 hl (by decide) rfl (fun ls hl => ?_)
        refine lv_aload hx hb dX7_give_35 (lv_at hl 0 rfl) ?_
        refine lv_ifnonnull (tgt := 45) hx hb dX7_give_37 (by decide) ?_
        refine lv_aload hx hb dX7_give_45 (lv_at hl 0 rfl) ?_
        refine wg_getN F hP xh_q rfl iw_X2 0 (by decide) nb_247 rfl rfl dX7_give_47 ?_
        exact wg_iret F hP hS hr hlk (⟨rfl, by rw [hv, hpl]; rfl, hX1, fun q hq => hfr_30 q (by omega) (by omega)⟩) dX7_give_50
set_option maxHeartbeats 4000000 in
set_option maxRecDepth 100000 in
theorem c_X7_blame (l : Launch) (E : wg_E) (A : Nat → Nat) (C : wg_C) (S : lc_S) (c0 a b : Int32) (hX : lx E A C S) (hI : lc_inv S)  : Met l yX7_blame (wg_ws yX7_blame cX7_blame 10 (some .int)) (wg_rm 5 0 0) (wg_Pc E A C [.ref (A 0), .int c0, .int a, .int b]) (wg_Qi E (fun r A1 C1 => r = op_blame S c0 a b ∧ A = A1 ∧ C = C1)) 0 0 (wg_A E) := by
  refine wg_met (by decide) (Nat.le_of_ble_eq_true rfl) ?_
  intro p e s m below meth c ls F hr hlk hnm hP hS hl
  have F : wg_F p m c cX7_blame 10 s ([.ref (A 0), .int c0, .int a, .int b] : List Value).toArray "LightChecks" E := F
  have hx := F.1
  have hb := F.2.1
  have hml := F.2.2.1
  have hown := F.2.2.2.1
  have hts := F.2.2.2.2.1
  have hl : lv_has ls 10 [(0, .ref (A 0)), (1, .int c0), (2, .int a), (3, .int b)] := hl
  obtain ⟨x0, ⟨f1, x1, x1f⟩, x2, ⟨f3, x3, x3f⟩, x4, ⟨f5, x5, x5f⟩, ⟨f6, x6, x6f⟩, ⟨f7, x7⟩, ⟨x8, x9, nd, x10, hnd⟩, ⟨x11, x12, rk, x13⟩, xc, xg, hDB⟩ := id hX
  obtain ⟨iok, ⟨itm, itm3a, itm3b⟩, icl, igv, ipa, ipb, ipab⟩ := id hI
  have ins := iok.1
  have inh := iok.2.1
  refine lv_aload_n hx hb dX7_blame_0 rfl (lv_at hl 0 rfl) ?_
  refine lv_iload_n hx hb dX7_blame_1 rfl (lv_at hl 1 rfl) ?_
  refine wg_cq hS (wg_rV (As := [.int c0]) (rest := []) F hP hS (c_X7_clientAt l E A C (lc_ns (st_B S)) f5 c0 x0 x5) ok_X7_clientAt tb_330 rfl rfl ⟨Nat.le_of_ble_eq_true rfl, Nat.le_of_ble_eq_true rfl⟩ x0 rfl rfl rfl hl.1 rfl (Nat.le_of_ble_eq_true rfl) dX7_blame_2 ⟨Nat.le_of_ble_eq_true rfl, Nat.le_of_ble_eq_true rfl⟩) (fun r_2 A1 C_2 H locs w_2 hP hS => ?_)
  obtain ⟨w_2, rfl, rfl⟩ := w_2
  rcases hx_q0 : lc_ix c0 4 with _ | q0
  · refine wg_none (by rw [w_2, lc_at_ix (by omega) x5f, hx_q0]; rfl) ?_
    refine lv_astoreN (lv' := [(4, .null), (0, .ref (A 0)), (1, .int c0), (2, .int a), (3, .int b)]) hx hb dX7_blame_5 hl (by decide) rfl (fun ls hl => ?_)
    refine lv_aload_n hx hb dX7_blame_7 rfl (lv_at hl 1 rfl) ?_
    refine lv_iload_n hx hb dX7_blame_8 rfl (lv_at hl 3 rfl) ?_
    refine wg_cq hS (wg_rV (As := [.int a]) (rest := []) F hP hS (c_X7_giverAt l E A C (lc_ns (st_B S)) f6 a x0 x6) ok_X7_giverAt tb_383 rfl rfl ⟨Nat.le_of_ble_eq_true rfl, Nat.le_of_ble_eq_true rfl⟩ x0 rfl rfl rfl hl.1 rfl (Nat.le_of_ble_eq_true rfl) dX7_blame_9 ⟨Nat.le_of_ble_eq_true rfl, Nat.le_of_ble_eq_true rfl⟩) (fun r_9 A1 C_9 H locs w_9 hP hS => ?_)
    obtain ⟨w_9, rfl, rfl⟩ := w_9
    rcases hx_i : lc_ix a 4 with _ | i
    · refine wg_none (by rw [w_9, lc_at_ix (by omega) x6f, hx_i]; rfl) ?_
      refine lv_astoreN (lv' := [(5, .null), (4, .null), (0, .ref (A 0)), (1, .int c0), (2, .int a), (3, .int b)]) hx hb dX7_blame_12 hl (by decide) rfl (fun ls hl => ?_)
      refine lv_aload_n hx hb dX7_blame_14 rfl (lv_at hl 2 rfl) ?_
      refine lv_iload_n hx hb dX7_blame_15 rfl (lv_at hl 5 rfl) ?_
      refine wg_cq hS (wg_rV (As := [.int b]) (rest := []) F hP hS (c_X7_giverAt l E A C (lc_ns (st_B S)) f6 b x0 x6) ok_X7_giverAt tb_383 rfl rfl ⟨Nat.le_of_ble_eq_true rfl, Nat.le_of_ble_eq_true rfl⟩ x0 rfl rfl rfl hl.1 rfl (Nat.le_of_ble_eq_true rfl) dX7_blame_16 ⟨Nat.le_of_ble_eq_true rfl, Nat.le_of_ble_eq_true rfl⟩) (fun r_16 A1 C_16 H locs w_16 hP hS => ?_)
      obtain ⟨w_16, rfl, rfl⟩ := w_16
      rcases hx_k : lc_ix b 4 with _ | k
      · refine wg_none (by rw [w_16, lc_at_ix (by omega) x6f, hx_k]; rfl) ?_
        refine lv_astoreN (lv' := [(6, .null), (5, .null), (4, .null), (0, .ref (A 0)), (1, .int c0), (2, .int a), (3, .int b)]) hx hb dX7_blame_19 hl (by decide) rfl (fun ls hl => ?_)
        refine lv_aloadN hx hb dX7_blame_21 (lv_at hl 2 rfl) ?_
        refine lv_ifnullN (tgt := 36) hx hb dX7_blame_23 (by decide) ?_
        refine lv_iconst (v := (-1)) hx hb dX7_blame_36 (by decide) ?_
        exact wg_iret F hP hS hr hlk (⟨by unfold op_blame; first | (rw [hx_q0, hx_i, hx_k]; done) | (rw [hx_q0, hx_i, hx_k]; rfl), rfl, rfl⟩) dX7_blame_37
      · refine wg_some (x := A (32 + k)) (by rw [w_16, lc_at_ix (by omega) x6f, hx_k]; rfl) ?_
        obtain ⟨hk, ek, tk⟩ := lc_ix_some hx_k
        obtain ⟨fg_k, xg1_k, xg2_k, xg3_k, xgf_k⟩ := xg k hk
        obtain ⟨ign_k, igg_k, igd_k⟩ := igv k hk
        refine lv_astore (lv' := [(6, .ref (A (32 + k))), (5, .null), (4, .null), (0, .ref (A 0)), (1, .int c0), (2, .int a), (3, .int b)]) hx hb dX7_blame_19 hl (by decide) rfl (fun ls hl => ?_)
        refine lv_aloadN hx hb dX7_blame_21 (lv_at hl 2 rfl) ?_
        refine lv_ifnullN (tgt := 36) hx hb dX7_blame_23 (by decide) ?_
        refine lv_iconst (v := (-1)) hx hb dX7_blame_36 (by decide) ?_
        exact wg_iret F hP hS hr hlk (⟨by unfold op_blame; first | (rw [hx_q0, hx_i, hx_k]; done) | (rw [hx_q0, hx_i, hx_k]; rfl), rfl, rfl⟩) dX7_blame_37
    · refine wg_some (x := A (32 + i)) (by rw [w_9, lc_at_ix (by omega) x6f, hx_i]; rfl) ?_
      obtain ⟨hi, ei, ti⟩ := lc_ix_some hx_i
      obtain ⟨fg_i, xg1_i, xg2_i, xg3_i, xgf_i⟩ := xg i hi
      obtain ⟨ign_i, igg_i, igd_i⟩ := igv i hi
      refine lv_astore (lv' := [(5, .ref (A (32 + i))), (4, .null), (0, .ref (A 0)), (1, .int c0), (2, .int a), (3, .int b)]) hx hb dX7_blame_12 hl (by decide) rfl (fun ls hl => ?_)
      refine lv_aload_n hx hb dX7_blame_14 rfl (lv_at hl 2 rfl) ?_
      refine lv_iload_n hx hb dX7_blame_15 rfl (lv_at hl 5 rfl) ?_
      refine wg_cq hS (wg_rV (As := [.int b]) (rest := []) F hP hS (c_X7_giverAt l E A C (lc_ns (st_B S)) f6 b x0 x6) ok_X7_giverAt tb_383 rfl rfl ⟨Nat.le_of_ble_eq_true rfl, Nat.le_of_ble_eq_true rfl⟩ x0 rfl rfl rfl hl.1 rfl (Nat.le_of_ble_eq_true rfl) dX7_blame_16 ⟨Nat.le_of_ble_eq_true rfl, Nat.le_of_ble_eq_true rfl⟩) (fun r_16 A1 C_16 H locs w_16 hP hS => ?_)
      obtain ⟨w_16, rfl, rfl⟩ := w_16
      rcases hx_k : lc_ix b 4 with _ | k
      · refine wg_none (by rw [w_16, lc_at_ix (by omega) x6f, hx_k]; rfl) ?_
        refine lv_astoreN (lv' := [(6, .null), (5, .ref (A (32 + i))), (4, .null), (0, .ref (A 0)), (1, .int c0), (2, .int a), (3, .int b)]) hx hb dX7_blame_19 hl (by decide) rfl (fun ls hl => ?_)
        refine lv_aloadN hx hb dX7_blame_21 (lv_at hl 2 rfl) ?_
        refine lv_ifnullN (tgt := 36) hx hb dX7_blame_23 (by decide) ?_
        refine lv_iconst (v := (-1)) hx hb dX7_blame_36 (by decide) ?_
        exact wg_iret F hP hS hr hlk (⟨by unfold op_blame; first | (rw [hx_q0, hx_i, hx_k]; done) | (rw [hx_q0, hx_i, hx_k]; rfl), rfl, rfl⟩) dX7_blame_37
      · refine wg_some (x := A (32 + k)) (by rw [w_16, lc_at_ix (by omega) x6f, hx_k]; rfl) ?_
        obtain ⟨hk, ek, tk⟩ := lc_ix_some hx_k
        obtain ⟨fg_k, xg1_k, xg2_k, xg3_k, xgf_k⟩ := xg k hk
        obtain ⟨ign_k, igg_k, igd_k⟩ := igv k hk
        refine lv_astore (lv' := [(6, .ref (A (32 + k))), (5, .ref (A (32 + i))), (4, .null), (0, .ref (A 0)), (1, .int c0), (2, .int a), (3, .int b)]) hx hb dX7_blame_19 hl (by decide) rfl (fun ls hl => ?_)
        refine lv_aloadN hx hb dX7_blame_21 (lv_at hl 2 rfl) ?_
        refine lv_ifnullN (tgt := 36) hx hb dX7_blame_23 (by decide) ?_
        refine lv_iconst (v := (-1)) hx hb dX7_blame_36 (by decide) ?_
        exact wg_iret F hP hS hr hlk (⟨by unfold op_blame; first | (rw [hx_q0, hx_i, hx_k]; done) | (rw [hx_q0, hx_i, hx_k]; rfl), rfl, rfl⟩) dX7_blame_37
  · refine wg_some (x := A (20 + q0)) (by rw [w_2, lc_at_ix (by omega) x5f, hx_q0]; rfl) ?_
    obtain ⟨hq0, eq0, tq0⟩ := lc_ix_some hx_q0
    obtain ⟨fc_q0, xc1_q0, xc2_q0, xc3_q0, xcf_q0⟩ := xc q0 hq0
    obtain ⟨icn_q0, icg_q0⟩ := icl q0 hq0
    refine lv_astore (lv' := [(4, .ref (A (20 + q0))), (0, .ref (A 0)), (1, .int c0), (2, .int a), (3, .int b)]) hx hb dX7_blame_5 hl (by decide) rfl (fun ls hl => ?_)
    refine lv_aload_n hx hb dX7_blame_7 rfl (lv_at hl 1 rfl) ?_
    refine lv_iload_n hx hb dX7_blame_8 rfl (lv_at hl 3 rfl) ?_
    refine wg_cq hS (wg_rV (As := [.int a]) (rest := []) F hP hS (c_X7_giverAt l E A C (lc_ns (st_B S)) f6 a x0 x6) ok_X7_giverAt tb_383 rfl rfl ⟨Nat.le_of_ble_eq_true rfl, Nat.le_of_ble_eq_true rfl⟩ x0 rfl rfl rfl hl.1 rfl (Nat.le_of_ble_eq_true rfl) dX7_blame_9 ⟨Nat.le_of_ble_eq_true rfl, Nat.le_of_ble_eq_true rfl⟩) (fun r_9 A1 C_9 H locs w_9 hP hS => ?_)
    obtain ⟨w_9, rfl, rfl⟩ := w_9
    rcases hx_i : lc_ix a 4 with _ | i
    · refine wg_none (by rw [w_9, lc_at_ix (by omega) x6f, hx_i]; rfl) ?_
      refine lv_astoreN (lv' := [(5, .null), (4, .ref (A (20 + q0))), (0, .ref (A 0)), (1, .int c0), (2, .int a), (3, .int b)]) hx hb dX7_blame_12 hl (by decide) rfl (fun ls hl => ?_)
      refine lv_aload_n hx hb dX7_blame_14 rfl (lv_at hl 2 rfl) ?_
      refine lv_iload_n hx hb dX7_blame_15 rfl (lv_at hl 5 rfl) ?_
      refine wg_cq hS (wg_rV (As := [.int b]) (rest := []) F hP hS (c_X7_giverAt l E A C (lc_ns (st_B S)) f6 b x0 x6) ok_X7_giverAt tb_383 rfl rfl ⟨Nat.le_of_ble_eq_true rfl, Nat.le_of_ble_eq_true rfl⟩ x0 rfl rfl rfl hl.1 rfl (Nat.le_of_ble_eq_true rfl) dX7_blame_16 ⟨Nat.le_of_ble_eq_true rfl, Nat.le_of_ble_eq_true rfl⟩) (fun r_16 A1 C_16 H locs w_16 hP hS => ?_)
      obtain ⟨w_16, rfl, rfl⟩ := w_16
      rcases hx_k : lc_ix b 4 with _ | k
      · refine wg_none (by rw [w_16, lc_at_ix (by omega) x6f, hx_k]; rfl) ?_
        refine lv_astoreN (lv' := [(6, .null), (5, .null), (4, .ref (A (20 + q0))), (0, .ref (A 0)), (1, .int c0), (2, .int a), (3, .int b)]) hx hb dX7_blame_19 hl (by decide) rfl (fun ls hl => ?_)
        refine lv_aload hx hb dX7_blame_21 (lv_at hl 2 rfl) ?_
        refine lv_ifnull hx hb dX7_blame_23 ?_
        refine lv_aloadN hx hb dX7_blame_26 (lv_at hl 1 rfl) ?_
        refine lv_ifnullN (tgt := 36) hx hb dX7_blame_28 (by decide) ?_
        refine lv_iconst (v := (-1)) hx hb dX7_blame_36 (by decide) ?_
        exact wg_iret F hP hS hr hlk (⟨by unfold op_blame; first | (rw [hx_q0, hx_i, hx_k]; done) | (rw [hx_q0, hx_i, hx_k]; rfl), rfl, rfl⟩) dX7_blame_37
      · refine wg_some (x := A (32 + k)) (by rw [w_16, lc_at_ix (by omega) x6f, hx_k]; rfl) ?_
        obtain ⟨hk, ek, tk⟩ := lc_ix_some hx_k
        obtain ⟨fg_k, xg1_k, xg2_k, xg3_k, xgf_k⟩ := xg k hk
        obtain ⟨ign_k, igg_k, igd_k⟩ := igv k hk
        refine lv_astore (lv' := [(6, .ref (A (32 + k))), (5, .null), (4, .ref (A (20 + q0))), (0, .ref (A 0)), (1, .int c0), (2, .int a), (3, .int b)]) hx hb dX7_blame_19 hl (by decide) rfl (fun ls hl => ?_)
        refine lv_aload hx hb dX7_blame_21 (lv_at hl 2 rfl) ?_
        refine lv_ifnull hx hb dX7_blame_23 ?_
        refine lv_aloadN hx hb dX7_blame_26 (lv_at hl 1 rfl) ?_
        refine lv_ifnullN (tgt := 36) hx hb dX7_blame_28 (by decide) ?_
        refine lv_iconst (v := (-1)) hx hb dX7_blame_36 (by decide) ?_
        exact wg_iret F hP hS hr hlk (⟨by unfold op_blame; first | (rw [hx_q0, hx_i, hx_k]; done) | (rw [hx_q0, hx_i, hx_k]; rfl), rfl, rfl⟩) dX7_blame_37
    · refine wg_some (x := A (32 + i)) (by rw [w_9, lc_at_ix (by omega) x6f, hx_i]; rfl) ?_
      obtain ⟨hi, ei, ti⟩ := lc_ix_some hx_i
      obtain ⟨fg_i, xg1_i, xg2_i, xg3_i, xgf_i⟩ := xg i hi
      obtain ⟨ign_i, igg_i, igd_i⟩ := igv i hi
      refine lv_astore (lv' := [(5, .ref (A (32 + i))), (4, .ref (A (20 + q0))), (0, .ref (A 0)), (1, .int c0), (2, .int a), (3, .int b)]) hx hb dX7_blame_12 hl (by decide) rfl (fun ls hl => ?_)
      refine lv_aload_n hx hb dX7_blame_14 rfl (lv_at hl 2 rfl) ?_
      refine lv_iload_n hx hb dX7_blame_15 rfl (lv_at hl 5 rfl) ?_
      refine wg_cq hS (wg_rV (As := [.int b]) (rest := []) F hP hS (c_X7_giverAt l E A C (lc_ns (st_B S)) f6 b x0 x6) ok_X7_giverAt tb_383 rfl rfl ⟨Nat.le_of_ble_eq_true rfl, Nat.le_of_ble_eq_true rfl⟩ x0 rfl rfl rfl hl.1 rfl (Nat.le_of_ble_eq_true rfl) dX7_blame_16 ⟨Nat.le_of_ble_eq_true rfl, Nat.le_of_ble_eq_true rfl⟩) (fun r_16 A1 C_16 H locs w_16 hP hS => ?_)
      obtain ⟨w_16, rfl, rfl⟩ := w_16
      rcases hx_k : lc_ix b 4 with _ | k
      · refine wg_none (by rw [w_16, lc_at_ix (by omega) x6f, hx_k]; rfl) ?_
        refine lv_astoreN (lv' := [(6, .null), (5, .ref (A (32 + i))), (4, .ref (A (20 + q0))), (0, .ref (A 0)), (1, .int c0), (2, .int a), (3, .int b)]) hx hb dX7_blame_19 hl (by decide) rfl (fun ls hl => ?_)
        refine lv_aload hx hb dX7_blame_21 (lv_at hl 2 rfl) ?_
        refine lv_ifnull hx hb dX7_blame_23 ?_
        refine lv_aload hx hb dX7_blame_26 (lv_at hl 1 rfl) ?_
        refine lv_ifnull hx hb dX7_blame_28 ?_
        refine lv_aloadN hx hb dX7_blame_31 (lv_at hl 0 rfl) ?_
        refine lv_ifnonnullN hx hb dX7_blame_33 ?_
        refine lv_iconst (v := (-1)) hx hb dX7_blame_36 (by decide) ?_
        exact wg_iret F hP hS hr hlk (⟨by unfold op_blame; first | (rw [hx_q0, hx_i, hx_k]; done) | (rw [hx_q0, hx_i, hx_k]; rfl), rfl, rfl⟩) dX7_blame_37
      · refine wg_some (x := A (32 + k)) (by rw [w_16, lc_at_ix (by omega) x6f, hx_k]; rfl) ?_
        obtain ⟨hk, ek, tk⟩ := lc_ix_some hx_k
        obtain ⟨fg_k, xg1_k, xg2_k, xg3_k, xgf_k⟩ := xg k hk
        obtain ⟨ign_k, igg_k, igd_k⟩ := igv k hk
        refine lv_astore (lv' := [(6, .ref (A (32 + k))), (5, .ref (A (32 + i))), (4, .ref (A (20 + q0))), (0, .ref (A 0)), (1, .int c0), (2, .int a), (3, .int b)]) hx hb dX7_blame_19 hl (by decide) rfl (fun ls hl => ?_)
        refine lv_aload hx hb dX7_blame_21 (lv_at hl 2 rfl) ?_
        refine lv_ifnull hx hb dX7_blame_23 ?_
        refine lv_aload hx hb dX7_blame_26 (lv_at hl 1 rfl) ?_
        refine lv_ifnull hx hb dX7_blame_28 ?_
        refine lv_aload hx hb dX7_blame_31 (lv_at hl 0 rfl) ?_
        refine lv_ifnonnull (tgt := 38) hx hb dX7_blame_33 (by decide) ?_
        refine lv_aload hx hb dX7_blame_38 (lv_at hl 1 rfl) ?_
        refine lv_aload hx hb dX7_blame_40 (lv_at hl 0 rfl) ?_
        refine wg_ci hS (wg_rVN (As := [.ref (A (32 + k))]) (rest := []) F hP hS (c_X1_leastUnlike l E A C i (st_gn S i) fg_i (st_gg S i) (st_B S) k (st_gn S k) fg_k (st_gg S k) ign_i xgf_i igg_i hDB ign_k xgf_k igg_k xg1_i xg2_i xg3_i xg1_k xg2_k xg3_k) ok_X1_leastUnlike nb_423 rfl rfl ⟨Nat.le_of_ble_eq_true rfl, Nat.le_of_ble_eq_true rfl⟩ xg1_i rfl rfl rfl hl.1 rfl (Nat.le_of_ble_eq_true rfl) dX7_blame_42 ⟨Nat.le_of_ble_eq_true rfl, Nat.le_of_ble_eq_true rfl⟩) (fun r_42 A1 C_42 H locs w_42 hP hS => ?_)
        obtain ⟨w_42, rfl, rfl⟩ := w_42
        have w3 : r_42 = lc_I (op_cmp S i k) := w_42
        rcases hcm : op_cmp S i k with _ | x
        · refine wg_topi (y := (-2)) (by rw [w3, hcm]; rfl) ?_
          refine lv_istore (lv' := [(7, .int ((-2))), (6, .ref (A (32 + k))), (5, .ref (A (32 + i))), (4, .ref (A (20 + q0))), (0, .ref (A 0)), (1, .int c0), (2, .int a), (3, .int b)]) hx hb dX7_blame_45 hl (by decide) rfl (fun ls hl => ?_)
          refine lv_iload hx hb dX7_blame_47 (lv_at hl 0 rfl) ?_
          refine lv_bipush (v := (-2)) hx hb dX7_blame_49 (by decide) ?_
          refine lv_icmp_ne (tgt := 57) hx hb dX7_blame_51 (by decide) (fun c_51 => ?_) (fun c_51 => ?_)
          · exact absurd rfl c_51
          · refine lv_bipush (v := (-2)) hx hb dX7_blame_54 (by decide) ?_
            exact wg_iret F hP hS hr hlk (⟨by unfold op_blame; rw [hx_q0, hx_i, hx_k]; simp only []; rw [hcm], rfl, rfl⟩) dX7_blame_56
        · refine wg_topi (y := nI x) (by rw [w3, hcm]; rfl) ?_
          have hx5 : x ≤ 100000 := lc_lu_le (fun q hq => (iok.2.2.2 _ (igg_i q hq)).1) x hcm
          refine lv_istore (lv' := [(7, .int (nI x)), (6, .ref (A (32 + k))), (5, .ref (A (32 + i))), (4, .ref (A (20 + q0))), (0, .ref (A 0)), (1, .int c0), (2, .int a), (3, .int b)]) hx hb dX7_blame_45 hl (by decide) rfl (fun ls hl => ?_)
          refine lv_iload hx hb dX7_blame_47 (lv_at hl 0 rfl) ?_
          refine lv_bipush (v := (-2)) hx hb dX7_blame_49 (by decide) ?_
          refine lv_icmp_ne (tgt := 57) hx hb dX7_blame_51 (by decide) (fun c_51 => ?_) (fun c_51 => ?_)
          · refine lv_aload hx hb dX7_blame_57 (lv_at hl 3 rfl) ?_
            refine lv_iload hx hb dX7_blame_59 (lv_at hl 0 rfl) ?_
            refine wg_cq hS (wg_rVN (As := [.int (nI x)]) (rest := []) F hP hS (c_X0_lastBelow l E A C q0 (st_cn S q0) fc_q0 (st_co S q0) (st_rb S q0) (st_ra S q0) (st_cg S q0) (st_B S) x (by omega) xcf_q0 icg_q0 hDB (by omega) xc1_q0 xc2_q0 xc3_q0) ok_X0_lastBelow nb_435 rfl rfl ⟨Nat.le_of_ble_eq_true rfl, Nat.le_of_ble_eq_true rfl⟩ xc1_q0 rfl rfl rfl hl.1 rfl (Nat.le_of_ble_eq_true rfl) dX7_blame_61 ⟨Nat.le_of_ble_eq_true rfl, Nat.le_of_ble_eq_true rfl⟩) (fun r_61 A1 C_61 H locs w_61 hP hS => ?_)
            obtain ⟨w_61, rfl, rfl⟩ := w_61
            rcases hlb : lc_lb (st_B S) (st_cg S q0) x (st_cn S q0) with _ | t
            · refine wg_none (by rw [w_61, hlb]; rfl) ?_
              refine lv_astoreN (lv' := [(8, .null), (7, .int (nI x)), (6, .ref (A (32 + k))), (5, .ref (A (32 + i))), (4, .ref (A (20 + q0))), (0, .ref (A 0)), (1, .int c0), (2, .int a), (3, .int b)]) hx hb dX7_blame_64 hl (by decide) rfl (fun ls hl => ?_)
              refine lv_aloadN hx hb dX7_blame_66 (lv_at hl 0 rfl) ?_
              refine lv_ifnonnullN hx hb dX7_blame_68 ?_
              refine lv_bipush (v := (-2)) hx hb dX7_blame_71 (by decide) ?_
              exact wg_iret F hP hS hr hlk (⟨by unfold op_blame; rw [hx_q0, hx_i, hx_k]; simp only []; rw [hcm]; simp only []; rw [hlb], rfl, rfl⟩) dX7_blame_73
            · refine wg_some (x := A (200 + st_cg S q0 t)) (by rw [w_61, hlb]; rfl) ?_
              have ht := lc_lb_lt hlb
              have xh_t : C (200 + st_cg S q0 t) = some (.inr (2, [.int (nI (st_cg S q0 t)), .int (nI (lc_hh (st_B S) (st_cg S q0 t))), .long (lc_hp (st_B S) (st_cg S q0 t)), .ref (A (100 + lc_ho (st_B S) (st_cg S q0 t))), .ref (A (100 + lc_hx (st_B S) (st_cg S q0 t))), .long (lc_hr (st_B S) (st_cg S q0 t)), .long (lc_dig (st_B S) (st_cg S q0 t)), .int (nI (lc_sg (st_B S) (st_cg S q0 t)))])) := hDB.2.1 _ (icg_q0 _ ht)
              obtain ⟨hk1_t, hk2_t, hk3_t, hk4_t⟩ := iok.2.2.2 _ (icg_q0 _ ht)
              have xho_t : C (100 + lc_ho (st_B S) (st_cg S q0 t)) = some (.inr (6, [.int (nI ((lc_ho (st_B S) (st_cg S q0 t)))), .long (lN (lc_sa (st_B S) ((lc_ho (st_B S) (st_cg S q0 t))))), .long (lN (lc_sb (st_B S) ((lc_ho (st_B S) (st_cg S q0 t))))), .int (nI (lc_tot (lc_sa (st_B S) ((lc_ho (st_B S) (st_cg S q0 t)))) (lc_sb (st_B S) ((lc_ho (st_B S) (st_cg S q0 t))))))])) := hDB.1 _ hk2_t
              have xhx_t : C (100 + lc_hx (st_B S) (st_cg S q0 t)) = some (.inr (6, [.int (nI ((lc_hx (st_B S) (st_cg S q0 t)))), .long (lN (lc_sa (st_B S) ((lc_hx (st_B S) (st_cg S q0 t))))), .long (lN (lc_sb (st_B S) ((lc_hx (st_B S) (st_cg S q0 t))))), .int (nI (lc_tot (lc_sa (st_B S) ((lc_hx (st_B S) (st_cg S q0 t)))) (lc_sb (st_B S) ((lc_hx (st_B S) (st_cg S q0 t))))))])) := hDB.1 _ hk3_t
              refine lv_astore (lv' := [(8, .ref (A (200 + st_cg S q0 t))), (7, .int (nI x)), (6, .ref (A (32 + k))), (5, .ref (A (32 + i))), (4, .ref (A (20 + q0))), (0, .ref (A 0)), (1, .int c0), (2, .int a), (3, .int b)]) hx hb dX7_blame_64 hl (by decide) rfl (fun ls hl => ?_)
              refine lv_aload hx hb dX7_blame_66 (lv_at hl 0 rfl) ?_
              refine lv_ifnonnull (tgt := 74) hx hb dX7_blame_68 (by decide) ?_
              refine lv_aload_n hx hb dX7_blame_74 rfl (lv_at hl 5 rfl) ?_
              refine lv_aload hx hb dX7_blame_75 (lv_at hl 0 rfl) ?_
              refine lv_aload hx hb dX7_blame_77 (lv_at hl 3 rfl) ?_
              refine lv_iload hx hb dX7_blame_79 (lv_at hl 1 rfl) ?_
              refine wg_cq hS (wg_rVN (As := [.int (nI x)]) (rest := [.ref (A (200 + st_cg S q0 t)), .ref (A 0)]) F hP hS (c_X1_headAt l E A C i (st_gn S i) fg_i (st_gg S i) (st_B S) x ign_i xgf_i igg_i hDB (by omega) xg1_i xg2_i xg3_i) ok_X1_headAt nb_407 rfl rfl ⟨Nat.le_of_ble_eq_true rfl, Nat.le_of_ble_eq_true rfl⟩ xg1_i rfl rfl rfl hl.1 rfl (Nat.le_of_ble_eq_true rfl) dX7_blame_81 ⟨Nat.le_of_ble_eq_true rfl, Nat.le_of_ble_eq_true rfl⟩) (fun r_81 A1 C_81 H locs w_81 hP hS => ?_)
              obtain ⟨w_81, rfl, rfl⟩ := w_81
              rcases hpl_a : lc_pl (fun z => lc_hh (st_B S) (st_gg S i z)) x (st_gn S i) with _ | q_a
              · refine wg_none (by rw [w_81, hpl_a]; rfl) ?_
                have hat_a : op_hat S i x = none := by unfold op_hat; rw [hpl_a]; rfl
                refine wg_ci hS (wg_rV (As := [.ref (A (200 + st_cg S q0 t)), .null]) (rest := []) F hP hS (c_X7_refusal0 l E A C _) ok_X7_refusal tb_355 rfl rfl ⟨Nat.le_of_ble_eq_true rfl, Nat.le_of_ble_eq_true rfl⟩ x0 rfl rfl rfl hl.1 rfl (Nat.le_of_ble_eq_true rfl) dX7_blame_84 ⟨Nat.le_of_ble_eq_true rfl, Nat.le_of_ble_eq_true rfl⟩) (fun r_84 A1 C_84 H locs w_84 hP hS => ?_)
                obtain ⟨w_84, rfl, rfl⟩ := w_84
                have hfit_a : (r_84 = 0) ↔ op_fit S (st_cg S q0 t) (op_hat S i x) = true := by rw [w_84, hat_a]; exact ⟨fun h => absurd h (by decide), fun h => by cases h⟩
                refine lv_if_ne (tgt := 94) hx hb dX7_blame_87 (by decide) (fun c_87 => ?_) (fun c_87 => ?_)
                · have ha0 : ¬ op_fit S (st_cg S q0 t) (op_hat S i x) = true := fun q => c_87 (hfit_a.mpr q)
                  refine lv_iconst (v := 0) hx hb dX7_blame_94 (by decide) ?_
                  refine lv_istore (lv' := [(9, .int 0), (8, .ref (A (200 + st_cg S q0 t))), (7, .int (nI x)), (6, .ref (A (32 + k))), (5, .ref (A (32 + i))), (4, .ref (A (20 + q0))), (0, .ref (A 0)), (1, .int c0), (2, .int a), (3, .int b)]) hx hb dX7_blame_95 hl (by decide) rfl (fun ls hl => ?_)
                  refine lv_aload_n hx hb dX7_blame_97 rfl (lv_at hl 6 rfl) ?_
                  refine lv_aload hx hb dX7_blame_98 (lv_at hl 1 rfl) ?_
                  refine lv_aload hx hb dX7_blame_100 (lv_at hl 3 rfl) ?_
                  refine lv_iload hx hb dX7_blame_102 (lv_at hl 2 rfl) ?_
                  refine wg_cq hS (wg_rVN (As := [.int (nI x)]) (rest := [.ref (A (200 + st_cg S q0 t)), .ref (A 0)]) F hP hS (c_X1_headAt l E A C k (st_gn S k) fg_k (st_gg S k) (st_B S) x ign_k xgf_k igg_k hDB (by omega) xg1_k xg2_k xg3_k) ok_X1_headAt nb_407 rfl rfl ⟨Nat.le_of_ble_eq_true rfl, Nat.le_of_ble_eq_true rfl⟩ xg1_k rfl rfl rfl hl.1 rfl (Nat.le_of_ble_eq_true rfl) dX7_blame_104 ⟨Nat.le_of_ble_eq_true rfl, Nat.le_of_ble_eq_true rfl⟩) (fun r_104 A1 C_104 H locs w_104 hP hS => ?_)
                  obtain ⟨w_104, rfl, rfl⟩ := w_104
                  rcases hpl_b : lc_pl (fun z => lc_hh (st_B S) (st_gg S k z)) x (st_gn S k) with _ | q_b
                  · refine wg_none (by rw [w_104, hpl_b]; rfl) ?_
                    have hat_b : op_hat S k x = none := by unfold op_hat; rw [hpl_b]; rfl
                    refine wg_ci hS (wg_rV (As := [.ref (A (200 + st_cg S q0 t)), .null]) (rest := []) F hP hS (c_X7_refusal0 l E A C _) ok_X7_refusal tb_355 rfl rfl ⟨Nat.le_of_ble_eq_true rfl, Nat.le_of_ble_eq_true rfl⟩ x0 rfl rfl rfl hl.1 rfl (Nat.le_of_ble_eq_true rfl) dX7_blame_107 ⟨Nat.le_of_ble_eq_true rfl, Nat.le_of_ble_eq_true rfl⟩) (fun r_107 A1 C_107 H locs w_107 hP hS => ?_)
                    obtain ⟨w_107, rfl, rfl⟩ := w_107
                    have hfit_b : (r_107 = 0) ↔ op_fit S (st_cg S q0 t) (op_hat S k x) = true := by rw [w_107, hat_b]; exact ⟨fun h => absurd h (by decide), fun h => by cases h⟩
                    refine lv_if_ne (tgt := 120) hx hb dX7_blame_110 (by decide) (fun c_110 => ?_) (fun c_110 => ?_)
                    · have hb0 : ¬ op_fit S (st_cg S q0 t) (op_hat S k x) = true := fun q => c_110 (hfit_b.mpr q)
                      refine lv_iload hx hb dX7_blame_120 (lv_at hl 0 rfl) ?_
                      exact wg_iret F hP hS hr hlk (⟨by unfold op_blame; rw [hx_q0, hx_i, hx_k]; simp only []; rw [hcm]; simp only []; rw [hlb]; simp only []; exact (by rw [if_neg ha0, if_neg hb0]; rfl), rfl, rfl⟩) dX7_blame_122
                    · have hb0 : op_fit S (st_cg S q0 t) (op_hat S k x) = true := hfit_b.mp c_110
                      refine lv_iload hx hb dX7_blame_113 (lv_at hl 0 rfl) ?_
                      refine lv_iconst (v := 2) hx hb dX7_blame_115 (by decide) ?_
                      refine lv_iadd hx hb dX7_blame_116 ?_
                      refine lv_goto (tgt := 122) hx hb dX7_blame_117 (by decide) ?_
                      exact wg_iret F hP hS hr hlk (⟨by unfold op_blame; rw [hx_q0, hx_i, hx_k]; simp only []; rw [hcm]; simp only []; rw [hlb]; simp only []; exact (by rw [if_neg ha0, if_pos hb0]; rfl), rfl, rfl⟩) dX7_blame_122
                  · refine wg_some (x := A (200 + st_gg S k q_b)) (by rw [w_104, hpl_b]; rfl) ?_
                    have hat_b : op_hat S k x = some (st_gg S k q_b) := by unfold op_hat; rw [hpl_b]; rfl
                    have xh_vb : C (200 + st_gg S k q_b) = some (.inr (2, [.int (nI (st_gg S k q_b)), .int (nI (lc_hh (st_B S) (st_gg S k q_b))), .long (lc_hp (st_B S) (st_gg S k q_b)), .ref (A (100 + lc_ho (st_B S) (st_gg S k q_b))), .ref (A (100 + lc_hx (st_B S) (st_gg S k q_b))), .long (lc_hr (st_B S) (st_gg S k q_b)), .long (lc_dig (st_B S) (st_gg S k q_b)), .int (nI (lc_sg (st_B S) (st_gg S k q_b)))])) := hDB.2.1 _ (igg_k q_b (lc_pl_of hpl_b).1)
                    obtain ⟨hk1_vb, hk2_vb, hk3_vb, hk4_vb⟩ := iok.2.2.2 _ (igg_k q_b (lc_pl_of hpl_b).1)
                    have xho_vb : C (100 + lc_ho (st_B S) (st_gg S k q_b)) = some (.inr (6, [.int (nI ((lc_ho (st_B S) (st_gg S k q_b)))), .long (lN (lc_sa (st_B S) ((lc_ho (st_B S) (st_gg S k q_b))))), .long (lN (lc_sb (st_B S) ((lc_ho (st_B S) (st_gg S k q_b))))), .int (nI (lc_tot (lc_sa (st_B S) ((lc_ho (st_B S) (st_gg S k q_b)))) (lc_sb (st_B S) ((lc_ho (st_B S) (st_gg S k q_b))))))])) := hDB.1 _ hk2_vb
                    have xhx_vb : C (100 + lc_hx (st_B S) (st_gg S k q_b)) = some (.inr (6, [.int (nI ((lc_hx (st_B S) (st_gg S k q_b)))), .long (lN (lc_sa (st_B S) ((lc_hx (st_B S) (st_gg S k q_b))))), .long (lN (lc_sb (st_B S) ((lc_hx (st_B S) (st_gg S k q_b))))), .int (nI (lc_tot (lc_sa (st_B S) ((lc_hx (st_B S) (st_gg S k q_b)))) (lc_sb (st_B S) ((lc_hx (st_B S) (st_gg S k q_b))))))])) := hDB.1 _ hk3_vb
                    refine wg_ci hS (wg_rV (As := [.ref (A (200 + st_cg S q0 t)), .ref (A (200 + st_gg S k q_b))]) (rest := []) F hP hS (c_X7_refusal l E A C (lc_ns (st_B S)) (st_tm S) (st_B S) (st_cg S q0 t) (st_gg S k q_b) hDB (icg_q0 _ ht) (igg_k q_b (lc_pl_of hpl_b).1) itm x0 x4) ok_X7_refusal tb_355 rfl rfl ⟨Nat.le_of_ble_eq_true rfl, Nat.le_of_ble_eq_true rfl⟩ x0 rfl rfl rfl hl.1 rfl (Nat.le_of_ble_eq_true rfl) dX7_blame_107 ⟨Nat.le_of_ble_eq_true rfl, Nat.le_of_ble_eq_true rfl⟩) (fun r_107 A1 C_107 H locs w_107 hP hS => ?_)
                    obtain ⟨w_107, rfl, rfl⟩ := w_107
                    have hfit_b : (r_107 = 0) ↔ op_fit S (st_cg S q0 t) (op_hat S k x) = true := by rw [w_107, hat_b]; exact lc_fit0
                    refine lv_if_ne (tgt := 120) hx hb dX7_blame_110 (by decide) (fun c_110 => ?_) (fun c_110 => ?_)
                    · have hb0 : ¬ op_fit S (st_cg S q0 t) (op_hat S k x) = true := fun q => c_110 (hfit_b.mpr q)
                      refine lv_iload hx hb dX7_blame_120 (lv_at hl 0 rfl) ?_
                      exact wg_iret F hP hS hr hlk (⟨by unfold op_blame; rw [hx_q0, hx_i, hx_k]; simp only []; rw [hcm]; simp only []; rw [hlb]; simp only []; exact (by rw [if_neg ha0, if_neg hb0]; rfl), rfl, rfl⟩) dX7_blame_122
                    · have hb0 : op_fit S (st_cg S q0 t) (op_hat S k x) = true := hfit_b.mp c_110
                      refine lv_iload hx hb dX7_blame_113 (lv_at hl 0 rfl) ?_
                      refine lv_iconst (v := 2) hx hb dX7_blame_115 (by decide) ?_
                      refine lv_iadd hx hb dX7_blame_116 ?_
                      refine lv_goto (tgt := 122) hx hb dX7_blame_117 (by decide) ?_
                      exact wg_iret F hP hS hr hlk (⟨by unfold op_blame; rw [hx_q0, hx_i, hx_k]; simp only []; rw [hcm]; simp only []; rw [hlb]; simp only []; exact (by rw [if_neg ha0, if_pos hb0]; rfl), rfl, rfl⟩) dX7_blame_122
                · have ha0 : op_fit S (st_cg S q0 t) (op_hat S i x) = true := hfit_a.mp c_87
                  refine lv_iconst (v := 1) hx hb dX7_blame_90 (by decide) ?_
                  refine lv_goto (tgt := 95) hx hb dX7_blame_91 (by decide) ?_
                  refine lv_istore (lv' := [(9, .int 1), (8, .ref (A (200 + st_cg S q0 t))), (7, .int (nI x)), (6, .ref (A (32 + k))), (5, .ref (A (32 + i))), (4, .ref (A (20 + q0))), (0, .ref (A 0)), (1, .int c0), (2, .int a), (3, .int b)]) hx hb dX7_blame_95 hl (by decide) rfl (fun ls hl => ?_)
                  refine lv_aload_n hx hb dX7_blame_97 rfl (lv_at hl 6 rfl) ?_
                  refine lv_aload hx hb dX7_blame_98 (lv_at hl 1 rfl) ?_
                  refine lv_aload hx hb dX7_blame_100 (lv_at hl 3 rfl) ?_
                  refine lv_iload hx hb dX7_blame_102 (lv_at hl 2 rfl) ?_
                  refine wg_cq hS (wg_rVN (As := [.int (nI x)]) (rest := [.ref (A (200 + st_cg S q0 t)), .ref (A 0)]) F hP hS (c_X1_headAt l E A C k (st_gn S k) fg_k (st_gg S k) (st_B S) x ign_k xgf_k igg_k hDB (by omega) xg1_k xg2_k xg3_k) ok_X1_headAt nb_407 rfl rfl ⟨Nat.le_of_ble_eq_true rfl, Nat.le_of_ble_eq_true rfl⟩ xg1_k rfl rfl rfl hl.1 rfl (Nat.le_of_ble_eq_true rfl) dX7_blame_104 ⟨Nat.le_of_ble_eq_true rfl, Nat.le_of_ble_eq_true rfl⟩) (fun r_104 A1 C_104 H locs w_104 hP hS => ?_)
                  obtain ⟨w_104, rfl, rfl⟩ := w_104
                  rcases hpl_b : lc_pl (fun z => lc_hh (st_B S) (st_gg S k z)) x (st_gn S k) with _ | q_b
                  · refine wg_none (by rw [w_104, hpl_b]; rfl) ?_
                    have hat_b : op_hat S k x = none := by unfold op_hat; rw [hpl_b]; rfl
                    refine wg_ci hS (wg_rV (As := [.ref (A (200 + st_cg S q0 t)), .null]) (rest := []) F hP hS (c_X7_refusal0 l E A C _) ok_X7_refusal tb_355 rfl rfl ⟨Nat.le_of_ble_eq_true rfl, Nat.le_of_ble_eq_true rfl⟩ x0 rfl rfl rfl hl.1 rfl (Nat.le_of_ble_eq_true rfl) dX7_blame_107 ⟨Nat.le_of_ble_eq_true rfl, Nat.le_of_ble_eq_true rfl⟩) (fun r_107 A1 C_107 H locs w_107 hP hS => ?_)
                    obtain ⟨w_107, rfl, rfl⟩ := w_107
                    have hfit_b : (r_107 = 0) ↔ op_fit S (st_cg S q0 t) (op_hat S k x) = true := by rw [w_107, hat_b]; exact ⟨fun h => absurd h (by decide), fun h => by cases h⟩
                    refine lv_if_ne (tgt := 120) hx hb dX7_blame_110 (by decide) (fun c_110 => ?_) (fun c_110 => ?_)
                    · have hb0 : ¬ op_fit S (st_cg S q0 t) (op_hat S k x) = true := fun q => c_110 (hfit_b.mpr q)
                      refine lv_iload hx hb dX7_blame_120 (lv_at hl 0 rfl) ?_
                      exact wg_iret F hP hS hr hlk (⟨by unfold op_blame; rw [hx_q0, hx_i, hx_k]; simp only []; rw [hcm]; simp only []; rw [hlb]; simp only []; exact (by rw [if_pos ha0, if_neg hb0]; rfl), rfl, rfl⟩) dX7_blame_122
                    · have hb0 : op_fit S (st_cg S q0 t) (op_hat S k x) = true := hfit_b.mp c_110
                      refine lv_iload hx hb dX7_blame_113 (lv_at hl 0 rfl) ?_
                      refine lv_iconst (v := 2) hx hb dX7_blame_115 (by decide) ?_
                      refine lv_iadd hx hb dX7_blame_116 ?_
                      refine lv_goto (tgt := 122) hx hb dX7_blame_117 (by decide) ?_
                      exact wg_iret F hP hS hr hlk (⟨by unfold op_blame; rw [hx_q0, hx_i, hx_k]; simp only []; rw [hcm]; simp only []; rw [hlb]; simp only []; exact (by rw [if_pos ha0, if_pos hb0]; rfl), rfl, rfl⟩) dX7_blame_122
                  · refine wg_some (x := A (200 + st_gg S k q_b)) (by rw [w_104, hpl_b]; rfl) ?_
                    have hat_b : op_hat S k x = some (st_gg S k q_b) := by unfold op_hat; rw [hpl_b]; rfl
                    have xh_vb : C (200 + st_gg S k q_b) = some (.inr (2, [.int (nI (st_gg S k q_b)), .int (nI (lc_hh (st_B S) (st_gg S k q_b))), .long (lc_hp (st_B S) (st_gg S k q_b)), .ref (A (100 + lc_ho (st_B S) (st_gg S k q_b))), .ref (A (100 + lc_hx (st_B S) (st_gg S k q_b))), .long (lc_hr (st_B S) (st_gg S k q_b)), .long (lc_dig (st_B S) (st_gg S k q_b)), .int (nI (lc_sg (st_B S) (st_gg S k q_b)))])) := hDB.2.1 _ (igg_k q_b (lc_pl_of hpl_b).1)
                    obtain ⟨hk1_vb, hk2_vb, hk3_vb, hk4_vb⟩ := iok.2.2.2 _ (igg_k q_b (lc_pl_of hpl_b).1)
                    have xho_vb : C (100 + lc_ho (st_B S) (st_gg S k q_b)) = some (.inr (6, [.int (nI ((lc_ho (st_B S) (st_gg S k q_b)))), .long (lN (lc_sa (st_B S) ((lc_ho (st_B S) (st_gg S k q_b))))), .long (lN (lc_sb (st_B S) ((lc_ho (st_B S) (st_gg S k q_b))))), .int (nI (lc_tot (lc_sa (st_B S) ((lc_ho (st_B S) (st_gg S k q_b)))) (lc_sb (st_B S) ((lc_ho (st_B S) (st_gg S k q_b))))))])) := hDB.1 _ hk2_vb
                    have xhx_vb : C (100 + lc_hx (st_B S) (st_gg S k q_b)) = some (.inr (6, [.int (nI ((lc_hx (st_B S) (st_gg S k q_b)))), .long (lN (lc_sa (st_B S) ((lc_hx (st_B S) (st_gg S k q_b))))), .long (lN (lc_sb (st_B S) ((lc_hx (st_B S) (st_gg S k q_b))))), .int (nI (lc_tot (lc_sa (st_B S) ((lc_hx (st_B S) (st_gg S k q_b)))) (lc_sb (st_B S) ((lc_hx (st_B S) (st_gg S k q_b))))))])) := hDB.1 _ hk3_vb
                    refine wg_ci hS (wg_rV (As := [.ref (A (200 + st_cg S q0 t)), .ref (A (200 + st_gg S k q_b))]) (rest := []) F hP hS (c_X7_refusal l E A C (lc_ns (st_B S)) (st_tm S) (st_B S) (st_cg S q0 t) (st_gg S k q_b) hDB (icg_q0 _ ht) (igg_k q_b (lc_pl_of hpl_b).1) itm x0 x4) ok_X7_refusal tb_355 rfl rfl ⟨Nat.le_of_ble_eq_true rfl, Nat.le_of_ble_eq_true rfl⟩ x0 rfl rfl rfl hl.1 rfl (Nat.le_of_ble_eq_true rfl) dX7_blame_107 ⟨Nat.le_of_ble_eq_true rfl, Nat.le_of_ble_eq_true rfl⟩) (fun r_107 A1 C_107 H locs w_107 hP hS => ?_)
                    obtain ⟨w_107, rfl, rfl⟩ := w_107
                    have hfit_b : (r_107 = 0) ↔ op_fit S (st_cg S q0 t) (op_hat S k x) = true := by rw [w_107, hat_b]; exact lc_fit0
                    refine lv_if_ne (tgt := 120) hx hb dX7_blame_110 (by decide) (fun c_110 => ?_) (fun c_110 => ?_)
                    · have hb0 : ¬ op_fit S (st_cg S q0 t) (op_hat S k x) = true := fun q => c_110 (hfit_b.mpr q)
                      refine lv_iload hx hb dX7_blame_120 (lv_at hl 0 rfl) ?_
                      exact wg_iret F hP hS hr hlk (⟨by unfold op_blame; rw [hx_q0, hx_i, hx_k]; simp only []; rw [hcm]; simp only []; rw [hlb]; simp only []; exact (by rw [if_pos ha0, if_neg hb0]; rfl), rfl, rfl⟩) dX7_blame_122
                    · have hb0 : op_fit S (st_cg S q0 t) (op_hat S k x) = true := hfit_b.mp c_110
                      refine lv_iload hx hb dX7_blame_113 (lv_at hl 0 rfl) ?_
                      refine lv_iconst (v := 2) hx hb dX7_blame_115 (by decide) ?_
                      refine lv_iadd hx hb dX7_blame_116 ?_
                      refine lv_goto (tgt := 122) hx hb dX7_blame_117 (by decide) ?_
                      exact wg_iret F hP hS hr hlk (⟨by unfold op_blame; rw [hx_q0, hx_i, hx_k]; simp only []; rw [hcm]; simp only []; rw [hlb]; simp only []; exact (by rw [if_pos ha0, if_pos hb0]; rfl), rfl, rfl⟩) dX7_blame_122
              · refine wg_some (x := A (200 + st_gg S i q_a)) (by rw [w_81, hpl_a]; rfl) ?_
                have hat_a : op_hat S i x = some (st_gg S i q_a) := by unfold op_hat; rw [hpl_a]; rfl
                have xh_va : C (200 + st_gg S i q_a) = some (.inr (2, [.int (nI (st_gg S i q_a)), .int (nI (lc_hh (st_B S) (st_gg S i q_a))), .long (lc_hp (st_B S) (st_gg S i q_a)), .ref (A (100 + lc_ho (st_B S) (st_gg S i q_a))), .ref (A (100 + lc_hx (st_B S) (st_gg S i q_a))), .long (lc_hr (st_B S) (st_gg S i q_a)), .long (lc_dig (st_B S) (st_gg S i q_a)), .int (nI (lc_sg (st_B S) (st_gg S i q_a)))])) := hDB.2.1 _ (igg_i q_a (lc_pl_of hpl_a).1)
                obtain ⟨hk1_va, hk2_va, hk3_va, hk4_va⟩ := iok.2.2.2 _ (igg_i q_a (lc_pl_of hpl_a).1)
                have xho_va : C (100 + lc_ho (st_B S) (st_gg S i q_a)) = some (.inr (6, [.int (nI ((lc_ho (st_B S) (st_gg S i q_a)))), .long (lN (lc_sa (st_B S) ((lc_ho (st_B S) (st_gg S i q_a))))), .long (lN (lc_sb (st_B S) ((lc_ho (st_B S) (st_gg S i q_a))))), .int (nI (lc_tot (lc_sa (st_B S) ((lc_ho (st_B S) (st_gg S i q_a)))) (lc_sb (st_B S) ((lc_ho (st_B S) (st_gg S i q_a))))))])) := hDB.1 _ hk2_va
                have xhx_va : C (100 + lc_hx (st_B S) (st_gg S i q_a)) = some (.inr (6, [.int (nI ((lc_hx (st_B S) (st_gg S i q_a)))), .long (lN (lc_sa (st_B S) ((lc_hx (st_B S) (st_gg S i q_a))))), .long (lN (lc_sb (st_B S) ((lc_hx (st_B S) (st_gg S i q_a))))), .int (nI (lc_tot (lc_sa (st_B S) ((lc_hx (st_B S) (st_gg S i q_a)))) (lc_sb (st_B S) ((lc_hx (st_B S) (st_gg S i q_a))))))])) := hDB.1 _ hk3_va
                refine wg_ci hS (wg_rV (As := [.ref (A (200 + st_cg S q0 t)), .ref (A (200 + st_gg S i q_a))]) (rest := []) F hP hS (c_X7_refusal l E A C (lc_ns (st_B S)) (st_tm S) (st_B S) (st_cg S q0 t) (st_gg S i q_a) hDB (icg_q0 _ ht) (igg_i q_a (lc_pl_of hpl_a).1) itm x0 x4) ok_X7_refusal tb_355 rfl rfl ⟨Nat.le_of_ble_eq_true rfl, Nat.le_of_ble_eq_true rfl⟩ x0 rfl rfl rfl hl.1 rfl (Nat.le_of_ble_eq_true rfl) dX7_blame_84 ⟨Nat.le_of_ble_eq_true rfl, Nat.le_of_ble_eq_true rfl⟩) (fun r_84 A1 C_84 H locs w_84 hP hS => ?_)
                obtain ⟨w_84, rfl, rfl⟩ := w_84
                have hfit_a : (r_84 = 0) ↔ op_fit S (st_cg S q0 t) (op_hat S i x) = true := by rw [w_84, hat_a]; exact lc_fit0
                refine lv_if_ne (tgt := 94) hx hb dX7_blame_87 (by decide) (fun c_87 => ?_) (fun c_87 => ?_)
                · have ha0 : ¬ op_fit S (st_cg S q0 t) (op_hat S i x) = true := fun q => c_87 (hfit_a.mpr q)
                  refine lv_iconst (v := 0) hx hb dX7_blame_94 (by decide) ?_
                  refine lv_istore (lv' := [(9, .int 0), (8, .ref (A (200 + st_cg S q0 t))), (7, .int (nI x)), (6, .ref (A (32 + k))), (5, .ref (A (32 + i))), (4, .ref (A (20 + q0))), (0, .ref (A 0)), (1, .int c0), (2, .int a), (3, .int b)]) hx hb dX7_blame_95 hl (by decide) rfl (fun ls hl => ?_)
                  refine lv_aload_n hx hb dX7_blame_97 rfl (lv_at hl 6 rfl) ?_
                  refine lv_aload hx hb dX7_blame_98 (lv_at hl 1 rfl) ?_
                  refine lv_aload hx hb dX7_blame_100 (lv_at hl 3 rfl) ?_
                  refine lv_iload hx hb dX7_blame_102 (lv_at hl 2 rfl) ?_
                  refine wg_cq hS (wg_rVN (As := [.int (nI x)]) (rest := [.ref (A (200 + st_cg S q0 t)), .ref (A 0)]) F hP hS (c_X1_headAt l E A C k (st_gn S k) fg_k (st_gg S k) (st_B S) x ign_k xgf_k igg_k hDB (by omega) xg1_k xg2_k xg3_k) ok_X1_headAt nb_407 rfl rfl ⟨Nat.le_of_ble_eq_true rfl, Nat.le_of_ble_eq_true rfl⟩ xg1_k rfl rfl rfl hl.1 rfl (Nat.le_of_ble_eq_true rfl) dX7_blame_104 ⟨Nat.le_of_ble_eq_true rfl, Nat.le_of_ble_eq_true rfl⟩) (fun r_104 A1 C_104 H locs w_104 hP hS => ?_)
                  obtain ⟨w_104, rfl, rfl⟩ := w_104
                  rcases hpl_b : lc_pl (fun z => lc_hh (st_B S) (st_gg S k z)) x (st_gn S k) with _ | q_b
                  · refine wg_none (by rw [w_104, hpl_b]; rfl) ?_
                    have hat_b : op_hat S k x = none := by unfold op_hat; rw [hpl_b]; rfl
                    refine wg_ci hS (wg_rV (As := [.ref (A (200 + st_cg S q0 t)), .null]) (rest := []) F hP hS (c_X7_refusal0 l E A C _) ok_X7_refusal tb_355 rfl rfl ⟨Nat.le_of_ble_eq_true rfl, Nat.le_of_ble_eq_true rfl⟩ x0 rfl rfl rfl hl.1 rfl (Nat.le_of_ble_eq_true rfl) dX7_blame_107 ⟨Nat.le_of_ble_eq_true rfl, Nat.le_of_ble_eq_true rfl⟩) (fun r_107 A1 C_107 H locs w_107 hP hS => ?_)
                    obtain ⟨w_107, rfl, rfl⟩ := w_107
                    have hfit_b : (r_107 = 0) ↔ op_fit S (st_cg S q0 t) (op_hat S k x) = true := by rw [w_107, hat_b]; exact ⟨fun h => absurd h (by decide), fun h => by cases h⟩
                    refine lv_if_ne (tgt := 120) hx hb dX7_blame_110 (by decide) (fun c_110 => ?_) (fun c_110 => ?_)
                    · have hb0 : ¬ op_fit S (st_cg S q0 t) (op_hat S k x) = true := fun q => c_110 (hfit_b.mpr q)
                      refine lv_iload hx hb dX7_blame_120 (lv_at hl 0 rfl) ?_
                      exact wg_iret F hP hS hr hlk (⟨by unfold op_blame; rw [hx_q0, hx_i, hx_k]; simp only []; rw [hcm]; simp only []; rw [hlb]; simp only []; exact (by rw [if_neg ha0, if_neg hb0]; rfl), rfl, rfl⟩) dX7_blame_122
                    · have hb0 : op_fit S (st_cg S q0 t) (op_hat S k x) = true := hfit_b.mp c_110
                      refine lv_iload hx hb dX7_blame_113 (lv_at hl 0 rfl) ?_
                      refine lv_iconst (v := 2) hx hb dX7_blame_115 (by decide) ?_
                      refine lv_iadd hx hb dX7_blame_116 ?_
                      refine lv_goto (tgt := 122) hx hb dX7_blame_117 (by decide) ?_
                      exact wg_iret F hP hS hr hlk (⟨by unfold op_blame; rw [hx_q0, hx_i, hx_k]; simp only []; rw [hcm]; simp only []; rw [hlb]; simp only []; exact (by rw [if_neg ha0, if_pos hb0]; rfl), rfl, rfl⟩) dX7_blame_122
                  · refine wg_some (x := A (200 + st_gg S k q_b)) (by rw [w_104, hpl_b]; rfl) ?_
                    have hat_b : op_hat S k x = some (st_gg S k q_b) := by unfold op_hat; rw [hpl_b]; rfl
                    have xh_vb : C (200 + st_gg S k q_b) = some (.inr (2, [.int (nI (st_gg S k q_b)), .int (nI (lc_hh (st_B S) (st_gg S k q_b))), .long (lc_hp (st_B S) (st_gg S k q_b)), .ref (A (100 + lc_ho (st_B S) (st_gg S k q_b))), .ref (A (100 + lc_hx (st_B S) (st_gg S k q_b))), .long (lc_hr (st_B S) (st_gg S k q_b)), .long (lc_dig (st_B S) (st_gg S k q_b)), .int (nI (lc_sg (st_B S) (st_gg S k q_b)))])) := hDB.2.1 _ (igg_k q_b (lc_pl_of hpl_b).1)
                    obtain ⟨hk1_vb, hk2_vb, hk3_vb, hk4_vb⟩ := iok.2.2.2 _ (igg_k q_b (lc_pl_of hpl_b).1)
                    have xho_vb : C (100 + lc_ho (st_B S) (st_gg S k q_b)) = some (.inr (6, [.int (nI ((lc_ho (st_B S) (st_gg S k q_b)))), .long (lN (lc_sa (st_B S) ((lc_ho (st_B S) (st_gg S k q_b))))), .long (lN (lc_sb (st_B S) ((lc_ho (st_B S) (st_gg S k q_b))))), .int (nI (lc_tot (lc_sa (st_B S) ((lc_ho (st_B S) (st_gg S k q_b)))) (lc_sb (st_B S) ((lc_ho (st_B S) (st_gg S k q_b))))))])) := hDB.1 _ hk2_vb
                    have xhx_vb : C (100 + lc_hx (st_B S) (st_gg S k q_b)) = some (.inr (6, [.int (nI ((lc_hx (st_B S) (st_gg S k q_b)))), .long (lN (lc_sa (st_B S) ((lc_hx (st_B S) (st_gg S k q_b))))), .long (lN (lc_sb (st_B S) ((lc_hx (st_B S) (st_gg S k q_b))))), .int (nI (lc_tot (lc_sa (st_B S) ((lc_hx (st_B S) (st_gg S k q_b)))) (lc_sb (st_B S) ((lc_hx (st_B S) (st_gg S k q_b))))))])) := hDB.1 _ hk3_vb
                    refine wg_ci hS (wg_rV (As := [.ref (A (200 + st_cg S q0 t)), .ref (A (200 + st_gg S k q_b))]) (rest := []) F hP hS (c_X7_refusal l E A C (lc_ns (st_B S)) (st_tm S) (st_B S) (st_cg S q0 t) (st_gg S k q_b) hDB (icg_q0 _ ht) (igg_k q_b (lc_pl_of hpl_b).1) itm x0 x4) ok_X7_refusal tb_355 rfl rfl ⟨Nat.le_of_ble_eq_true rfl, Nat.le_of_ble_eq_true rfl⟩ x0 rfl rfl rfl hl.1 rfl (Nat.le_of_ble_eq_true rfl) dX7_blame_107 ⟨Nat.le_of_ble_eq_true rfl, Nat.le_of_ble_eq_true rfl⟩) (fun r_107 A1 C_107 H locs w_107 hP hS => ?_)
                    obtain ⟨w_107, rfl, rfl⟩ := w_107
                    have hfit_b : (r_107 = 0) ↔ op_fit S (st_cg S q0 t) (op_hat S k x) = true := by rw [w_107, hat_b]; exact lc_fit0
                    refine lv_if_ne (tgt := 120) hx hb dX7_blame_110 (by decide) (fun c_110 => ?_) (fun c_110 => ?_)
                    · have hb0 : ¬ op_fit S (st_cg S q0 t) (op_hat S k x) = true := fun q => c_110 (hfit_b.mpr q)
                      refine lv_iload hx hb dX7_blame_120 (lv_at hl 0 rfl) ?_
                      exact wg_iret F hP hS hr hlk (⟨by unfold op_blame; rw [hx_q0, hx_i, hx_k]; simp only []; rw [hcm]; simp only []; rw [hlb]; simp only []; exact (by rw [if_neg ha0, if_neg hb0]; rfl), rfl, rfl⟩) dX7_blame_122
                    · have hb0 : op_fit S (st_cg S q0 t) (op_hat S k x) = true := hfit_b.mp c_110
                      refine lv_iload hx hb dX7_blame_113 (lv_at hl 0 rfl) ?_
                      refine lv_iconst (v := 2) hx hb dX7_blame_115 (by decide) ?_
                      refine lv_iadd hx hb dX7_blame_116 ?_
                      refine lv_goto (tgt := 122) hx hb dX7_blame_117 (by decide) ?_
                      exact wg_iret F hP hS hr hlk (⟨by unfold op_blame; rw [hx_q0, hx_i, hx_k]; simp only []; rw [hcm]; simp only []; rw [hlb]; simp only []; exact (by rw [if_neg ha0, if_pos hb0]; rfl), rfl, rfl⟩) dX7_blame_122
                · have ha0 : op_fit S (st_cg S q0 t) (op_hat S i x) = true := hfit_a.mp c_87
                  refine lv_iconst (v := 1) hx hb dX7_blame_90 (by decide) ?_
                  refine lv_goto (tgt := 95) hx hb dX7_blame_91 (by decide) ?_
                  refine lv_istore (lv' := [(9, .int 1), (8, .ref (A (200 + st_cg S q0 t))), (7, .int (nI x)), (6, .ref (A (32 + k))), (5, .ref (A (32 + i))), (4, .ref (A (20 + q0))), (0, .ref (A 0)), (1, .int c0), (2, .int a), (3, .int b)]) hx hb dX7_blame_95 hl (by decide) rfl (fun ls hl => ?_)
                  refine lv_aload_n hx hb dX7_blame_97 rfl (lv_at hl 6 rfl) ?_
                  refine lv_aload hx hb dX7_blame_98 (lv_at hl 1 rfl) ?_
                  refine lv_aload hx hb dX7_blame_100 (lv_at hl 3 rfl) ?_
                  refine lv_iload hx hb dX7_blame_102 (lv_at hl 2 rfl) ?_
                  refine wg_cq hS (wg_rVN (As := [.int (nI x)]) (rest := [.ref (A (200 + st_cg S q0 t)), .ref (A 0)]) F hP hS (c_X1_headAt l E A C k (st_gn S k) fg_k (st_gg S k) (st_B S) x ign_k xgf_k igg_k hDB (by omega) xg1_k xg2_k xg3_k) ok_X1_headAt nb_407 rfl rfl ⟨Nat.le_of_ble_eq_true rfl, Nat.le_of_ble_eq_true rfl⟩ xg1_k rfl rfl rfl hl.1 rfl (Nat.le_of_ble_eq_true rfl) dX7_blame_104 ⟨Nat.le_of_ble_eq_true rfl, Nat.le_of_ble_eq_true rfl⟩) (fun r_104 A1 C_104 H locs w_104 hP hS => ?_)
                  obtain ⟨w_104, rfl, rfl⟩ := w_104
                  rcases hpl_b : lc_pl (fun z => lc_hh (st_B S) (st_gg S k z)) x (st_gn S k) with _ | q_b
                  · refine wg_none (by rw [w_104, hpl_b]; rfl) ?_
                    have hat_b : op_hat S k x = none := by unfold op_hat; rw [hpl_b]; rfl
                    refine wg_ci hS (wg_rV (As := [.ref (A (200 + st_cg S q0 t)), .null]) (rest := []) F hP hS (c_X7_refusal0 l E A C _) ok_X7_refusal tb_355 rfl rfl ⟨Nat.le_of_ble_eq_true rfl, Nat.le_of_ble_eq_true rfl⟩ x0 rfl rfl rfl hl.1 rfl (Nat.le_of_ble_eq_true rfl) dX7_blame_107 ⟨Nat.le_of_ble_eq_true rfl, Nat.le_of_ble_eq_true rfl⟩) (fun r_107 A1 C_107 H locs w_107 hP hS => ?_)
                    obtain ⟨w_107, rfl, rfl⟩ := w_107
                    have hfit_b : (r_107 = 0) ↔ op_fit S (st_cg S q0 t) (op_hat S k x) = true := by rw [w_107, hat_b]; exact ⟨fun h => absurd h (by decide), fun h => by cases h⟩
                    refine lv_if_ne (tgt := 120) hx hb dX7_blame_110 (by decide) (fun c_110 => ?_) (fun c_110 => ?_)
                    · have hb0 : ¬ op_fit S (st_cg S q0 t) (op_hat S k x) = true := fun q => c_110 (hfit_b.mpr q)
                      refine lv_iload hx hb dX7_blame_120 (lv_at hl 0 rfl) ?_
                      exact wg_iret F hP hS hr hlk (⟨by unfold op_blame; rw [hx_q0, hx_i, hx_k]; simp only []; rw [hcm]; simp only []; rw [hlb]; simp only []; exact (by rw [if_pos ha0, if_neg hb0]; rfl), rfl, rfl⟩) dX7_blame_122
                    · have hb0 : op_fit S (st_cg S q0 t) (op_hat S k x) = true := hfit_b.mp c_110
                      refine lv_iload hx hb dX7_blame_113 (lv_at hl 0 rfl) ?_
                      refine lv_iconst (v := 2) hx hb dX7_blame_115 (by decide) ?_
                      refine lv_iadd hx hb dX7_blame_116 ?_
                      refine lv_goto (tgt := 122) hx hb dX7_blame_117 (by decide) ?_
                      exact wg_iret F hP hS hr hlk (⟨by unfold op_blame; rw [hx_q0, hx_i, hx_k]; simp only []; rw [hcm]; simp only []; rw [hlb]; simp only []; exact (by rw [if_pos ha0, if_pos hb0]; rfl), rfl, rfl⟩) dX7_blame_122
                  · refine wg_some (x := A (200 + st_gg S k q_b)) (by rw [w_104, hpl_b]; rfl) ?_
                    have hat_b : op_hat S k x = some (st_gg S k q_b) := by unfold op_hat; rw [hpl_b]; rfl
                    have xh_vb : C (200 + st_gg S k q_b) = some (.inr (2, [.int (nI (st_gg S k q_b)), .int (nI (lc_hh (st_B S) (st_gg S k q_b))), .long (lc_hp (st_B S) (st_gg S k q_b)), .ref (A (100 + lc_ho (st_B S) (st_gg S k q_b))), .ref (A (100 + lc_hx (st_B S) (st_gg S k q_b))), .long (lc_hr (st_B S) (st_gg S k q_b)), .long (lc_dig (st_B S) (st_gg S k q_b)), .int (nI (lc_sg (st_B S) (st_gg S k q_b)))])) := hDB.2.1 _ (igg_k q_b (lc_pl_of hpl_b).1)
                    obtain ⟨hk1_vb, hk2_vb, hk3_vb, hk4_vb⟩ := iok.2.2.2 _ (igg_k q_b (lc_pl_of hpl_b).1)
                    have xho_vb : C (100 + lc_ho (st_B S) (st_gg S k q_b)) = some (.inr (6, [.int (nI ((lc_ho (st_B S) (st_gg S k q_b)))), .long (lN (lc_sa (st_B S) ((lc_ho (st_B S) (st_gg S k q_b))))), .long (lN (lc_sb (st_B S) ((lc_ho (st_B S) (st_gg S k q_b))))), .int (nI (lc_tot (lc_sa (st_B S) ((lc_ho (st_B S) (st_gg S k q_b)))) (lc_sb (st_B S) ((lc_ho (st_B S) (st_gg S k q_b))))))])) := hDB.1 _ hk2_vb
                    have xhx_vb : C (100 + lc_hx (st_B S) (st_gg S k q_b)) = some (.inr (6, [.int (nI ((lc_hx (st_B S) (st_gg S k q_b)))), .long (lN (lc_sa (st_B S) ((lc_hx (st_B S) (st_gg S k q_b))))), .long (lN (lc_sb (st_B S) ((lc_hx (st_B S) (st_gg S k q_b))))), .int (nI (lc_tot (lc_sa (st_B S) ((lc_hx (st_B S) (st_gg S k q_b)))) (lc_sb (st_B S) ((lc_hx (st_B S) (st_gg S k q_b))))))])) := hDB.1 _ hk3_vb
                    refine wg_ci hS (wg_rV (As := [.ref (A (200 + st_cg S q0 t)), .ref (A (200 + st_gg S k q_b))]) (rest := []) F hP hS (c_X7_refusal l E A C (lc_ns (st_B S)) (st_tm S) (st_B S) (st_cg S q0 t) (st_gg S k q_b) hDB (icg_q0 _ ht) (igg_k q_b (lc_pl_of hpl_b).1) itm x0 x4) ok_X7_refusal tb_355 rfl rfl ⟨Nat.le_of_ble_eq_true rfl, Nat.le_of_ble_eq_true rfl⟩ x0 rfl rfl rfl hl.1 rfl (Nat.le_of_ble_eq_true rfl) dX7_blame_107 ⟨Nat.le_of_ble_eq_true rfl, Nat.le_of_ble_eq_true rfl⟩) (fun r_107 A1 C_107 H locs w_107 hP hS => ?_)
                    obtain ⟨w_107, rfl, rfl⟩ := w_107
                    have hfit_b : (r_107 = 0) ↔ op_fit S (st_cg S q0 t) (op_hat S k x) = true := by rw [w_107, hat_b]; exact lc_fit0
                    refine lv_if_ne (tgt := 120) hx hb dX7_blame_110 (by decide) (fun c_110 => ?_) (fun c_110 => ?_)
                    · have hb0 : ¬ op_fit S (st_cg S q0 t) (op_hat S k x) = true := fun q => c_110 (hfit_b.mpr q)
                      refine lv_iload hx hb dX7_blame_120 (lv_at hl 0 rfl) ?_
                      exact wg_iret F hP hS hr hlk (⟨by unfold op_blame; rw [hx_q0, hx_i, hx_k]; simp only []; rw [hcm]; simp only []; rw [hlb]; simp only []; exact (by rw [if_pos ha0, if_neg hb0]; rfl), rfl, rfl⟩) dX7_blame_122
                    · have hb0 : op_fit S (st_cg S q0 t) (op_hat S k x) = true := hfit_b.mp c_110
                      refine lv_iload hx hb dX7_blame_113 (lv_at hl 0 rfl) ?_
                      refine lv_iconst (v := 2) hx hb dX7_blame_115 (by decide) ?_
                      refine lv_iadd hx hb dX7_blame_116 ?_
                      refine lv_goto (tgt := 122) hx hb dX7_blame_117 (by decide) ?_
                      exact wg_iret F hP hS hr hlk (⟨by unfold op_blame; rw [hx_q0, hx_i, hx_k]; simp only []; rw [hcm]; simp only []; rw [hlb]; simp only []; exact (by rw [if_pos ha0, if_pos hb0]; rfl), rfl, rfl⟩) dX7_blame_122
          · exact absurd c_51 (lc_nI_ne2 (by omega))
