set_option maxHeartbeats 4000000 in
set_option maxRecDepth 100000 in
theorem c_X7_digest (l : Launch) (E : wg_E) (A : Nat → Nat) (C : wg_C) (S : lc_S) (h : Int32) (hX : lx E A C S) (hI : lc_inv S)  : Met l yX7_digest (wg_ws yX7_digest cX7_digest 3 (some .long)) (wg_rm 2 0 0) (wg_Pc E A C [.ref (A 0), .int h]) (wg_Ql E (fun r A1 C1 => r = op_digest S h ∧ A = A1 ∧ C = C1)) 0 0 (wg_A E) := by
  refine wg_met (by decide) (Nat.le_of_ble_eq_true rfl) ?_
  intro p e s m below meth c ls F hr hlk hnm hP hS hl
  have F : wg_F p m c cX7_digest 3 s ([.ref (A 0), .int h] : List Value).toArray "LightChecks" E := F
  have hx := F.1
  have hb := F.2.1
  have hml := F.2.2.1
  have hown := F.2.2.2.1
  have hts := F.2.2.2.2.1
  have hl : lv_has ls 3 [(0, .ref (A 0)), (1, .int h)] := hl
  obtain ⟨x0, ⟨f1, x1, x1f⟩, x2, ⟨f3, x3, x3f⟩, x4, ⟨f5, x5, x5f⟩, ⟨f6, x6, x6f⟩, ⟨f7, x7⟩, ⟨x8, x9, nd, x10, hnd⟩, ⟨x11, x12, rk, x13⟩, xc, xg, hDB⟩ := id hX
  obtain ⟨iok, ⟨itm, itm3a, itm3b⟩, icl, igv, ipa, ipb, ipab⟩ := id hI
  have ins := iok.1
  have inh := iok.2.1
  refine lv_aload_n hx hb dX7_digest_0 rfl (lv_at hl 0 rfl) ?_
  refine wg_get F hP x0 rfl iw_X7 2 (by decide) tb_165 rfl rfl dX7_digest_1 ?_
  refine lv_iload_n hx hb dX7_digest_4 rfl (lv_at hl 1 rfl) ?_
  refine wg_cq hS (wg_rVN (As := [.int h]) (rest := []) F hP hS (c_X3_at l E A C 2 3 60 (lc_nh (st_B S)) f3 h inh (by decide) x2 x3) ok_X3_at nb_291 rfl rfl ⟨Nat.le_of_ble_eq_true rfl, Nat.le_of_ble_eq_true rfl⟩ x2 rfl rfl rfl hl.1 rfl (Nat.le_of_ble_eq_true rfl) dX7_digest_5 ⟨Nat.le_of_ble_eq_true rfl, Nat.le_of_ble_eq_true rfl⟩) (fun r_5 A1 C_5 H locs w_5 hP hS => ?_)
  obtain ⟨w_5, rfl, rfl⟩ := w_5
  rcases hx_j : lc_ix h (lc_nh (st_B S)) with _ | j
  · refine wg_none (by rw [w_5, lc_at_ix (by omega) x3f, hx_j]; rfl) ?_
    refine lv_astore_nN (lv' := [(2, .null), (0, .ref (A 0)), (1, .int h)]) hx hb dX7_digest_8 rfl hl (by decide) rfl (fun ls hl => ?_)
    refine lv_aload_nN hx hb dX7_digest_9 rfl (lv_at hl 0 rfl) ?_
    refine lv_ifnonnullN hx hb dX7_digest_10 ?_
    refine lv_lconst (v := 0) hx hb dX7_digest_13 (by decide) ?_
    refine lv_goto (tgt := 21) hx hb dX7_digest_14 (by decide) ?_
    exact wg_lret F hP hS hr hlk (⟨by unfold op_digest; rw [hx_j], rfl, rfl⟩) dX7_digest_21
  · refine wg_some (x := A (200 + j)) (by rw [w_5, lc_at_ix (by omega) x3f, hx_j]; rfl) ?_
    obtain ⟨hj, ej, tj⟩ := lc_ix_some hx_j
    have xh_j : C (200 + j) = some (.inr (2, [.int (nI j), .int (nI (lc_hh (st_B S) j)), .long (lc_hp (st_B S) j), .ref (A (100 + lc_ho (st_B S) j)), .ref (A (100 + lc_hx (st_B S) j)), .long (lc_hr (st_B S) j), .long (lc_dig (st_B S) j), .int (nI (lc_sg (st_B S) j))])) := hDB.2.1 _ hj
    obtain ⟨hk1_j, hk2_j, hk3_j, hk4_j⟩ := iok.2.2.2 _ hj
    have xho_j : C (100 + lc_ho (st_B S) j) = some (.inr (6, [.int (nI ((lc_ho (st_B S) j))), .long (lN (lc_sa (st_B S) ((lc_ho (st_B S) j)))), .long (lN (lc_sb (st_B S) ((lc_ho (st_B S) j)))), .int (nI (lc_tot (lc_sa (st_B S) ((lc_ho (st_B S) j))) (lc_sb (st_B S) ((lc_ho (st_B S) j)))))])) := hDB.1 _ hk2_j
    have xhx_j : C (100 + lc_hx (st_B S) j) = some (.inr (6, [.int (nI ((lc_hx (st_B S) j))), .long (lN (lc_sa (st_B S) ((lc_hx (st_B S) j)))), .long (lN (lc_sb (st_B S) ((lc_hx (st_B S) j)))), .int (nI (lc_tot (lc_sa (st_B S) ((lc_hx (st_B S) j))) (lc_sb (st_B S) ((lc_hx (st_B S) j)))))])) := hDB.1 _ hk3_j
    refine lv_astore_n (lv' := [(2, .ref (A (200 + j))), (0, .ref (A 0)), (1, .int h)]) hx hb dX7_digest_8 rfl hl (by decide) rfl (fun ls hl => ?_)
    refine lv_aload_n hx hb dX7_digest_9 rfl (lv_at hl 0 rfl) ?_
    refine lv_ifnonnull (tgt := 17) hx hb dX7_digest_10 (by decide) ?_
    refine lv_aload_n hx hb dX7_digest_17 rfl (lv_at hl 0 rfl) ?_
    refine wg_getN F hP xh_j rfl iw_X2 6 (by decide) nb_262 rfl rfl dX7_digest_18 ?_
    exact wg_lret F hP hS hr hlk (⟨by unfold op_digest; rw [hx_j], rfl, rfl⟩) dX7_digest_21
set_option maxHeartbeats 4000000 in
set_option maxRecDepth 100000 in
theorem c_X7_certified (l : Launch) (E : wg_E) (A : Nat → Nat) (C : wg_C) (S : lc_S) (h : Int32) (hX : lx E A C S) (hI : lc_inv S)  : Met l yX7_certified (wg_ws yX7_certified cX7_certified 3 (some .int)) (wg_rm 3 0 0) (wg_Pc E A C [.ref (A 0), .int h]) (wg_Qi E (fun r A1 C1 => r = op_certified S h ∧ A = A1 ∧ C = C1)) 0 0 (wg_A E) := by
  refine wg_met (by decide) (Nat.le_of_ble_eq_true rfl) ?_
  intro p e s m below meth c ls F hr hlk hnm hP hS hl
  have F : wg_F p m c cX7_certified 3 s ([.ref (A 0), .int h] : List Value).toArray "LightChecks" E := F
  have hx := F.1
  have hb := F.2.1
  have hml := F.2.2.1
  have hown := F.2.2.2.1
  have hts := F.2.2.2.2.1
  have hl : lv_has ls 3 [(0, .ref (A 0)), (1, .int h)] := hl
  obtain ⟨x0, ⟨f1, x1, x1f⟩, x2, ⟨f3, x3, x3f⟩, x4, ⟨f5, x5, x5f⟩, ⟨f6, x6, x6f⟩, ⟨f7, x7⟩, ⟨x8, x9, nd, x10, hnd⟩, ⟨x11, x12, rk, x13⟩, xc, xg, hDB⟩ := id hX
  obtain ⟨iok, ⟨itm, itm3a, itm3b⟩, icl, igv, ipa, ipb, ipab⟩ := id hI
  have ins := iok.1
  have inh := iok.2.1
  refine lv_aload_n hx hb dX7_certified_0 rfl (lv_at hl 0 rfl) ?_
  refine wg_get F hP x0 rfl iw_X7 2 (by decide) tb_165 rfl rfl dX7_certified_1 ?_
  refine lv_iload_n hx hb dX7_certified_4 rfl (lv_at hl 1 rfl) ?_
  refine wg_cq hS (wg_rVN (As := [.int h]) (rest := []) F hP hS (c_X3_at l E A C 2 3 60 (lc_nh (st_B S)) f3 h inh (by decide) x2 x3) ok_X3_at nb_291 rfl rfl ⟨Nat.le_of_ble_eq_true rfl, Nat.le_of_ble_eq_true rfl⟩ x2 rfl rfl rfl hl.1 rfl (Nat.le_of_ble_eq_true rfl) dX7_certified_5 ⟨Nat.le_of_ble_eq_true rfl, Nat.le_of_ble_eq_true rfl⟩) (fun r_5 A1 C_5 H locs w_5 hP hS => ?_)
  obtain ⟨w_5, rfl, rfl⟩ := w_5
  rcases hx_j : lc_ix h (lc_nh (st_B S)) with _ | j
  · refine wg_none (by rw [w_5, lc_at_ix (by omega) x3f, hx_j]; rfl) ?_
    refine lv_astore_nN (lv' := [(2, .null), (0, .ref (A 0)), (1, .int h)]) hx hb dX7_certified_8 rfl hl (by decide) rfl (fun ls hl => ?_)
    refine lv_aload_nN hx hb dX7_certified_9 rfl (lv_at hl 0 rfl) ?_
    refine lv_ifnonnullN hx hb dX7_certified_10 ?_
    refine lv_iconst (v := (-1)) hx hb dX7_certified_13 (by decide) ?_
    exact wg_iret F hP hS hr hlk (⟨by unfold op_certified; rw [hx_j], rfl, rfl⟩) dX7_certified_14
  · refine wg_some (x := A (200 + j)) (by rw [w_5, lc_at_ix (by omega) x3f, hx_j]; rfl) ?_
    obtain ⟨hj, ej, tj⟩ := lc_ix_some hx_j
    have xh_j : C (200 + j) = some (.inr (2, [.int (nI j), .int (nI (lc_hh (st_B S) j)), .long (lc_hp (st_B S) j), .ref (A (100 + lc_ho (st_B S) j)), .ref (A (100 + lc_hx (st_B S) j)), .long (lc_hr (st_B S) j), .long (lc_dig (st_B S) j), .int (nI (lc_sg (st_B S) j))])) := hDB.2.1 _ hj
    obtain ⟨hk1_j, hk2_j, hk3_j, hk4_j⟩ := iok.2.2.2 _ hj
    have xho_j : C (100 + lc_ho (st_B S) j) = some (.inr (6, [.int (nI ((lc_ho (st_B S) j))), .long (lN (lc_sa (st_B S) ((lc_ho (st_B S) j)))), .long (lN (lc_sb (st_B S) ((lc_ho (st_B S) j)))), .int (nI (lc_tot (lc_sa (st_B S) ((lc_ho (st_B S) j))) (lc_sb (st_B S) ((lc_ho (st_B S) j)))))])) := hDB.1 _ hk2_j
    have xhx_j : C (100 + lc_hx (st_B S) j) = some (.inr (6, [.int (nI ((lc_hx (st_B S) j))), .long (lN (lc_sa (st_B S) ((lc_hx (st_B S) j)))), .long (lN (lc_sb (st_B S) ((lc_hx (st_B S) j)))), .int (nI (lc_tot (lc_sa (st_B S) ((lc_hx (st_B S) j))) (lc_sb (st_B S) ((lc_hx (st_B S) j)))))])) := hDB.1 _ hk3_j
    refine lv_astore_n (lv' := [(2, .ref (A (200 + j))), (0, .ref (A 0)), (1, .int h)]) hx hb dX7_certified_8 rfl hl (by decide) rfl (fun ls hl => ?_)
    refine lv_aload_n hx hb dX7_certified_9 rfl (lv_at hl 0 rfl) ?_
    refine lv_ifnonnull (tgt := 15) hx hb dX7_certified_10 (by decide) ?_
    refine lv_aload_n hx hb dX7_certified_15 rfl (lv_at hl 0 rfl) ?_
    refine wg_ci hS (wg_rS (As := [.ref (A (200 + j))]) (rest := []) F hP hS (c_X7_isCertified l E A C (200 + j) (100 + lc_ho (st_B S) j) (100 + lc_hx (st_B S) j) _ _ _ _ _ _ _ _ _ (iok.2.2.1 _ hk2_j).1.lt (iok.2.2.1 _ hk2_j).2.lt hk4_j xh_j xho_j) ok_X7_isCertified tb_311 rfl rfl ⟨Nat.le_of_ble_eq_true rfl, Nat.le_of_ble_eq_true rfl⟩ rfl hl.1 rfl (Nat.le_of_ble_eq_true rfl) dX7_certified_16 ⟨Nat.le_of_ble_eq_true rfl, Nat.le_of_ble_eq_true rfl⟩) (fun r_16 A1 C_16 H locs w_16 hP hS => ?_)
    obtain ⟨w_16, rfl, rfl⟩ := w_16
    refine lv_if_eq (tgt := 26) hx hb dX7_certified_19 (by decide) (fun c_19 => ?_) (fun c_19 => ?_)
    · have hc : ¬ lc_cert (st_B S) j := lc_if1 w_16 c_19
      refine lv_iconst (v := 0) hx hb dX7_certified_26 (by decide) ?_
      exact wg_iret F hP hS hr hlk (⟨by unfold op_certified; rw [hx_j]; exact (if_neg hc).symm, rfl, rfl⟩) dX7_certified_27
    · have hc : lc_cert (st_B S) j := lc_if2 w_16 c_19
      refine lv_iconst (v := 1) hx hb dX7_certified_22 (by decide) ?_
      refine lv_goto (tgt := 27) hx hb dX7_certified_23 (by decide) ?_
      exact wg_iret F hP hS hr hlk (⟨by unfold op_certified; rw [hx_j]; exact (if_pos hc).symm, rfl, rfl⟩) dX7_certified_27
set_option maxHeartbeats 4000000 in
set_option maxRecDepth 100000 in
theorem c_X7_overlaps (l : Launch) (E : wg_E) (A : Nat → Nat) (C : wg_C) (S : lc_S) (h w : Int32) (hX : lx E A C S) (hI : lc_inv S)  : Met l yX7_overlaps (wg_ws yX7_overlaps cX7_overlaps 5 (some .int)) (wg_rm 3 0 0) (wg_Pc E A C [.ref (A 0), .int h, .int w]) (wg_Qi E (fun r A1 C1 => r = op_overlaps S h w ∧ A = A1 ∧ C = C1)) 0 0 (wg_A E) := by
  refine wg_met (by decide) (Nat.le_of_ble_eq_true rfl) ?_
  intro p e s m below meth c ls F hr hlk hnm hP hS hl
  have F : wg_F p m c cX7_overlaps 5 s ([.ref (A 0), .int h, .int w] : List Value).toArray "LightChecks" E := F
  have hx := F.1
  have hb := F.2.1
  have hml := F.2.2.1
  have hown := F.2.2.2.1
  have hts := F.2.2.2.2.1
  have hl : lv_has ls 5 [(0, .ref (A 0)), (1, .int h), (2, .int w)] := hl
  obtain ⟨x0, ⟨f1, x1, x1f⟩, x2, ⟨f3, x3, x3f⟩, x4, ⟨f5, x5, x5f⟩, ⟨f6, x6, x6f⟩, ⟨f7, x7⟩, ⟨x8, x9, nd, x10, hnd⟩, ⟨x11, x12, rk, x13⟩, xc, xg, hDB⟩ := id hX
  obtain ⟨iok, ⟨itm, itm3a, itm3b⟩, icl, igv, ipa, ipb, ipab⟩ := id hI
  have ins := iok.1
  have inh := iok.2.1
  refine lv_aload_n hx hb dX7_overlaps_0 rfl (lv_at hl 0 rfl) ?_
  refine wg_get F hP x0 rfl iw_X7 2 (by decide) tb_165 rfl rfl dX7_overlaps_1 ?_
  refine lv_iload_n hx hb dX7_overlaps_4 rfl (lv_at hl 1 rfl) ?_
  refine wg_cq hS (wg_rVN (As := [.int h]) (rest := []) F hP hS (c_X3_at l E A C 2 3 60 (lc_nh (st_B S)) f3 h inh (by decide) x2 x3) ok_X3_at nb_291 rfl rfl ⟨Nat.le_of_ble_eq_true rfl, Nat.le_of_ble_eq_true rfl⟩ x2 rfl rfl rfl hl.1 rfl (Nat.le_of_ble_eq_true rfl) dX7_overlaps_5 ⟨Nat.le_of_ble_eq_true rfl, Nat.le_of_ble_eq_true rfl⟩) (fun r_5 A1 C_5 H locs w_5 hP hS => ?_)
  obtain ⟨w_5, rfl, rfl⟩ := w_5
  rcases hx_j : lc_ix h (lc_nh (st_B S)) with _ | j
  · refine wg_none (by rw [w_5, lc_at_ix (by omega) x3f, hx_j]; rfl) ?_
    refine lv_astore_nN (lv' := [(3, .null), (0, .ref (A 0)), (1, .int h), (2, .int w)]) hx hb dX7_overlaps_8 rfl hl (by decide) rfl (fun ls hl => ?_)
    refine lv_aload_n hx hb dX7_overlaps_9 rfl (lv_at hl 1 rfl) ?_
    refine lv_iload_n hx hb dX7_overlaps_10 rfl (lv_at hl 3 rfl) ?_
    refine wg_cq hS (wg_rV (As := [.int w]) (rest := []) F hP hS (c_X7_setAt l E A C (lc_ns (st_B S)) f1 w ins x0 x1) ok_X7_setAt tb_227 rfl rfl ⟨Nat.le_of_ble_eq_true rfl, Nat.le_of_ble_eq_true rfl⟩ x0 rfl rfl rfl hl.1 rfl (Nat.le_of_ble_eq_true rfl) dX7_overlaps_11 ⟨Nat.le_of_ble_eq_true rfl, Nat.le_of_ble_eq_true rfl⟩) (fun r_11 A1 C_11 H locs w_11 hP hS => ?_)
    obtain ⟨w_11, rfl, rfl⟩ := w_11
    rcases hx_k : lc_ix w (lc_ns (st_B S)) with _ | k
    · refine wg_none (by rw [w_11, lc_at_ix (by omega) x1f, hx_k]; rfl) ?_
      refine lv_astoreN (lv' := [(4, .null), (3, .null), (0, .ref (A 0)), (1, .int h), (2, .int w)]) hx hb dX7_overlaps_14 hl (by decide) rfl (fun ls hl => ?_)
      refine lv_aload_nN hx hb dX7_overlaps_16 rfl (lv_at hl 1 rfl) ?_
      refine lv_ifnullN (tgt := 25) hx hb dX7_overlaps_17 (by decide) ?_
      refine lv_iconst (v := (-1)) hx hb dX7_overlaps_25 (by decide) ?_
      exact wg_iret F hP hS hr hlk (⟨by unfold op_overlaps; first | (rw [hx_j, hx_k]; done) | (rw [hx_j, hx_k]; rfl), rfl, rfl⟩) dX7_overlaps_26
    · refine wg_some (x := A (100 + k)) (by rw [w_11, lc_at_ix (by omega) x1f, hx_k]; rfl) ?_
      obtain ⟨hk, ek, tk⟩ := lc_ix_some hx_k
      have xs_k : C (100 + k) = some (.inr (6, [.int (nI k), .long (lN (lc_sa (st_B S) k)), .long (lN (lc_sb (st_B S) k)), .int (nI (lc_tot (lc_sa (st_B S) k) (lc_sb (st_B S) k)))])) := hDB.1 _ hk
      refine lv_astore (lv' := [(4, .ref (A (100 + k))), (3, .null), (0, .ref (A 0)), (1, .int h), (2, .int w)]) hx hb dX7_overlaps_14 hl (by decide) rfl (fun ls hl => ?_)
      refine lv_aload_nN hx hb dX7_overlaps_16 rfl (lv_at hl 1 rfl) ?_
      refine lv_ifnullN (tgt := 25) hx hb dX7_overlaps_17 (by decide) ?_
      refine lv_iconst (v := (-1)) hx hb dX7_overlaps_25 (by decide) ?_
      exact wg_iret F hP hS hr hlk (⟨by unfold op_overlaps; first | (rw [hx_j, hx_k]; done) | (rw [hx_j, hx_k]; rfl), rfl, rfl⟩) dX7_overlaps_26
  · refine wg_some (x := A (200 + j)) (by rw [w_5, lc_at_ix (by omega) x3f, hx_j]; rfl) ?_
    obtain ⟨hj, ej, tj⟩ := lc_ix_some hx_j
    have xh_j : C (200 + j) = some (.inr (2, [.int (nI j), .int (nI (lc_hh (st_B S) j)), .long (lc_hp (st_B S) j), .ref (A (100 + lc_ho (st_B S) j)), .ref (A (100 + lc_hx (st_B S) j)), .long (lc_hr (st_B S) j), .long (lc_dig (st_B S) j), .int (nI (lc_sg (st_B S) j))])) := hDB.2.1 _ hj
    obtain ⟨hk1_j, hk2_j, hk3_j, hk4_j⟩ := iok.2.2.2 _ hj
    have xho_j : C (100 + lc_ho (st_B S) j) = some (.inr (6, [.int (nI ((lc_ho (st_B S) j))), .long (lN (lc_sa (st_B S) ((lc_ho (st_B S) j)))), .long (lN (lc_sb (st_B S) ((lc_ho (st_B S) j)))), .int (nI (lc_tot (lc_sa (st_B S) ((lc_ho (st_B S) j))) (lc_sb (st_B S) ((lc_ho (st_B S) j)))))])) := hDB.1 _ hk2_j
    have xhx_j : C (100 + lc_hx (st_B S) j) = some (.inr (6, [.int (nI ((lc_hx (st_B S) j))), .long (lN (lc_sa (st_B S) ((lc_hx (st_B S) j)))), .long (lN (lc_sb (st_B S) ((lc_hx (st_B S) j)))), .int (nI (lc_tot (lc_sa (st_B S) ((lc_hx (st_B S) j))) (lc_sb (st_B S) ((lc_hx (st_B S) j)))))])) := hDB.1 _ hk3_j
    refine lv_astore_n (lv' := [(3, .ref (A (200 + j))), (0, .ref (A 0)), (1, .int h), (2, .int w)]) hx hb dX7_overlaps_8 rfl hl (by decide) rfl (fun ls hl => ?_)
    refine lv_aload_n hx hb dX7_overlaps_9 rfl (lv_at hl 1 rfl) ?_
    refine lv_iload_n hx hb dX7_overlaps_10 rfl (lv_at hl 3 rfl) ?_
    refine wg_cq hS (wg_rV (As := [.int w]) (rest := []) F hP hS (c_X7_setAt l E A C (lc_ns (st_B S)) f1 w ins x0 x1) ok_X7_setAt tb_227 rfl rfl ⟨Nat.le_of_ble_eq_true rfl, Nat.le_of_ble_eq_true rfl⟩ x0 rfl rfl rfl hl.1 rfl (Nat.le_of_ble_eq_true rfl) dX7_overlaps_11 ⟨Nat.le_of_ble_eq_true rfl, Nat.le_of_ble_eq_true rfl⟩) (fun r_11 A1 C_11 H locs w_11 hP hS => ?_)
    obtain ⟨w_11, rfl, rfl⟩ := w_11
    rcases hx_k : lc_ix w (lc_ns (st_B S)) with _ | k
    · refine wg_none (by rw [w_11, lc_at_ix (by omega) x1f, hx_k]; rfl) ?_
      refine lv_astoreN (lv' := [(4, .null), (3, .ref (A (200 + j))), (0, .ref (A 0)), (1, .int h), (2, .int w)]) hx hb dX7_overlaps_14 hl (by decide) rfl (fun ls hl => ?_)
      refine lv_aload_n hx hb dX7_overlaps_16 rfl (lv_at hl 1 rfl) ?_
      refine lv_ifnull hx hb dX7_overlaps_17 ?_
      refine lv_aloadN hx hb dX7_overlaps_20 (lv_at hl 0 rfl) ?_
      refine lv_ifnonnullN hx hb dX7_overlaps_22 ?_
      refine lv_iconst (v := (-1)) hx hb dX7_overlaps_25 (by decide) ?_
      exact wg_iret F hP hS hr hlk (⟨by unfold op_overlaps; first | (rw [hx_j, hx_k]; done) | (rw [hx_j, hx_k]; rfl), rfl, rfl⟩) dX7_overlaps_26
    · refine wg_some (x := A (100 + k)) (by rw [w_11, lc_at_ix (by omega) x1f, hx_k]; rfl) ?_
      obtain ⟨hk, ek, tk⟩ := lc_ix_some hx_k
      have xs_k : C (100 + k) = some (.inr (6, [.int (nI k), .long (lN (lc_sa (st_B S) k)), .long (lN (lc_sb (st_B S) k)), .int (nI (lc_tot (lc_sa (st_B S) k) (lc_sb (st_B S) k)))])) := hDB.1 _ hk
      refine lv_astore (lv' := [(4, .ref (A (100 + k))), (3, .ref (A (200 + j))), (0, .ref (A 0)), (1, .int h), (2, .int w)]) hx hb dX7_overlaps_14 hl (by decide) rfl (fun ls hl => ?_)
      refine lv_aload_n hx hb dX7_overlaps_16 rfl (lv_at hl 1 rfl) ?_
      refine lv_ifnull hx hb dX7_overlaps_17 ?_
      refine lv_aload hx hb dX7_overlaps_20 (lv_at hl 0 rfl) ?_
      refine lv_ifnonnull (tgt := 27) hx hb dX7_overlaps_22 (by decide) ?_
      refine lv_aload_n hx hb dX7_overlaps_27 rfl (lv_at hl 2 rfl) ?_
      refine lv_aload_n hx hb dX7_overlaps_28 rfl (lv_at hl 1 rfl) ?_
      refine lv_aload hx hb dX7_overlaps_29 (lv_at hl 0 rfl) ?_
      refine wg_ci hS (wg_rV (As := [.ref (A (200 + j)), .ref (A (100 + k))]) (rest := []) F hP hS (c_X7_doesOverlap l E A C (lc_ns (st_B S)) (st_tm S) (100 + k) (200 + j) (100 + lc_ho (st_B S) j) (100 + lc_hx (st_B S) j) _ _ _ _ _ _ _ _ _ (iok.2.2.1 _ hk).1.lt (iok.2.2.1 _ hk).2.lt hk4_j (itm 0 (by decide)) (itm 1 (by decide)) x0 x4 xh_j xs_k) ok_X7_doesOverlap tb_322 rfl rfl ⟨Nat.le_of_ble_eq_true rfl, Nat.le_of_ble_eq_true rfl⟩ x0 rfl rfl rfl hl.1 rfl (Nat.le_of_ble_eq_true rfl) dX7_overlaps_31 ⟨Nat.le_of_ble_eq_true rfl, Nat.le_of_ble_eq_true rfl⟩) (fun r_31 A1 C_31 H locs w_31 hP hS => ?_)
      obtain ⟨w_31, rfl, rfl⟩ := w_31
      refine lv_if_eq (tgt := 41) hx hb dX7_overlaps_34 (by decide) (fun c_34 => ?_) (fun c_34 => ?_)
      · have hc : ¬ lc_over (st_B S) (st_tm S) j k := lc_if1 w_31 c_34
        refine lv_iconst (v := 0) hx hb dX7_overlaps_41 (by decide) ?_
        exact wg_iret F hP hS hr hlk (⟨by unfold op_overlaps; rw [hx_j, hx_k]; exact (if_neg hc).symm, rfl, rfl⟩) dX7_overlaps_42
      · have hc : lc_over (st_B S) (st_tm S) j k := lc_if2 w_31 c_34
        refine lv_iconst (v := 1) hx hb dX7_overlaps_37 (by decide) ?_
        refine lv_goto (tgt := 42) hx hb dX7_overlaps_38 (by decide) ?_
        exact wg_iret F hP hS hr hlk (⟨by unfold op_overlaps; rw [hx_j, hx_k]; exact (if_pos hc).symm, rfl, rfl⟩) dX7_overlaps_42
set_option maxHeartbeats 4000000 in
set_option maxRecDepth 100000 in
theorem c_X7_stored (l : Launch) (E : wg_E) (A : Nat → Nat) (C : wg_C) (S : lc_S) (c0 k : Int32) (hX : lx E A C S) (hI : lc_inv S)  : Met l yX7_stored (wg_ws yX7_stored cX7_stored 5 (some .int)) (wg_rm 2 0 0) (wg_Pc E A C [.ref (A 0), .int c0, .int k]) (wg_Qi E (fun r A1 C1 => r = op_stored S c0 k ∧ A = A1 ∧ C = C1)) 0 0 (wg_A E) := by
  refine wg_met (by decide) (Nat.le_of_ble_eq_true rfl) ?_
  intro p e s m below meth c ls F hr hlk hnm hP hS hl
  have F : wg_F p m c cX7_stored 5 s ([.ref (A 0), .int c0, .int k] : List Value).toArray "LightChecks" E := F
  have hx := F.1
  have hb := F.2.1
  have hml := F.2.2.1
  have hown := F.2.2.2.1
  have hts := F.2.2.2.2.1
  have hl : lv_has ls 5 [(0, .ref (A 0)), (1, .int c0), (2, .int k)] := hl
  obtain ⟨x0, ⟨f1, x1, x1f⟩, x2, ⟨f3, x3, x3f⟩, x4, ⟨f5, x5, x5f⟩, ⟨f6, x6, x6f⟩, ⟨f7, x7⟩, ⟨x8, x9, nd, x10, hnd⟩, ⟨x11, x12, rk, x13⟩, xc, xg, hDB⟩ := id hX
  obtain ⟨iok, ⟨itm, itm3a, itm3b⟩, icl, igv, ipa, ipb, ipab⟩ := id hI
  have ins := iok.1
  have inh := iok.2.1
  refine lv_aload_n hx hb dX7_stored_0 rfl (lv_at hl 0 rfl) ?_
  refine lv_iload_n hx hb dX7_stored_1 rfl (lv_at hl 1 rfl) ?_
  refine wg_cq hS (wg_rV (As := [.int c0]) (rest := []) F hP hS (c_X7_clientAt l E A C (lc_ns (st_B S)) f5 c0 x0 x5) ok_X7_clientAt tb_330 rfl rfl ⟨Nat.le_of_ble_eq_true rfl, Nat.le_of_ble_eq_true rfl⟩ x0 rfl rfl rfl hl.1 rfl (Nat.le_of_ble_eq_true rfl) dX7_stored_2 ⟨Nat.le_of_ble_eq_true rfl, Nat.le_of_ble_eq_true rfl⟩) (fun r_2 A1 C_2 H locs w_2 hP hS => ?_)
  obtain ⟨w_2, rfl, rfl⟩ := w_2
  rcases hx_i : lc_ix c0 4 with _ | i
  · refine wg_none (by rw [w_2, lc_at_ix (by omega) x5f, hx_i]; rfl) ?_
    refine lv_astore_nN (lv' := [(3, .null), (0, .ref (A 0)), (1, .int c0), (2, .int k)]) hx hb dX7_stored_5 rfl hl (by decide) rfl (fun ls hl => ?_)
    refine lv_aload_nN hx hb dX7_stored_6 rfl (lv_at hl 0 rfl) ?_
    refine lv_ifnullN (tgt := 15) hx hb dX7_stored_7 (by decide) ?_
    refine lv_iconst (v := (-1)) hx hb dX7_stored_15 (by decide) ?_
    exact wg_iret F hP hS hr hlk (⟨by unfold op_stored; rw [hx_i], rfl, rfl⟩) dX7_stored_16
  · refine wg_some (x := A (20 + i)) (by rw [w_2, lc_at_ix (by omega) x5f, hx_i]; rfl) ?_
    obtain ⟨hi, ei, ti⟩ := lc_ix_some hx_i
    obtain ⟨fc_i, xc1_i, xc2_i, xc3_i, xcf_i⟩ := xc i hi
    obtain ⟨icn_i, icg_i⟩ := icl i hi
    refine lv_astore_n (lv' := [(3, .ref (A (20 + i))), (0, .ref (A 0)), (1, .int c0), (2, .int k)]) hx hb dX7_stored_5 rfl hl (by decide) rfl (fun ls hl => ?_)
    refine lv_aload_n hx hb dX7_stored_6 rfl (lv_at hl 0 rfl) ?_
    refine lv_ifnull hx hb dX7_stored_7 ?_
    refine lv_iload_n hx hb dX7_stored_10 rfl (lv_at hl 3 rfl) ?_
    refine lv_iconst (v := (-1)) hx hb dX7_stored_11 (by decide) ?_
    refine lv_icmp_ge (tgt := 17) hx hb dX7_stored_12 (by decide) (fun c_12 => ?_) (fun c_12 => ?_)
    · simp only [Int32.lt_iff_toInt_lt, Int32.le_iff_toInt_le, ← Int32.toInt_inj, lc_t0i, lc_t1i, lc_t2i, lc_tm1i, lc_t6i] at c_12
      refine lv_iload_n hx hb dX7_stored_17 rfl (lv_at hl 3 rfl) ?_
      refine lv_iconst (v := (-1)) hx hb dX7_stored_18 (by decide) ?_
      refine lv_icmp_ne (tgt := 30) hx hb dX7_stored_19 (by decide) (fun c_19 => ?_) (fun c_19 => ?_)
      · simp only [Int32.lt_iff_toInt_lt, Int32.le_iff_toInt_le, ← Int32.toInt_inj, lc_t0i, lc_t1i, lc_t2i, lc_tm1i, lc_t6i] at c_19
        refine lv_aload_n hx hb dX7_stored_30 rfl (lv_at hl 0 rfl) ?_
        refine wg_getN F hP xc1_i rfl iw_X0 0 (by decide) nb_113 rfl rfl dX7_stored_31 ?_
        refine lv_iload_n hx hb dX7_stored_34 rfl (lv_at hl 3 rfl) ?_
        refine wg_cq hS (wg_rVN (As := [.int k]) (rest := []) F hP hS (c_X3_at l E A C (24 + i) (28 + i) 11 (st_cn S i) fc_i k (by omega) (by decide) xc2_i xc3_i) ok_X3_at nb_291 rfl rfl ⟨Nat.le_of_ble_eq_true rfl, Nat.le_of_ble_eq_true rfl⟩ xc2_i rfl rfl rfl hl.1 rfl (Nat.le_of_ble_eq_true rfl) dX7_stored_35 ⟨Nat.le_of_ble_eq_true rfl, Nat.le_of_ble_eq_true rfl⟩) (fun r_35 A1 C_35 H locs w_35 hP hS => ?_)
        obtain ⟨w_35, rfl, rfl⟩ := w_35
        rcases hx_j : lc_ix k (st_cn S i) with _ | j
        · refine wg_none (by rw [w_35, lc_at_ix2 (by omega) xcf_i, hx_j]; rfl) ?_
          refine lv_astoreN (lv' := [(4, .null), (3, .ref (A (20 + i))), (0, .ref (A 0)), (1, .int c0), (2, .int k)]) hx hb dX7_stored_38 hl (by decide) rfl (fun ls hl => ?_)
          refine lv_aloadN hx hb dX7_stored_40 (lv_at hl 0 rfl) ?_
          refine lv_ifnonnullN hx hb dX7_stored_42 ?_
          refine lv_bipush (v := (-2)) hx hb dX7_stored_45 (by decide) ?_
          refine lv_goto (tgt := 55) hx hb dX7_stored_47 (by decide) ?_
          exact wg_iret F hP hS hr hlk (⟨by unfold op_stored; rw [hx_i]; simp only []; rw [if_neg (by omega), if_neg (by omega), hx_j], rfl, rfl⟩) dX7_stored_55
        · refine wg_some (x := A (200 + st_cg S i j)) (by rw [w_35, lc_at_ix2 (by omega) xcf_i, hx_j]; rfl) ?_
          obtain ⟨hj, ej, tj⟩ := lc_ix_some hx_j
          have xh_g : C (200 + st_cg S i j) = some (.inr (2, [.int (nI (st_cg S i j)), .int (nI (lc_hh (st_B S) (st_cg S i j))), .long (lc_hp (st_B S) (st_cg S i j)), .ref (A (100 + lc_ho (st_B S) (st_cg S i j))), .ref (A (100 + lc_hx (st_B S) (st_cg S i j))), .long (lc_hr (st_B S) (st_cg S i j)), .long (lc_dig (st_B S) (st_cg S i j)), .int (nI (lc_sg (st_B S) (st_cg S i j)))])) := hDB.2.1 _ (icg_i j hj)
          obtain ⟨hk1_g, hk2_g, hk3_g, hk4_g⟩ := iok.2.2.2 _ (icg_i j hj)
          have xho_g : C (100 + lc_ho (st_B S) (st_cg S i j)) = some (.inr (6, [.int (nI ((lc_ho (st_B S) (st_cg S i j)))), .long (lN (lc_sa (st_B S) ((lc_ho (st_B S) (st_cg S i j))))), .long (lN (lc_sb (st_B S) ((lc_ho (st_B S) (st_cg S i j))))), .int (nI (lc_tot (lc_sa (st_B S) ((lc_ho (st_B S) (st_cg S i j)))) (lc_sb (st_B S) ((lc_ho (st_B S) (st_cg S i j))))))])) := hDB.1 _ hk2_g
          have xhx_g : C (100 + lc_hx (st_B S) (st_cg S i j)) = some (.inr (6, [.int (nI ((lc_hx (st_B S) (st_cg S i j)))), .long (lN (lc_sa (st_B S) ((lc_hx (st_B S) (st_cg S i j))))), .long (lN (lc_sb (st_B S) ((lc_hx (st_B S) (st_cg S i j))))), .int (nI (lc_tot (lc_sa (st_B S) ((lc_hx (st_B S) (st_cg S i j)))) (lc_sb (st_B S) ((lc_hx (st_B S) (st_cg S i j))))))])) := hDB.1 _ hk3_g
          refine lv_astore (lv' := [(4, .ref (A (200 + st_cg S i j))), (3, .ref (A (20 + i))), (0, .ref (A 0)), (1, .int c0), (2, .int k)]) hx hb dX7_stored_38 hl (by decide) rfl (fun ls hl => ?_)
          refine lv_aload hx hb dX7_stored_40 (lv_at hl 0 rfl) ?_
          refine lv_ifnonnull (tgt := 50) hx hb dX7_stored_42 (by decide) ?_
          refine lv_aload hx hb dX7_stored_50 (lv_at hl 0 rfl) ?_
          refine wg_getN F hP xh_g rfl iw_X2 0 (by decide) nb_247 rfl rfl dX7_stored_52 ?_
          exact wg_iret F hP hS hr hlk (⟨by unfold op_stored; rw [hx_i]; simp only []; rw [if_neg (by omega), if_neg (by omega), hx_j], rfl, rfl⟩) dX7_stored_55
      · simp only [Int32.lt_iff_toInt_lt, Int32.le_iff_toInt_le, ← Int32.toInt_inj, lc_t0i, lc_t1i, lc_t2i, lc_tm1i, lc_t6i] at c_19
        refine lv_aload_n hx hb dX7_stored_22 rfl (lv_at hl 0 rfl) ?_
        refine wg_getN F hP xc1_i rfl iw_X0 0 (by decide) nb_113 rfl rfl dX7_stored_23 ?_
        refine wg_getN F hP xc2_i rfl iw_X3 1 (by decide) nb_36 rfl rfl dX7_stored_26 ?_
        exact wg_iret F hP hS hr hlk (⟨by unfold op_stored; rw [hx_i]; simp only []; rw [if_neg (by omega), if_pos (by omega)], rfl, rfl⟩) dX7_stored_29
    · simp only [Int32.lt_iff_toInt_lt, Int32.le_iff_toInt_le, ← Int32.toInt_inj, lc_t0i, lc_t1i, lc_t2i, lc_tm1i, lc_t6i] at c_12
      refine lv_iconst (v := (-1)) hx hb dX7_stored_15 (by decide) ?_
      exact wg_iret F hP hS hr hlk (⟨by unfold op_stored; rw [hx_i]; exact (if_pos (by omega)).symm, rfl, rfl⟩) dX7_stored_16
set_option maxHeartbeats 4000000 in
set_option maxRecDepth 100000 in
theorem c_X7_client (l : Launch) (E : wg_E) (A : Nat → Nat) (C : wg_C) (S : lc_S) (c0 w : Int32) (hX : lx E A C S) (hI : lc_inv S)  : Met l yX7_client (wg_ws yX7_client cX7_client 4 (some .int)) (wg_rm 2 0 0) (wg_Pc E A C [.ref (A 0), .int c0, .int w]) (wg_Qi E (fun r A1 C1 => r = op_client S c0 w ∧ A = A1 ∧ C = C1)) 0 0 (wg_A E) := by
  refine wg_met (by decide) (Nat.le_of_ble_eq_true rfl) ?_
  intro p e s m below meth c ls F hr hlk hnm hP hS hl
  have F : wg_F p m c cX7_client 4 s ([.ref (A 0), .int c0, .int w] : List Value).toArray "LightChecks" E := F
  have hx := F.1
  have hb := F.2.1
  have hml := F.2.2.1
  have hown := F.2.2.2.1
  have hts := F.2.2.2.2.1
  have hl : lv_has ls 4 [(0, .ref (A 0)), (1, .int c0), (2, .int w)] := hl
  obtain ⟨x0, ⟨f1, x1, x1f⟩, x2, ⟨f3, x3, x3f⟩, x4, ⟨f5, x5, x5f⟩, ⟨f6, x6, x6f⟩, ⟨f7, x7⟩, ⟨x8, x9, nd, x10, hnd⟩, ⟨x11, x12, rk, x13⟩, xc, xg, hDB⟩ := id hX
  obtain ⟨iok, ⟨itm, itm3a, itm3b⟩, icl, igv, ipa, ipb, ipab⟩ := id hI
  have ins := iok.1
  have inh := iok.2.1
  refine lv_aload_n hx hb dX7_client_0 rfl (lv_at hl 0 rfl) ?_
  refine lv_iload_n hx hb dX7_client_1 rfl (lv_at hl 1 rfl) ?_
  refine wg_cq hS (wg_rV (As := [.int c0]) (rest := []) F hP hS (c_X7_clientAt l E A C (lc_ns (st_B S)) f5 c0 x0 x5) ok_X7_clientAt tb_330 rfl rfl ⟨Nat.le_of_ble_eq_true rfl, Nat.le_of_ble_eq_true rfl⟩ x0 rfl rfl rfl hl.1 rfl (Nat.le_of_ble_eq_true rfl) dX7_client_2 ⟨Nat.le_of_ble_eq_true rfl, Nat.le_of_ble_eq_true rfl⟩) (fun r_2 A1 C_2 H locs w_2 hP hS => ?_)
  obtain ⟨w_2, rfl, rfl⟩ := w_2
  rcases hx_i : lc_ix c0 4 with _ | i
  · refine wg_none (by rw [w_2, lc_at_ix (by omega) x5f, hx_i]; rfl) ?_
    refine lv_astore_nN (lv' := [(3, .null), (0, .ref (A 0)), (1, .int c0), (2, .int w)]) hx hb dX7_client_5 rfl hl (by decide) rfl (fun ls hl => ?_)
    refine lv_aload_nN hx hb dX7_client_6 rfl (lv_at hl 0 rfl) ?_
    refine lv_ifnullN (tgt := 19) hx hb dX7_client_7 (by decide) ?_
    refine lv_iconst (v := (-1)) hx hb dX7_client_19 (by decide) ?_
    exact wg_iret F hP hS hr hlk (⟨by unfold op_client; rw [hx_i], rfl, rfl⟩) dX7_client_20
  · refine wg_some (x := A (20 + i)) (by rw [w_2, lc_at_ix (by omega) x5f, hx_i]; rfl) ?_
    obtain ⟨hi, ei, ti⟩ := lc_ix_some hx_i
    obtain ⟨fc_i, xc1_i, xc2_i, xc3_i, xcf_i⟩ := xc i hi
    obtain ⟨icn_i, icg_i⟩ := icl i hi
    refine lv_astore_n (lv' := [(3, .ref (A (20 + i))), (0, .ref (A 0)), (1, .int c0), (2, .int w)]) hx hb dX7_client_5 rfl hl (by decide) rfl (fun ls hl => ?_)
    refine lv_aload_n hx hb dX7_client_6 rfl (lv_at hl 0 rfl) ?_
    refine lv_ifnull hx hb dX7_client_7 ?_
    refine lv_iload_n hx hb dX7_client_10 rfl (lv_at hl 3 rfl) ?_
    refine lv_if_lt (tgt := 19) hx hb dX7_client_11 (by decide) (fun c_11 => ?_) (fun c_11 => ?_)
    · simp only [Int32.lt_iff_toInt_lt, Int32.le_iff_toInt_le, ← Int32.toInt_inj, lc_t0i, lc_t1i, lc_t2i, lc_tm1i, lc_t6i] at c_11
      refine lv_iconst (v := (-1)) hx hb dX7_client_19 (by decide) ?_
      exact wg_iret F hP hS hr hlk (⟨by unfold op_client; rw [hx_i]; simp only [← Int32.toInt_inj, lc_t0i, lc_t1i, lc_t2i]; rw [if_neg (by omega), if_neg (by omega), if_neg (by omega)], rfl, rfl⟩) dX7_client_20
    · simp only [Int32.lt_iff_toInt_lt, Int32.le_iff_toInt_le, ← Int32.toInt_inj, lc_t0i, lc_t1i, lc_t2i, lc_tm1i, lc_t6i] at c_11
      refine lv_iload_n hx hb dX7_client_14 rfl (lv_at hl 3 rfl) ?_
      refine lv_iconst (v := 2) hx hb dX7_client_15 (by decide) ?_
      refine lv_icmp_le (tgt := 21) hx hb dX7_client_16 (by decide) (fun c_16 => ?_) (fun c_16 => ?_)
      · simp only [Int32.lt_iff_toInt_lt, Int32.le_iff_toInt_le, ← Int32.toInt_inj, lc_t0i, lc_t1i, lc_t2i, lc_tm1i, lc_t6i] at c_16
        refine lv_iload_n hx hb dX7_client_21 rfl (lv_at hl 3 rfl) ?_
        refine lv_if_ne (tgt := 30) hx hb dX7_client_22 (by decide) (fun c_22 => ?_) (fun c_22 => ?_)
        · simp only [Int32.lt_iff_toInt_lt, Int32.le_iff_toInt_le, ← Int32.toInt_inj, lc_t0i, lc_t1i, lc_t2i, lc_tm1i, lc_t6i] at c_22
          refine lv_iload_n hx hb dX7_client_30 rfl (lv_at hl 3 rfl) ?_
          refine lv_iconst (v := 1) hx hb dX7_client_31 (by decide) ?_
          refine lv_icmp_ne (tgt := 42) hx hb dX7_client_32 (by decide) (fun c_32 => ?_) (fun c_32 => ?_)
          · simp only [Int32.lt_iff_toInt_lt, Int32.le_iff_toInt_le, ← Int32.toInt_inj, lc_t0i, lc_t1i, lc_t2i, lc_tm1i, lc_t6i] at c_32
            refine lv_aload_n hx hb dX7_client_42 rfl (lv_at hl 0 rfl) ?_
            refine wg_getN F hP xc1_i rfl iw_X0 3 (by decide) nb_119 rfl rfl dX7_client_43 ?_
            exact wg_iret F hP hS hr hlk (⟨by unfold op_client; rw [hx_i]; simp only [← Int32.toInt_inj (x := w), lc_t0i, lc_t1i, lc_t2i]; rw [if_neg (by omega), if_neg (by omega), if_pos (by omega)], rfl, rfl⟩) dX7_client_46
          · simp only [Int32.lt_iff_toInt_lt, Int32.le_iff_toInt_le, ← Int32.toInt_inj, lc_t0i, lc_t1i, lc_t2i, lc_tm1i, lc_t6i] at c_32
            refine lv_aload_n hx hb dX7_client_35 rfl (lv_at hl 0 rfl) ?_
            refine wg_getN F hP xc1_i rfl iw_X0 2 (by decide) nb_117 rfl rfl dX7_client_36 ?_
            refine lv_goto (tgt := 46) hx hb dX7_client_39 (by decide) ?_
            exact wg_iret F hP hS hr hlk (⟨by unfold op_client; rw [hx_i]; simp only [← Int32.toInt_inj (x := w), lc_t0i, lc_t1i, lc_t2i]; rw [if_neg (by omega), if_pos (by omega)], rfl, rfl⟩) dX7_client_46
        · simp only [Int32.lt_iff_toInt_lt, Int32.le_iff_toInt_le, ← Int32.toInt_inj, lc_t0i, lc_t1i, lc_t2i, lc_tm1i, lc_t6i] at c_22
          refine lv_aload_n hx hb dX7_client_25 rfl (lv_at hl 0 rfl) ?_
          refine wg_getN F hP xc1_i rfl iw_X0 1 (by decide) nb_115 rfl rfl dX7_client_26 ?_
          exact wg_iret F hP hS hr hlk (⟨by unfold op_client; rw [hx_i]; simp only [← Int32.toInt_inj (x := w), lc_t0i]; rw [if_pos (by omega)], rfl, rfl⟩) dX7_client_29
      · simp only [Int32.lt_iff_toInt_lt, Int32.le_iff_toInt_le, ← Int32.toInt_inj, lc_t0i, lc_t1i, lc_t2i, lc_tm1i, lc_t6i] at c_16
        refine lv_iconst (v := (-1)) hx hb dX7_client_19 (by decide) ?_
        exact wg_iret F hP hS hr hlk (⟨by unfold op_client; rw [hx_i]; simp only [← Int32.toInt_inj, lc_t0i, lc_t1i, lc_t2i]; rw [if_neg (by omega), if_neg (by omega), if_neg (by omega)], rfl, rfl⟩) dX7_client_20
set_option maxHeartbeats 4000000 in
set_option maxRecDepth 100000 in
theorem c_X7_compare (l : Launch) (E : wg_E) (A : Nat → Nat) (C : wg_C) (S : lc_S) (a b : Int32) (hX : lx E A C S) (hI : lc_inv S)  : Met l yX7_compare (wg_ws yX7_compare cX7_compare 5 (some .int)) (wg_rm 5 0 0) (wg_Pc E A C [.ref (A 0), .int a, .int b]) (wg_Qi E (fun r A1 C1 => r = op_compare S a b ∧ A = A1 ∧ C = C1)) 0 0 (wg_A E) := by
  refine wg_met (by decide) (Nat.le_of_ble_eq_true rfl) ?_
  intro p e s m below meth c ls F hr hlk hnm hP hS hl
  have F : wg_F p m c cX7_compare 5 s ([.ref (A 0), .int a, .int b] : List Value).toArray "LightChecks" E := F
  have hx := F.1
  have hb := F.2.1
  have hml := F.2.2.1
  have hown := F.2.2.2.1
  have hts := F.2.2.2.2.1
  have hl : lv_has ls 5 [(0, .ref (A 0)), (1, .int a), (2, .int b)] := hl
  obtain ⟨x0, ⟨f1, x1, x1f⟩, x2, ⟨f3, x3, x3f⟩, x4, ⟨f5, x5, x5f⟩, ⟨f6, x6, x6f⟩, ⟨f7, x7⟩, ⟨x8, x9, nd, x10, hnd⟩, ⟨x11, x12, rk, x13⟩, xc, xg, hDB⟩ := id hX
  obtain ⟨iok, ⟨itm, itm3a, itm3b⟩, icl, igv, ipa, ipb, ipab⟩ := id hI
  have ins := iok.1
  have inh := iok.2.1
  refine lv_aload_n hx hb dX7_compare_0 rfl (lv_at hl 0 rfl) ?_
  refine lv_iload_n hx hb dX7_compare_1 rfl (lv_at hl 1 rfl) ?_
  refine wg_cq hS (wg_rV (As := [.int a]) (rest := []) F hP hS (c_X7_giverAt l E A C (lc_ns (st_B S)) f6 a x0 x6) ok_X7_giverAt tb_383 rfl rfl ⟨Nat.le_of_ble_eq_true rfl, Nat.le_of_ble_eq_true rfl⟩ x0 rfl rfl rfl hl.1 rfl (Nat.le_of_ble_eq_true rfl) dX7_compare_2 ⟨Nat.le_of_ble_eq_true rfl, Nat.le_of_ble_eq_true rfl⟩) (fun r_2 A1 C_2 H locs w_2 hP hS => ?_)
  obtain ⟨w_2, rfl, rfl⟩ := w_2
  rcases hx_i : lc_ix a 4 with _ | i
  · refine wg_none (by rw [w_2, lc_at_ix (by omega) x6f, hx_i]; rfl) ?_
    refine lv_astore_nN (lv' := [(3, .null), (0, .ref (A 0)), (1, .int a), (2, .int b)]) hx hb dX7_compare_5 rfl hl (by decide) rfl (fun ls hl => ?_)
    refine lv_aload_n hx hb dX7_compare_6 rfl (lv_at hl 1 rfl) ?_
    refine lv_iload_n hx hb dX7_compare_7 rfl (lv_at hl 3 rfl) ?_
    refine wg_cq hS (wg_rV (As := [.int b]) (rest := []) F hP hS (c_X7_giverAt l E A C (lc_ns (st_B S)) f6 b x0 x6) ok_X7_giverAt tb_383 rfl rfl ⟨Nat.le_of_ble_eq_true rfl, Nat.le_of_ble_eq_true rfl⟩ x0 rfl rfl rfl hl.1 rfl (Nat.le_of_ble_eq_true rfl) dX7_compare_8 ⟨Nat.le_of_ble_eq_true rfl, Nat.le_of_ble_eq_true rfl⟩) (fun r_8 A1 C_8 H locs w_8 hP hS => ?_)
    obtain ⟨w_8, rfl, rfl⟩ := w_8
    rcases hx_k : lc_ix b 4 with _ | k
    · refine wg_none (by rw [w_8, lc_at_ix (by omega) x6f, hx_k]; rfl) ?_
      refine lv_astoreN (lv' := [(4, .null), (3, .null), (0, .ref (A 0)), (1, .int a), (2, .int b)]) hx hb dX7_compare_11 hl (by decide) rfl (fun ls hl => ?_)
      refine lv_aload_nN hx hb dX7_compare_13 rfl (lv_at hl 1 rfl) ?_
      refine lv_ifnullN (tgt := 22) hx hb dX7_compare_14 (by decide) ?_
      refine lv_iconst (v := (-1)) hx hb dX7_compare_22 (by decide) ?_
      exact wg_iret F hP hS hr hlk (⟨by unfold op_compare; first | (rw [hx_i, hx_k]; done) | (rw [hx_i, hx_k]; rfl), rfl, rfl⟩) dX7_compare_23
    · refine wg_some (x := A (32 + k)) (by rw [w_8, lc_at_ix (by omega) x6f, hx_k]; rfl) ?_
      obtain ⟨hk, ek, tk⟩ := lc_ix_some hx_k
      obtain ⟨fg_k, xg1_k, xg2_k, xg3_k, xgf_k⟩ := xg k hk
      obtain ⟨ign_k, igg_k, igd_k⟩ := igv k hk
      refine lv_astore (lv' := [(4, .ref (A (32 + k))), (3, .null), (0, .ref (A 0)), (1, .int a), (2, .int b)]) hx hb dX7_compare_11 hl (by decide) rfl (fun ls hl => ?_)
      refine lv_aload_nN hx hb dX7_compare_13 rfl (lv_at hl 1 rfl) ?_
      refine lv_ifnullN (tgt := 22) hx hb dX7_compare_14 (by decide) ?_
      refine lv_iconst (v := (-1)) hx hb dX7_compare_22 (by decide) ?_
      exact wg_iret F hP hS hr hlk (⟨by unfold op_compare; first | (rw [hx_i, hx_k]; done) | (rw [hx_i, hx_k]; rfl), rfl, rfl⟩) dX7_compare_23
  · refine wg_some (x := A (32 + i)) (by rw [w_2, lc_at_ix (by omega) x6f, hx_i]; rfl) ?_
    obtain ⟨hi, ei, ti⟩ := lc_ix_some hx_i
    obtain ⟨fg_i, xg1_i, xg2_i, xg3_i, xgf_i⟩ := xg i hi
    obtain ⟨ign_i, igg_i, igd_i⟩ := igv i hi
    refine lv_astore_n (lv' := [(3, .ref (A (32 + i))), (0, .ref (A 0)), (1, .int a), (2, .int b)]) hx hb dX7_compare_5 rfl hl (by decide) rfl (fun ls hl => ?_)
    refine lv_aload_n hx hb dX7_compare_6 rfl (lv_at hl 1 rfl) ?_
    refine lv_iload_n hx hb dX7_compare_7 rfl (lv_at hl 3 rfl) ?_
    refine wg_cq hS (wg_rV (As := [.int b]) (rest := []) F hP hS (c_X7_giverAt l E A C (lc_ns (st_B S)) f6 b x0 x6) ok_X7_giverAt tb_383 rfl rfl ⟨Nat.le_of_ble_eq_true rfl, Nat.le_of_ble_eq_true rfl⟩ x0 rfl rfl rfl hl.1 rfl (Nat.le_of_ble_eq_true rfl) dX7_compare_8 ⟨Nat.le_of_ble_eq_true rfl, Nat.le_of_ble_eq_true rfl⟩) (fun r_8 A1 C_8 H locs w_8 hP hS => ?_)
    obtain ⟨w_8, rfl, rfl⟩ := w_8
    rcases hx_k : lc_ix b 4 with _ | k
    · refine wg_none (by rw [w_8, lc_at_ix (by omega) x6f, hx_k]; rfl) ?_
      refine lv_astoreN (lv' := [(4, .null), (3, .ref (A (32 + i))), (0, .ref (A 0)), (1, .int a), (2, .int b)]) hx hb dX7_compare_11 hl (by decide) rfl (fun ls hl => ?_)
      refine lv_aload_n hx hb dX7_compare_13 rfl (lv_at hl 1 rfl) ?_
      refine lv_ifnull hx hb dX7_compare_14 ?_
      refine lv_aloadN hx hb dX7_compare_17 (lv_at hl 0 rfl) ?_
      refine lv_ifnonnullN hx hb dX7_compare_19 ?_
      refine lv_iconst (v := (-1)) hx hb dX7_compare_22 (by decide) ?_
      exact wg_iret F hP hS hr hlk (⟨by unfold op_compare; first | (rw [hx_i, hx_k]; done) | (rw [hx_i, hx_k]; rfl), rfl, rfl⟩) dX7_compare_23
    · refine wg_some (x := A (32 + k)) (by rw [w_8, lc_at_ix (by omega) x6f, hx_k]; rfl) ?_
      obtain ⟨hk, ek, tk⟩ := lc_ix_some hx_k
      obtain ⟨fg_k, xg1_k, xg2_k, xg3_k, xgf_k⟩ := xg k hk
      obtain ⟨ign_k, igg_k, igd_k⟩ := igv k hk
      refine lv_astore (lv' := [(4, .ref (A (32 + k))), (3, .ref (A (32 + i))), (0, .ref (A 0)), (1, .int a), (2, .int b)]) hx hb dX7_compare_11 hl (by decide) rfl (fun ls hl => ?_)
      refine lv_aload_n hx hb dX7_compare_13 rfl (lv_at hl 1 rfl) ?_
      refine lv_ifnull hx hb dX7_compare_14 ?_
      refine lv_aload hx hb dX7_compare_17 (lv_at hl 0 rfl) ?_
      refine lv_ifnonnull (tgt := 24) hx hb dX7_compare_19 (by decide) ?_
      refine lv_aload_n hx hb dX7_compare_24 rfl (lv_at hl 1 rfl) ?_
      refine lv_aload hx hb dX7_compare_25 (lv_at hl 0 rfl) ?_
      refine wg_ci hS (wg_rVN (As := [.ref (A (32 + k))]) (rest := []) F hP hS (c_X1_leastUnlike l E A C i (st_gn S i) fg_i (st_gg S i) (st_B S) k (st_gn S k) fg_k (st_gg S k) ign_i xgf_i igg_i hDB ign_k xgf_k igg_k xg1_i xg2_i xg3_i xg1_k xg2_k xg3_k) ok_X1_leastUnlike nb_423 rfl rfl ⟨Nat.le_of_ble_eq_true rfl, Nat.le_of_ble_eq_true rfl⟩ xg1_i rfl rfl rfl hl.1 rfl (Nat.le_of_ble_eq_true rfl) dX7_compare_27 ⟨Nat.le_of_ble_eq_true rfl, Nat.le_of_ble_eq_true rfl⟩) (fun r_27 A1 C_27 H locs w_27 hP hS => ?_)
      obtain ⟨w_27, rfl, rfl⟩ := w_27
      exact wg_iret F hP hS hr hlk (⟨by unfold op_compare; rw [hx_i, hx_k]; exact w_27, rfl, rfl⟩) dX7_compare_30
set_option maxHeartbeats 4000000 in
set_option maxRecDepth 100000 in
theorem c_X7_tree (l : Launch) (E : wg_E) (A : Nat → Nat) (C : wg_C) (S : lc_S) (k : Int32) (hX : lx E A C S) (hI : lc_inv S)  : Met l yX7_tree (wg_ws yX7_tree cX7_tree 2 (some .long)) (wg_rm 1 0 0) (wg_Pc E A C [.ref (A 0), .int k]) (wg_Ql E (fun r A1 C1 => r = op_tree S k ∧ A = A1 ∧ C = C1)) 0 0 (wg_A E) := by
  refine wg_met (by decide) (Nat.le_of_ble_eq_true rfl) ?_
  intro p e s m below meth c ls F hr hlk hnm hP hS hl
  have F : wg_F p m c cX7_tree 2 s ([.ref (A 0), .int k] : List Value).toArray "LightChecks" E := F
  have hx := F.1
  have hb := F.2.1
  have hml := F.2.2.1
  have hown := F.2.2.2.1
  have hts := F.2.2.2.2.1
  have hl : lv_has ls 2 [(0, .ref (A 0)), (1, .int k)] := hl
  obtain ⟨x0, ⟨f1, x1, x1f⟩, x2, ⟨f3, x3, x3f⟩, x4, ⟨f5, x5, x5f⟩, ⟨f6, x6, x6f⟩, ⟨f7, x7⟩, ⟨x8, x9, nd, x10, hnd⟩, ⟨x11, x12, rk, x13⟩, xc, xg, hDB⟩ := id hX
  obtain ⟨iok, ⟨itm, itm3a, itm3b⟩, icl, igv, ipa, ipb, ipab⟩ := id hI
  have ins := iok.1
  have inh := iok.2.1
  refine lv_aload_n hx hb dX7_tree_0 rfl (lv_at hl 0 rfl) ?_
  refine wg_get F hP x0 rfl iw_X7 7 (by decide) tb_170 rfl rfl dX7_tree_1 ?_
  refine lv_iload_n hx hb dX7_tree_4 rfl (lv_at hl 1 rfl) ?_
  refine wg_cl_ hS (wg_rVN (As := [.int k]) (rest := []) F hP hS (c_X5_nodeAt l E A C (st_lf S) nd k hnd x8 x9 x10) ok_X5_nodeAt nb_451 rfl rfl ⟨Nat.le_of_ble_eq_true rfl, Nat.le_of_ble_eq_true rfl⟩ x8 rfl rfl rfl hl.1 rfl (Nat.le_of_ble_eq_true rfl) dX7_tree_5 ⟨Nat.le_of_ble_eq_true rfl, Nat.le_of_ble_eq_true rfl⟩) (fun r_5 A1 C_5 H locs w_5 hP hS => ?_)
  obtain ⟨w_5, rfl, rfl⟩ := w_5
  exact wg_lret F hP hS hr hlk (⟨lc_treeR w_5, rfl, rfl⟩) dX7_tree_8
set_option maxHeartbeats 4000000 in
set_option maxRecDepth 100000 in
theorem c_X7_proof (l : Launch) (E : wg_E) (A : Nat → Nat) (C : wg_C) (S : lc_S) (k : Int32) (hX : lx E A C S) (hI : lc_inv S)  : Met l yX7_proof (wg_ws yX7_proof cX7_proof 2 (some .long)) (wg_rm 2 0 0) (wg_Pc E A C [.ref (A 0), .int k]) (wg_Ql E (fun r A1 C1 => r = op_proof S k ∧ A = A1 ∧ C = C1)) 0 0 (wg_A E) := by
  refine wg_met (by decide) (Nat.le_of_ble_eq_true rfl) ?_
  intro p e s m below meth c ls F hr hlk hnm hP hS hl
  have F : wg_F p m c cX7_proof 2 s ([.ref (A 0), .int k] : List Value).toArray "LightChecks" E := F
  have hx := F.1
  have hb := F.2.1
  have hml := F.2.2.1
  have hown := F.2.2.2.1
  have hts := F.2.2.2.2.1
  have hl : lv_has ls 2 [(0, .ref (A 0)), (1, .int k)] := hl
  obtain ⟨x0, ⟨f1, x1, x1f⟩, x2, ⟨f3, x3, x3f⟩, x4, ⟨f5, x5, x5f⟩, ⟨f6, x6, x6f⟩, ⟨f7, x7⟩, ⟨x8, x9, nd, x10, hnd⟩, ⟨x11, x12, rk, x13⟩, xc, xg, hDB⟩ := id hX
  obtain ⟨iok, ⟨itm, itm3a, itm3b⟩, icl, igv, ipa, ipb, ipab⟩ := id hI
  have ins := iok.1
  have inh := iok.2.1
  refine lv_aload_n hx hb dX7_proof_0 rfl (lv_at hl 0 rfl) ?_
  refine wg_get F hP x0 rfl iw_X7 8 (by decide) tb_171 rfl rfl dX7_proof_1 ?_
  refine lv_iload_n hx hb dX7_proof_4 rfl (lv_at hl 1 rfl) ?_
  refine wg_cl_ hS (wg_rVN (As := [.int k]) (rest := []) F hP hS (c_X4_numberAt l E A C (st_pa S) (st_pb S) (st_ct S) (st_va S) (st_vb S) (st_pn S) k (lc_cnt_le _ ipa _ ipb ipab) x11 x12) ok_X4_numberAt nb_461 rfl rfl ⟨Nat.le_of_ble_eq_true rfl, Nat.le_of_ble_eq_true rfl⟩ x11 rfl rfl rfl hl.1 rfl (Nat.le_of_ble_eq_true rfl) dX7_proof_5 ⟨Nat.le_of_ble_eq_true rfl, Nat.le_of_ble_eq_true rfl⟩) (fun r_5 A1 C_5 H locs w_5 hP hS => ?_)
  obtain ⟨w_5, rfl, rfl⟩ := w_5
  exact wg_lret F hP hS hr hlk (⟨w_5, rfl, rfl⟩) dX7_proof_8
set_option maxHeartbeats 4000000 in
set_option maxRecDepth 100000 in
theorem c_X7_told (l : Launch) (E : wg_E) (A : Nat → Nat) (C : wg_C) (S : lc_S) (w : Int32) (hX : lx E A C S) (hI : lc_inv S)  : Met l yX7_told (wg_ws yX7_told cX7_told 2 (some .int)) (wg_rm 1 0 0) (wg_Pc E A C [.ref (A 0), .int w]) (wg_Qi E (fun r A1 C1 => r = op_told S w ∧ A = A1 ∧ C = C1)) 0 0 (wg_A E) := by
  refine wg_met (by decide) (Nat.le_of_ble_eq_true rfl) ?_
  intro p e s m below meth c ls F hr hlk hnm hP hS hl
  have F : wg_F p m c cX7_told 2 s ([.ref (A 0), .int w] : List Value).toArray "LightChecks" E := F
  have hx := F.1
  have hb := F.2.1
  have hml := F.2.2.1
  have hown := F.2.2.2.1
  have hts := F.2.2.2.2.1
  have hl : lv_has ls 2 [(0, .ref (A 0)), (1, .int w)] := hl
  obtain ⟨x0, ⟨f1, x1, x1f⟩, x2, ⟨f3, x3, x3f⟩, x4, ⟨f5, x5, x5f⟩, ⟨f6, x6, x6f⟩, ⟨f7, x7⟩, ⟨x8, x9, nd, x10, hnd⟩, ⟨x11, x12, rk, x13⟩, xc, xg, hDB⟩ := id hX
  obtain ⟨iok, ⟨itm, itm3a, itm3b⟩, icl, igv, ipa, ipb, ipab⟩ := id hI
  have ins := iok.1
  have inh := iok.2.1
  refine lv_iload_n hx hb dX7_told_0 rfl (lv_at hl 1 rfl) ?_
  refine lv_if_ne (tgt := 9) hx hb dX7_told_1 (by decide) (fun c_1 => ?_) (fun c_1 => ?_)
  · simp only [Int32.lt_iff_toInt_lt, Int32.le_iff_toInt_le, ← Int32.toInt_inj, lc_t0i, lc_t1i, lc_t2i, lc_tm1i, lc_t6i] at c_1
    refine lv_iload_n hx hb dX7_told_9 rfl (lv_at hl 1 rfl) ?_
    refine lv_iconst (v := 1) hx hb dX7_told_10 (by decide) ?_
    refine lv_icmp_ne (tgt := 22) hx hb dX7_told_11 (by decide) (fun c_11 => ?_) (fun c_11 => ?_)
    · simp only [Int32.lt_iff_toInt_lt, Int32.le_iff_toInt_le, ← Int32.toInt_inj, lc_t0i, lc_t1i, lc_t2i, lc_tm1i, lc_t6i] at c_11
      refine lv_iload_n hx hb dX7_told_22 rfl (lv_at hl 1 rfl) ?_
      refine lv_iconst (v := 2) hx hb dX7_told_23 (by decide) ?_
      refine lv_icmp_lt (tgt := 44) hx hb dX7_told_24 (by decide) (fun c_24 => ?_) (fun c_24 => ?_)
      · simp only [Int32.lt_iff_toInt_lt, Int32.le_iff_toInt_le, ← Int32.toInt_inj, lc_t0i, lc_t1i, lc_t2i, lc_tm1i, lc_t6i] at c_24
        refine lv_iconst (v := (-1)) hx hb dX7_told_44 (by decide) ?_
        exact wg_iret F hP hS hr hlk (⟨by unfold op_told; simp only [← Int32.toInt_inj (x := w), lc_t0i, lc_t1i]; rw [if_neg (by omega), if_neg (by omega), if_neg (by omega)], rfl, rfl⟩) dX7_told_45
      · simp only [Int32.lt_iff_toInt_lt, Int32.le_iff_toInt_le, ← Int32.toInt_inj, lc_t0i, lc_t1i, lc_t2i, lc_tm1i, lc_t6i] at c_24
        refine lv_iload_n hx hb dX7_told_27 rfl (lv_at hl 1 rfl) ?_
        refine lv_bipush (v := 6) hx hb dX7_told_28 (by decide) ?_
        refine lv_icmp_ge (tgt := 44) hx hb dX7_told_30 (by decide) (fun c_30 => ?_) (fun c_30 => ?_)
        · simp only [Int32.lt_iff_toInt_lt, Int32.le_iff_toInt_le, ← Int32.toInt_inj, lc_t0i, lc_t1i, lc_t2i, lc_tm1i, lc_t6i] at c_30
          refine lv_iconst (v := (-1)) hx hb dX7_told_44 (by decide) ?_
          exact wg_iret F hP hS hr hlk (⟨by unfold op_told; simp only [← Int32.toInt_inj (x := w), lc_t0i, lc_t1i]; rw [if_neg (by omega), if_neg (by omega), if_neg (by omega)], rfl, rfl⟩) dX7_told_45
        · simp only [Int32.lt_iff_toInt_lt, Int32.le_iff_toInt_le, ← Int32.toInt_inj, lc_t0i, lc_t1i, lc_t2i, lc_tm1i, lc_t6i] at c_30
          obtain ⟨w1, hw31, ew⟩ := nI_of (x := w) (by rw [Int32.lt_iff_toInt_lt, lc_t0i]; omega)
          have tw : w.toInt = (w1 : Int) := by rw [ew, nI_toInt hw31]
          have e2 : w - 2 = nI (w1 - 2) := by rw [ew, show (2 : Int32) = nI 2 from rfl, pk_sub (by omega)]
          refine lv_aload_n hx hb dX7_told_33 rfl (lv_at hl 0 rfl) ?_
          refine wg_get F hP x0 rfl iw_X7 3 (by decide) tb_166 rfl rfl dX7_told_34 ?_
          refine lv_iload_n hx hb dX7_told_37 rfl (lv_at hl 1 rfl) ?_
          refine lv_iconst (v := 2) hx hb dX7_told_38 (by decide) ?_
          refine lv_isub hx hb dX7_told_39 ?_
          refine wg_ild F hP x4 (by rw [e2]; exact vp_in_nI (by omega) (by decide)) dX7_told_40 ?_
          refine wg_topi (y := nI (st_tm S (w1 - 2))) (by rw [e2, nI_clamp (by omega)]) ?_
          refine lv_goto (tgt := 45) hx hb dX7_told_41 (by decide) ?_
          exact wg_iret F hP hS hr hlk (⟨by unfold op_told; simp only [← Int32.toInt_inj (x := w), lc_t0i, lc_t1i]; rw [if_neg (by omega), if_neg (by omega), if_pos (by omega), tw, Int.toNat_natCast], rfl, rfl⟩) dX7_told_45
    · simp only [Int32.lt_iff_toInt_lt, Int32.le_iff_toInt_le, ← Int32.toInt_inj, lc_t0i, lc_t1i, lc_t2i, lc_tm1i, lc_t6i] at c_11
      refine lv_aload_n hx hb dX7_told_14 rfl (lv_at hl 0 rfl) ?_
      refine wg_get F hP x0 rfl iw_X7 2 (by decide) tb_165 rfl rfl dX7_told_15 ?_
      refine wg_getN F hP x2 rfl iw_X3 1 (by decide) nb_36 rfl rfl dX7_told_18 ?_
      exact wg_iret F hP hS hr hlk (⟨by unfold op_told; simp only [← Int32.toInt_inj (x := w), lc_t0i, lc_t1i]; rw [if_neg (by omega), if_pos (by omega)], rfl, rfl⟩) dX7_told_21
  · simp only [Int32.lt_iff_toInt_lt, Int32.le_iff_toInt_le, ← Int32.toInt_inj, lc_t0i, lc_t1i, lc_t2i, lc_tm1i, lc_t6i] at c_1
    refine lv_aload_n hx hb dX7_told_4 rfl (lv_at hl 0 rfl) ?_
    refine wg_get F hP x0 rfl iw_X7 1 (by decide) tb_164 rfl rfl dX7_told_5 ?_
    exact wg_iret F hP hS hr hlk (⟨by unfold op_told; simp only [← Int32.toInt_inj (x := w), lc_t0i]; rw [if_pos (by omega)], rfl, rfl⟩) dX7_told_8
