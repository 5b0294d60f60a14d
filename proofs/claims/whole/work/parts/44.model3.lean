theorem lc_lu_has {B : lc_B} {g : Nat → Nat} {n2 : Nat} {g2 : Nat → Nat} : ∀ {i b : Nat}, lc_lu B g n2 g2 i = some b → ∃ m, m < i ∧ lc_hh B (g m) = b ∧ lc_unl B n2 g2 (g m) = true
  | 0, b, h => by cases h
  | i + 1, b, h => by
    have up : (∃ m, m < i ∧ lc_hh B (g m) = b ∧ lc_unl B n2 g2 (g m) = true) → ∃ m, m < i + 1 ∧ lc_hh B (g m) = b ∧ lc_unl B n2 g2 (g m) = true := fun ⟨m, h1, h2, h3⟩ => ⟨m, by omega, h2, h3⟩
    simp only [lc_lu] at h
    by_cases u : lc_unl B n2 g2 (g i) = true
    · rw [if_pos u] at h
      cases e : lc_lu B g n2 g2 i with
      | none => rw [e] at h; cases h; exact ⟨i, by omega, rfl, u⟩
      | some c =>
        rw [e] at h
        simp only [] at h
        by_cases q : lc_hh B (g i) < c
        · rw [if_pos q] at h; cases h; exact ⟨i, by omega, rfl, u⟩
        · rw [if_neg q] at h; cases h; exact up (lc_lu_has e)
    · rw [if_neg u] at h
      exact up (lc_lu_has h)
theorem op_hat_lt {S : lc_S} {i x h : Nat} (hI : lc_inv S) (hi : i < 4) (e : op_hat S i x = some h) : h < lc_nh (st_B S) := by
  unfold op_hat at e
  cases q : lc_pl (fun k => lc_hh (st_B S) (st_gg S i k)) x (st_gn S i) with
  | none => rw [q] at e; cases e
  | some j =>
    rw [q] at e
    have := (hI.2.2.2.1 i hi).2.1 j (lc_pl_of q).1
    cases e
    exact this
theorem op_cmp_hat {S : lc_S} {i k x : Nat} (e : op_cmp S i k = some x) : (∃ h, op_hat S i x = some h) ∧ ∃ h, op_hat S k x = some h := by
  obtain ⟨m, h1, h2, h3⟩ := lc_lu_has e
  constructor
  · cases q : lc_pl (fun z => lc_hh (st_B S) (st_gg S i z)) x (st_gn S i) with
    | none => exact absurd h2 (lc_pl_no q m h1)
    | some j => exact ⟨_, by unfold op_hat; rw [q]; rfl⟩
  · cases q : lc_pl (fun z => lc_hh (st_B S) (st_gg S k z)) x (st_gn S k) with
    | none => rw [← h2] at q; rw [lc_unl_none q] at h3; cases h3
    | some j => exact ⟨_, by unfold op_hat; rw [q]; rfl⟩
set_option maxHeartbeats 4000000 in
set_option maxRecDepth 100000 in
theorem c_X8_certified (l : Launch) (E : wg_E) (A : Nat → Nat) (C : wg_C) (S : lc_S) (h : Int32) (hM : lm E A C S) (hI : lc_inv S)  : Met l yX8_certified (wg_ws yX8_certified cX8_certified 2 (some .int)) (wg_rm 2 0 0) (wg_Pc E A C [.ref (A 1000), .int h]) (wg_Qi E (fun r A1 C1 => r = op_certified S h ∧ A = A1 ∧ C = C1)) 0 0 (wg_A E) := by
  refine wg_met (by decide) (Nat.le_of_ble_eq_true rfl) ?_
  intro p e s m below meth c ls F hr hlk hnm hP hS hl
  have F : wg_F p m c cX8_certified 2 s ([.ref (A 1000), .int h] : List Value).toArray "LightChecksModel" E := F
  have hx := F.1
  have hb := F.2.1
  have hml := F.2.2.1
  have hown := F.2.2.2.1
  have hts := F.2.2.2.2.1
  have hl : lv_has ls 2 [(0, .ref (A 1000)), (1, .int h)] := hl
  obtain ⟨mo, ⟨g1, m1, r1⟩, ⟨g3, m3, r3⟩, ⟨g4, m4, r4⟩, ⟨g5, m5, r5⟩, ⟨g6, m6, r6⟩, ⟨g7, m7, r7⟩, ⟨g8, m8, r8⟩, ⟨g9, m9, r9⟩, ⟨g10, m10, r10⟩, ⟨g11, m11, r11⟩, ⟨g12, m12, r12⟩, ⟨g13, m13, r13⟩, ⟨g14, m14, r14⟩, ⟨g15, m15, r15⟩, ⟨g16, m16, r16⟩, ⟨g17, m17, r17⟩, ⟨g18, m18, r18⟩, ⟨g24, m24, r24⟩, ⟨g25, m25, r25⟩, ⟨g26, m26, r26⟩, ⟨g27, m27⟩, ⟨g28, m28, r28⟩⟩ := id hM
  obtain ⟨iok, ⟨itm, itm3a, itm3b⟩, icl, igv, ipa, ipb, ipab⟩ := id hI
  have ins := iok.1
  have inh := iok.2.1
  refine lv_aload_n hx hb dX8_certified_0 rfl (lv_at hl 0 rfl) ?_
  refine lv_iload_n hx hb dX8_certified_1 rfl (lv_at hl 1 rfl) ?_
  refine wg_ci hS (wg_rV (As := [.int h]) (rest := []) F hP hS (c_X8_isHead l E A C S h hM hI) ok_X8_isHead tb_658 rfl rfl ⟨Nat.le_of_ble_eq_true rfl, Nat.le_of_ble_eq_true rfl⟩ mo rfl rfl rfl hl.1 rfl (Nat.le_of_ble_eq_true rfl) dX8_certified_2 ⟨Nat.le_of_ble_eq_true rfl, Nat.le_of_ble_eq_true rfl⟩) (fun r_2 A1 C_2 H locs w_2 hP hS => ?_)
  obtain ⟨w_2, rfl, rfl⟩ := w_2
  rcases hx_j : lc_ix h (lc_nh (st_B S)) with _ | j
  · have w2_j : r_2 = 0 := lc_ixr0 w_2 hx_j
    refine lv_if_ne (tgt := 12) hx hb dX8_certified_5 (by decide) (fun c_5 => ?_) (fun c_5 => ?_)
    · exact absurd w2_j c_5
    · refine lv_iconst (v := (-1)) hx hb dX8_certified_8 (by decide) ?_
      refine lv_goto (tgt := 25) hx hb dX8_certified_9 (by decide) ?_
      exact wg_iret F hP hS hr hlk (⟨by unfold op_certified; rw [hx_j], rfl, rfl⟩) dX8_certified_25
  · have w2_j : r_2 = 1 := lc_ixr1 w_2 hx_j
    obtain ⟨hj, ej, tj⟩ := lc_ix_some hx_j
    refine lv_if_ne (tgt := 12) hx hb dX8_certified_5 (by decide) (fun c_5 => ?_) (fun c_5 => ?_)
    · refine lv_aload_n hx hb dX8_certified_12 rfl (lv_at hl 0 rfl) ?_
      refine lv_iload_n hx hb dX8_certified_13 rfl (lv_at hl 1 rfl) ?_
      refine wg_topi (y := nI j) ej ?_
      refine wg_ci hS (wg_rV (As := [.int (nI j)]) (rest := []) F hP hS (c_X8_isCertified l E A C S j hM hI hj) ok_X8_isCertified tb_682 rfl rfl ⟨Nat.le_of_ble_eq_true rfl, Nat.le_of_ble_eq_true rfl⟩ mo rfl rfl rfl hl.1 rfl (Nat.le_of_ble_eq_true rfl) dX8_certified_14 ⟨Nat.le_of_ble_eq_true rfl, Nat.le_of_ble_eq_true rfl⟩) (fun r_14 A1 C_14 H locs w_14 hP hS => ?_)
      obtain ⟨w_14, rfl, rfl⟩ := w_14
      refine lv_if_eq (tgt := 24) hx hb dX8_certified_17 (by decide) (fun c_17 => ?_) (fun c_17 => ?_)
      · have hc : ¬ lc_cert (st_B S) j := lc_if1 w_14 c_17
        refine lv_iconst (v := 0) hx hb dX8_certified_24 (by decide) ?_
        exact wg_iret F hP hS hr hlk (⟨by unfold op_certified; rw [hx_j]; exact (if_neg hc).symm, rfl, rfl⟩) dX8_certified_25
      · have hc : lc_cert (st_B S) j := lc_if2 w_14 c_17
        refine lv_iconst (v := 1) hx hb dX8_certified_20 (by decide) ?_
        refine lv_goto (tgt := 25) hx hb dX8_certified_21 (by decide) ?_
        exact wg_iret F hP hS hr hlk (⟨by unfold op_certified; rw [hx_j]; exact (if_pos hc).symm, rfl, rfl⟩) dX8_certified_25
    · exact absurd (w2_j.symm.trans c_5) (by decide)
set_option maxHeartbeats 4000000 in
set_option maxRecDepth 100000 in
theorem c_X8_overlaps (l : Launch) (E : wg_E) (A : Nat → Nat) (C : wg_C) (S : lc_S) (h w : Int32) (hM : lm E A C S) (hI : lc_inv S)  : Met l yX8_overlaps (wg_ws yX8_overlaps cX8_overlaps 3 (some .int)) (wg_rm 2 0 0) (wg_Pc E A C [.ref (A 1000), .int h, .int w]) (wg_Qi E (fun r A1 C1 => r = op_overlaps S h w ∧ A = A1 ∧ C = C1)) 0 0 (wg_A E) := by
  refine wg_met (by decide) (Nat.le_of_ble_eq_true rfl) ?_
  intro p e s m below meth c ls F hr hlk hnm hP hS hl
  have F : wg_F p m c cX8_overlaps 3 s ([.ref (A 1000), .int h, .int w] : List Value).toArray "LightChecksModel" E := F
  have hx := F.1
  have hb := F.2.1
  have hml := F.2.2.1
  have hown := F.2.2.2.1
  have hts := F.2.2.2.2.1
  have hl : lv_has ls 3 [(0, .ref (A 1000)), (1, .int h), (2, .int w)] := hl
  obtain ⟨mo, ⟨g1, m1, r1⟩, ⟨g3, m3, r3⟩, ⟨g4, m4, r4⟩, ⟨g5, m5, r5⟩, ⟨g6, m6, r6⟩, ⟨g7, m7, r7⟩, ⟨g8, m8, r8⟩, ⟨g9, m9, r9⟩, ⟨g10, m10, r10⟩, ⟨g11, m11, r11⟩, ⟨g12, m12, r12⟩, ⟨g13, m13, r13⟩, ⟨g14, m14, r14⟩, ⟨g15, m15, r15⟩, ⟨g16, m16, r16⟩, ⟨g17, m17, r17⟩, ⟨g18, m18, r18⟩, ⟨g24, m24, r24⟩, ⟨g25, m25, r25⟩, ⟨g26, m26, r26⟩, ⟨g27, m27⟩, ⟨g28, m28, r28⟩⟩ := id hM
  obtain ⟨iok, ⟨itm, itm3a, itm3b⟩, icl, igv, ipa, ipb, ipab⟩ := id hI
  have ins := iok.1
  have inh := iok.2.1
  refine lv_aload_n hx hb dX8_overlaps_0 rfl (lv_at hl 0 rfl) ?_
  refine lv_iload_n hx hb dX8_overlaps_1 rfl (lv_at hl 1 rfl) ?_
  refine wg_ci hS (wg_rV (As := [.int h]) (rest := []) F hP hS (c_X8_isHead l E A C S h hM hI) ok_X8_isHead tb_658 rfl rfl ⟨Nat.le_of_ble_eq_true rfl, Nat.le_of_ble_eq_true rfl⟩ mo rfl rfl rfl hl.1 rfl (Nat.le_of_ble_eq_true rfl) dX8_overlaps_2 ⟨Nat.le_of_ble_eq_true rfl, Nat.le_of_ble_eq_true rfl⟩) (fun r_2 A1 C_2 H locs w_2 hP hS => ?_)
  obtain ⟨w_2, rfl, rfl⟩ := w_2
  rcases hx_j : lc_ix h (lc_nh (st_B S)) with _ | j
  · have w2_j : r_2 = 0 := lc_ixr0 w_2 hx_j
    refine lv_if_eq (tgt := 16) hx hb dX8_overlaps_5 (by decide) (fun c_5 => ?_) (fun c_5 => ?_)
    · refine lv_iconst (v := (-1)) hx hb dX8_overlaps_16 (by decide) ?_
      refine lv_goto (tgt := 34) hx hb dX8_overlaps_17 (by decide) ?_
      exact wg_iret F hP hS hr hlk (⟨by unfold op_overlaps; first | (rw [hx_j]; done) | (rw [hx_j]; rfl), rfl, rfl⟩) dX8_overlaps_34
    · exact absurd w2_j c_5
  · have w2_j : r_2 = 1 := lc_ixr1 w_2 hx_j
    obtain ⟨hj, ej, tj⟩ := lc_ix_some hx_j
    refine lv_if_eq (tgt := 16) hx hb dX8_overlaps_5 (by decide) (fun c_5 => ?_) (fun c_5 => ?_)
    · exact absurd (w2_j.symm.trans c_5) (by decide)
    · refine lv_aload_n hx hb dX8_overlaps_8 rfl (lv_at hl 0 rfl) ?_
      refine lv_iload_n hx hb dX8_overlaps_9 rfl (lv_at hl 2 rfl) ?_
      refine wg_ci hS (wg_rV (As := [.int w]) (rest := []) F hP hS (c_X8_isSet l E A C S w hM hI) ok_X8_isSet tb_650 rfl rfl ⟨Nat.le_of_ble_eq_true rfl, Nat.le_of_ble_eq_true rfl⟩ mo rfl rfl rfl hl.1 rfl (Nat.le_of_ble_eq_true rfl) dX8_overlaps_10 ⟨Nat.le_of_ble_eq_true rfl, Nat.le_of_ble_eq_true rfl⟩) (fun r_10 A1 C_10 H locs w_10 hP hS => ?_)
      obtain ⟨w_10, rfl, rfl⟩ := w_10
      rcases hx_k : lc_ix w (lc_ns (st_B S)) with _ | k
      · have w2_k : r_10 = 0 := lc_ixr0 w_10 hx_k
        refine lv_if_ne (tgt := 20) hx hb dX8_overlaps_13 (by decide) (fun c_13 => ?_) (fun c_13 => ?_)
        · exact absurd w2_k c_13
        · refine lv_iconst (v := (-1)) hx hb dX8_overlaps_16 (by decide) ?_
          refine lv_goto (tgt := 34) hx hb dX8_overlaps_17 (by decide) ?_
          exact wg_iret F hP hS hr hlk (⟨by unfold op_overlaps; first | (rw [hx_j, hx_k]; done) | (rw [hx_j, hx_k]; rfl), rfl, rfl⟩) dX8_overlaps_34
      · have w2_k : r_10 = 1 := lc_ixr1 w_10 hx_k
        obtain ⟨hk, ek, tk⟩ := lc_ix_some hx_k
        refine lv_if_ne (tgt := 20) hx hb dX8_overlaps_13 (by decide) (fun c_13 => ?_) (fun c_13 => ?_)
        · refine lv_aload_n hx hb dX8_overlaps_20 rfl (lv_at hl 0 rfl) ?_
          refine lv_iload_n hx hb dX8_overlaps_21 rfl (lv_at hl 1 rfl) ?_
          refine wg_topi (y := nI j) ej ?_
          refine lv_iload_n hx hb dX8_overlaps_22 rfl (lv_at hl 2 rfl) ?_
          refine wg_topi (y := nI k) ek ?_
          refine wg_ci hS (wg_rV (As := [.int (nI j), .int (nI k)]) (rest := []) F hP hS (c_X8_doesOverlap l E A C S j k hM hI hj hk) ok_X8_doesOverlap tb_694 rfl rfl ⟨Nat.le_of_ble_eq_true rfl, Nat.le_of_ble_eq_true rfl⟩ mo rfl rfl rfl hl.1 rfl (Nat.le_of_ble_eq_true rfl) dX8_overlaps_23 ⟨Nat.le_of_ble_eq_true rfl, Nat.le_of_ble_eq_true rfl⟩) (fun r_23 A1 C_23 H locs w_23 hP hS => ?_)
          obtain ⟨w_23, rfl, rfl⟩ := w_23
          refine lv_if_eq (tgt := 33) hx hb dX8_overlaps_26 (by decide) (fun c_26 => ?_) (fun c_26 => ?_)
          · have hc : ¬ lc_over (st_B S) (st_tm S) j k := lc_if1 w_23 c_26
            refine lv_iconst (v := 0) hx hb dX8_overlaps_33 (by decide) ?_
            exact wg_iret F hP hS hr hlk (⟨by unfold op_overlaps; rw [hx_j, hx_k]; exact (if_neg hc).symm, rfl, rfl⟩) dX8_overlaps_34
          · have hc : lc_over (st_B S) (st_tm S) j k := lc_if2 w_23 c_26
            refine lv_iconst (v := 1) hx hb dX8_overlaps_29 (by decide) ?_
            refine lv_goto (tgt := 34) hx hb dX8_overlaps_30 (by decide) ?_
            exact wg_iret F hP hS hr hlk (⟨by unfold op_overlaps; rw [hx_j, hx_k]; exact (if_pos hc).symm, rfl, rfl⟩) dX8_overlaps_34
        · exact absurd (w2_k.symm.trans c_13) (by decide)
set_option maxHeartbeats 4000000 in
set_option maxRecDepth 100000 in
theorem c_X8_stored (l : Launch) (E : wg_E) (A : Nat → Nat) (C : wg_C) (S : lc_S) (c0 k : Int32) (hM : lm E A C S) (hI : lc_inv S)  : Met l yX8_stored (wg_ws yX8_stored cX8_stored 3 (some .int)) (wg_rm 2 0 0) (wg_Pc E A C [.ref (A 1000), .int c0, .int k]) (wg_Qi E (fun r A1 C1 => r = op_stored S c0 k ∧ A = A1 ∧ C = C1)) 0 0 (wg_A E) := by
  refine wg_met (by decide) (Nat.le_of_ble_eq_true rfl) ?_
  intro p e s m below meth c ls F hr hlk hnm hP hS hl
  have F : wg_F p m c cX8_stored 3 s ([.ref (A 1000), .int c0, .int k] : List Value).toArray "LightChecksModel" E := F
  have hx := F.1
  have hb := F.2.1
  have hml := F.2.2.1
  have hown := F.2.2.2.1
  have hts := F.2.2.2.2.1
  have hl : lv_has ls 3 [(0, .ref (A 1000)), (1, .int c0), (2, .int k)] := hl
  obtain ⟨mo, ⟨g1, m1, r1⟩, ⟨g3, m3, r3⟩, ⟨g4, m4, r4⟩, ⟨g5, m5, r5⟩, ⟨g6, m6, r6⟩, ⟨g7, m7, r7⟩, ⟨g8, m8, r8⟩, ⟨g9, m9, r9⟩, ⟨g10, m10, r10⟩, ⟨g11, m11, r11⟩, ⟨g12, m12, r12⟩, ⟨g13, m13, r13⟩, ⟨g14, m14, r14⟩, ⟨g15, m15, r15⟩, ⟨g16, m16, r16⟩, ⟨g17, m17, r17⟩, ⟨g18, m18, r18⟩, ⟨g24, m24, r24⟩, ⟨g25, m25, r25⟩, ⟨g26, m26, r26⟩, ⟨g27, m27⟩, ⟨g28, m28, r28⟩⟩ := id hM
  obtain ⟨iok, ⟨itm, itm3a, itm3b⟩, icl, igv, ipa, ipb, ipab⟩ := id hI
  have ins := iok.1
  have inh := iok.2.1
  refine lv_iload_n hx hb dX8_stored_0 rfl (lv_at hl 1 rfl) ?_
  refine wg_ci hS (wg_rS (As := [.int c0]) (rest := []) F hP hS (c_X8_isFour l E A C c0) ok_X8_isFour tb_702 rfl rfl ⟨Nat.le_of_ble_eq_true rfl, Nat.le_of_ble_eq_true rfl⟩ rfl hl.1 rfl (Nat.le_of_ble_eq_true rfl) dX8_stored_1 ⟨Nat.le_of_ble_eq_true rfl, Nat.le_of_ble_eq_true rfl⟩) (fun r_1 A1 C_1 H locs w_1 hP hS => ?_)
  obtain ⟨w_1, rfl, rfl⟩ := w_1
  rcases hx_i : lc_ix c0 4 with _ | i
  · have w2_i : r_1 = 0 := lc_ixr0 w_1 hx_i
    refine lv_if_eq (tgt := 12) hx hb dX8_stored_4 (by decide) (fun c_4 => ?_) (fun c_4 => ?_)
    · refine lv_iconst (v := (-1)) hx hb dX8_stored_12 (by decide) ?_
      exact wg_iret F hP hS hr hlk (⟨by unfold op_stored; rw [hx_i], rfl, rfl⟩) dX8_stored_13
    · exact absurd w2_i c_4
  · have w2_i : r_1 = 1 := lc_ixr1 w_1 hx_i
    obtain ⟨hi, ei, ti⟩ := lc_ix_some hx_i
    refine lv_if_eq (tgt := 12) hx hb dX8_stored_4 (by decide) (fun c_4 => ?_) (fun c_4 => ?_)
    · exact absurd (w2_i.symm.trans c_4) (by decide)
    · refine lv_iload_n hx hb dX8_stored_7 rfl (lv_at hl 2 rfl) ?_
      refine lv_iconst (v := (-1)) hx hb dX8_stored_8 (by decide) ?_
      refine lv_icmp_ge (tgt := 14) hx hb dX8_stored_9 (by decide) (fun c_9 => ?_) (fun c_9 => ?_)
      · simp only [Int32.lt_iff_toInt_lt, Int32.le_iff_toInt_le, ← Int32.toInt_inj, lc_t0i, lc_t1i, lc_t2i, lc_t3i, lc_tm1i, lc_t6i] at c_9
        obtain ⟨hc1, hc2⟩ := icl i hi
        refine lv_iload_n hx hb dX8_stored_14 rfl (lv_at hl 2 rfl) ?_
        refine lv_if_ge (tgt := 27) hx hb dX8_stored_15 (by decide) (fun c_15 => ?_) (fun c_15 => ?_)
        · simp only [Int32.lt_iff_toInt_lt, Int32.le_iff_toInt_le, ← Int32.toInt_inj, lc_t0i, lc_t1i, lc_t2i, lc_t3i, lc_tm1i, lc_t6i] at c_15
          rcases hx_j : lc_ix k (st_cn S i) with _ | j
          · have nx := lc_ix_none hx_j
            refine lv_iload_n hx hb dX8_stored_27 rfl (lv_at hl 2 rfl) ?_
            refine lv_aload_n hx hb dX8_stored_28 rfl (lv_at hl 0 rfl) ?_
            refine wg_get F hP mo rfl iw_X8 10 (by decide) tb_559 rfl rfl dX8_stored_29 ?_
            refine lv_iload_n hx hb dX8_stored_32 rfl (lv_at hl 1 rfl) ?_
            refine wg_topi (y := nI i) ei ?_
            refine wg_ild F hP m10 (vp_in_nI (by omega) (by decide)) dX8_stored_33 ?_
            refine wg_topi (y := nI (st_cn S i)) (by rw [nI_clamp (by omega)]; exact r10 i hi) ?_
            refine lv_icmp_ge (tgt := 51) hx hb dX8_stored_34 (by decide) (fun c_34 => ?_) (fun c_34 => ?_)
            · refine lv_bipush (v := (-2)) hx hb dX8_stored_51 (by decide) ?_
              exact wg_iret F hP hS hr hlk (⟨by unfold op_stored; rw [hx_i]; simp only []; rw [if_neg (by omega), if_neg (by omega), hx_j], rfl, rfl⟩) dX8_stored_53
            · exact absurd (by rw [Int32.le_iff_toInt_le, nI_toInt (by omega)]; omega) c_34
          · obtain ⟨hj, ej, tj⟩ := lc_ix_some hx_j
            refine lv_iload_n hx hb dX8_stored_27 rfl (lv_at hl 2 rfl) ?_
            refine lv_aload_n hx hb dX8_stored_28 rfl (lv_at hl 0 rfl) ?_
            refine wg_get F hP mo rfl iw_X8 10 (by decide) tb_559 rfl rfl dX8_stored_29 ?_
            refine lv_iload_n hx hb dX8_stored_32 rfl (lv_at hl 1 rfl) ?_
            refine wg_topi (y := nI i) ei ?_
            refine wg_ild F hP m10 (vp_in_nI (by omega) (by decide)) dX8_stored_33 ?_
            refine wg_topi (y := nI (st_cn S i)) (by rw [nI_clamp (by omega)]; exact r10 i hi) ?_
            refine lv_icmp_ge (tgt := 51) hx hb dX8_stored_34 (by decide) (fun c_34 => ?_) (fun c_34 => ?_)
            · exact absurd c_34 (by rw [ej, nI_leI (by omega) (by omega)]; omega)
            · refine lv_aload_n hx hb dX8_stored_37 rfl (lv_at hl 0 rfl) ?_
              refine wg_get F hP mo rfl iw_X8 11 (by decide) tb_560 rfl rfl dX8_stored_38 ?_
              refine lv_bipush (v := 11) hx hb dX8_stored_41 (by decide) ?_
              refine lv_iload_n hx hb dX8_stored_43 rfl (lv_at hl 1 rfl) ?_
              refine wg_topi (y := nI i) ei ?_
              refine lv_imul hx hb dX8_stored_44 ?_
              refine lv_iload_n hx hb dX8_stored_45 rfl (lv_at hl 2 rfl) ?_
              refine wg_topi (y := nI j) ej ?_
              refine lv_iadd hx hb dX8_stored_46 ?_
              refine wg_topi (y := nI (11 * i + j)) (by rw [show (11 : Int32) = nI 11 from rfl, pk_mul, nI_add]) ?_
              refine wg_ild F hP m11 (vp_in_nI (by omega) (by decide)) dX8_stored_47 ?_
              refine wg_topi (y := nI (st_cg S i j)) (by rw [nI_clamp (by omega)]; exact r11 i hi j hj) ?_
              refine lv_goto (tgt := 53) hx hb dX8_stored_48 (by decide) ?_
              exact wg_iret F hP hS hr hlk (⟨by unfold op_stored; rw [hx_i]; simp only []; rw [if_neg (by omega), if_neg (by omega), hx_j], rfl, rfl⟩) dX8_stored_53
        · simp only [Int32.lt_iff_toInt_lt, Int32.le_iff_toInt_le, ← Int32.toInt_inj, lc_t0i, lc_t1i, lc_t2i, lc_t3i, lc_tm1i, lc_t6i] at c_15
          refine lv_aload_n hx hb dX8_stored_18 rfl (lv_at hl 0 rfl) ?_
          refine wg_get F hP mo rfl iw_X8 10 (by decide) tb_559 rfl rfl dX8_stored_19 ?_
          refine lv_iload_n hx hb dX8_stored_22 rfl (lv_at hl 1 rfl) ?_
          refine wg_topi (y := nI i) ei ?_
          refine wg_ild F hP m10 (vp_in_nI (by omega) (by decide)) dX8_stored_23 ?_
          refine wg_topi (y := nI (st_cn S i)) (by rw [nI_clamp (by omega)]; exact r10 i hi) ?_
          refine lv_goto (tgt := 53) hx hb dX8_stored_24 (by decide) ?_
          exact wg_iret F hP hS hr hlk (⟨by unfold op_stored; rw [hx_i]; simp only []; rw [if_neg (by omega), if_pos (by omega)], rfl, rfl⟩) dX8_stored_53
      · simp only [Int32.lt_iff_toInt_lt, Int32.le_iff_toInt_le, ← Int32.toInt_inj, lc_t0i, lc_t1i, lc_t2i, lc_t3i, lc_tm1i, lc_t6i] at c_9
        refine lv_iconst (v := (-1)) hx hb dX8_stored_12 (by decide) ?_
        exact wg_iret F hP hS hr hlk (⟨by unfold op_stored; rw [hx_i]; exact (if_pos (by omega)).symm, rfl, rfl⟩) dX8_stored_13
set_option maxHeartbeats 4000000 in
set_option maxRecDepth 100000 in
theorem c_X8_client (l : Launch) (E : wg_E) (A : Nat → Nat) (C : wg_C) (S : lc_S) (c0 w : Int32) (hM : lm E A C S) (hI : lc_inv S)  : Met l yX8_client (wg_ws yX8_client cX8_client 3 (some .int)) (wg_rm 2 0 0) (wg_Pc E A C [.ref (A 1000), .int c0, .int w]) (wg_Qi E (fun r A1 C1 => r = op_client S c0 w ∧ A = A1 ∧ C = C1)) 0 0 (wg_A E) := by
  refine wg_met (by decide) (Nat.le_of_ble_eq_true rfl) ?_
  intro p e s m below meth c ls F hr hlk hnm hP hS hl
  have F : wg_F p m c cX8_client 3 s ([.ref (A 1000), .int c0, .int w] : List Value).toArray "LightChecksModel" E := F
  have hx := F.1
  have hb := F.2.1
  have hml := F.2.2.1
  have hown := F.2.2.2.1
  have hts := F.2.2.2.2.1
  have hl : lv_has ls 3 [(0, .ref (A 1000)), (1, .int c0), (2, .int w)] := hl
  obtain ⟨mo, ⟨g1, m1, r1⟩, ⟨g3, m3, r3⟩, ⟨g4, m4, r4⟩, ⟨g5, m5, r5⟩, ⟨g6, m6, r6⟩, ⟨g7, m7, r7⟩, ⟨g8, m8, r8⟩, ⟨g9, m9, r9⟩, ⟨g10, m10, r10⟩, ⟨g11, m11, r11⟩, ⟨g12, m12, r12⟩, ⟨g13, m13, r13⟩, ⟨g14, m14, r14⟩, ⟨g15, m15, r15⟩, ⟨g16, m16, r16⟩, ⟨g17, m17, r17⟩, ⟨g18, m18, r18⟩, ⟨g24, m24, r24⟩, ⟨g25, m25, r25⟩, ⟨g26, m26, r26⟩, ⟨g27, m27⟩, ⟨g28, m28, r28⟩⟩ := id hM
  obtain ⟨iok, ⟨itm, itm3a, itm3b⟩, icl, igv, ipa, ipb, ipab⟩ := id hI
  have ins := iok.1
  have inh := iok.2.1
  refine lv_iload_n hx hb dX8_client_0 rfl (lv_at hl 1 rfl) ?_
  refine wg_ci hS (wg_rS (As := [.int c0]) (rest := []) F hP hS (c_X8_isFour l E A C c0) ok_X8_isFour tb_702 rfl rfl ⟨Nat.le_of_ble_eq_true rfl, Nat.le_of_ble_eq_true rfl⟩ rfl hl.1 rfl (Nat.le_of_ble_eq_true rfl) dX8_client_1 ⟨Nat.le_of_ble_eq_true rfl, Nat.le_of_ble_eq_true rfl⟩) (fun r_1 A1 C_1 H locs w_1 hP hS => ?_)
  obtain ⟨w_1, rfl, rfl⟩ := w_1
  rcases hx_i : lc_ix c0 4 with _ | i
  · have w2_i : r_1 = 0 := lc_ixr0 w_1 hx_i
    refine lv_if_ne (tgt := 11) hx hb dX8_client_4 (by decide) (fun c_4 => ?_) (fun c_4 => ?_)
    · exact absurd w2_i c_4
    · refine lv_iconst (v := (-1)) hx hb dX8_client_7 (by decide) ?_
      refine lv_goto (tgt := 53) hx hb dX8_client_8 (by decide) ?_
      exact wg_iret F hP hS hr hlk (⟨by unfold op_client; rw [hx_i], rfl, rfl⟩) dX8_client_53
  · have w2_i : r_1 = 1 := lc_ixr1 w_1 hx_i
    obtain ⟨hi, ei, ti⟩ := lc_ix_some hx_i
    refine lv_if_ne (tgt := 11) hx hb dX8_client_4 (by decide) (fun c_4 => ?_) (fun c_4 => ?_)
    · refine lv_iload_n hx hb dX8_client_11 rfl (lv_at hl 2 rfl) ?_
      refine lv_if_ne (tgt := 24) hx hb dX8_client_12 (by decide) (fun c_12 => ?_) (fun c_12 => ?_)
      · simp only [Int32.lt_iff_toInt_lt, Int32.le_iff_toInt_le, ← Int32.toInt_inj, lc_t0i, lc_t1i, lc_t2i, lc_t3i, lc_tm1i, lc_t6i] at c_12
        refine lv_iload_n hx hb dX8_client_24 rfl (lv_at hl 2 rfl) ?_
        refine lv_iconst (v := 1) hx hb dX8_client_25 (by decide) ?_
        refine lv_icmp_ne (tgt := 38) hx hb dX8_client_26 (by decide) (fun c_26 => ?_) (fun c_26 => ?_)
        · simp only [Int32.lt_iff_toInt_lt, Int32.le_iff_toInt_le, ← Int32.toInt_inj, lc_t0i, lc_t1i, lc_t2i, lc_t3i, lc_tm1i, lc_t6i] at c_26
          refine lv_iload_n hx hb dX8_client_38 rfl (lv_at hl 2 rfl) ?_
          refine lv_iconst (v := 2) hx hb dX8_client_39 (by decide) ?_
          refine lv_icmp_ne (tgt := 52) hx hb dX8_client_40 (by decide) (fun c_40 => ?_) (fun c_40 => ?_)
          · simp only [Int32.lt_iff_toInt_lt, Int32.le_iff_toInt_le, ← Int32.toInt_inj, lc_t0i, lc_t1i, lc_t2i, lc_t3i, lc_tm1i, lc_t6i] at c_40
            refine lv_iconst (v := (-1)) hx hb dX8_client_52 (by decide) ?_
            exact wg_iret F hP hS hr hlk (⟨by unfold op_client; rw [hx_i]; simp only [← Int32.toInt_inj (x := w), lc_t0i, lc_t1i, lc_t2i]; rw [if_neg (by omega), if_neg (by omega), if_neg (by omega)], rfl, rfl⟩) dX8_client_53
          · simp only [Int32.lt_iff_toInt_lt, Int32.le_iff_toInt_le, ← Int32.toInt_inj, lc_t0i, lc_t1i, lc_t2i, lc_t3i, lc_tm1i, lc_t6i] at c_40
            refine lv_aload_n hx hb dX8_client_43 rfl (lv_at hl 0 rfl) ?_
            refine wg_get F hP mo rfl iw_X8 14 (by decide) tb_563 rfl rfl dX8_client_44 ?_
            refine lv_iload_n hx hb dX8_client_47 rfl (lv_at hl 1 rfl) ?_
            refine wg_topi (y := nI i) ei ?_
            refine wg_ild F hP m14 (vp_in_nI (by omega) (by decide)) dX8_client_48 ?_
            refine wg_topi (y := st_ra S i) (by rw [nI_clamp (by omega)]; exact r14 i hi) ?_
            refine lv_goto (tgt := 53) hx hb dX8_client_49 (by decide) ?_
            exact wg_iret F hP hS hr hlk (⟨by unfold op_client; rw [hx_i]; simp only [← Int32.toInt_inj (x := w), lc_t0i, lc_t1i, lc_t2i]; rw [if_neg (by omega), if_neg (by omega), if_pos (by omega)], rfl, rfl⟩) dX8_client_53
        · simp only [Int32.lt_iff_toInt_lt, Int32.le_iff_toInt_le, ← Int32.toInt_inj, lc_t0i, lc_t1i, lc_t2i, lc_t3i, lc_tm1i, lc_t6i] at c_26
          refine lv_aload_n hx hb dX8_client_29 rfl (lv_at hl 0 rfl) ?_
          refine wg_get F hP mo rfl iw_X8 13 (by decide) tb_562 rfl rfl dX8_client_30 ?_
          refine lv_iload_n hx hb dX8_client_33 rfl (lv_at hl 1 rfl) ?_
          refine wg_topi (y := nI i) ei ?_
          refine wg_ild F hP m13 (vp_in_nI (by omega) (by decide)) dX8_client_34 ?_
          refine wg_topi (y := st_rb S i) (by rw [nI_clamp (by omega)]; exact r13 i hi) ?_
          refine lv_goto (tgt := 53) hx hb dX8_client_35 (by decide) ?_
          exact wg_iret F hP hS hr hlk (⟨by unfold op_client; rw [hx_i]; simp only [← Int32.toInt_inj (x := w), lc_t0i, lc_t1i, lc_t2i]; rw [if_neg (by omega), if_pos (by omega)], rfl, rfl⟩) dX8_client_53
      · simp only [Int32.lt_iff_toInt_lt, Int32.le_iff_toInt_le, ← Int32.toInt_inj, lc_t0i, lc_t1i, lc_t2i, lc_t3i, lc_tm1i, lc_t6i] at c_12
        refine lv_aload_n hx hb dX8_client_15 rfl (lv_at hl 0 rfl) ?_
        refine wg_get F hP mo rfl iw_X8 12 (by decide) tb_561 rfl rfl dX8_client_16 ?_
        refine lv_iload_n hx hb dX8_client_19 rfl (lv_at hl 1 rfl) ?_
        refine wg_topi (y := nI i) ei ?_
        refine wg_ild F hP m12 (vp_in_nI (by omega) (by decide)) dX8_client_20 ?_
        refine wg_topi (y := st_co S i) (by rw [nI_clamp (by omega)]; exact r12 i hi) ?_
        refine lv_goto (tgt := 53) hx hb dX8_client_21 (by decide) ?_
        exact wg_iret F hP hS hr hlk (⟨by unfold op_client; rw [hx_i]; simp only [← Int32.toInt_inj (x := w), lc_t0i, lc_t1i, lc_t2i]; rw [if_pos (by omega)], rfl, rfl⟩) dX8_client_53
    · exact absurd (w2_i.symm.trans c_4) (by decide)
set_option maxHeartbeats 4000000 in
set_option maxRecDepth 100000 in
theorem c_X8_told (l : Launch) (E : wg_E) (A : Nat → Nat) (C : wg_C) (S : lc_S) (w : Int32) (hM : lm E A C S) (hI : lc_inv S)  : Met l yX8_told (wg_ws yX8_told cX8_told 2 (some .int)) (wg_rm 1 0 0) (wg_Pc E A C [.ref (A 1000), .int w]) (wg_Qi E (fun r A1 C1 => r = op_told S w ∧ A = A1 ∧ C = C1)) 0 0 (wg_A E) := by
  refine wg_met (by decide) (Nat.le_of_ble_eq_true rfl) ?_
  intro p e s m below meth c ls F hr hlk hnm hP hS hl
  have F : wg_F p m c cX8_told 2 s ([.ref (A 1000), .int w] : List Value).toArray "LightChecksModel" E := F
  have hx := F.1
  have hb := F.2.1
  have hml := F.2.2.1
  have hown := F.2.2.2.1
  have hts := F.2.2.2.2.1
  have hl : lv_has ls 2 [(0, .ref (A 1000)), (1, .int w)] := hl
  obtain ⟨mo, ⟨g1, m1, r1⟩, ⟨g3, m3, r3⟩, ⟨g4, m4, r4⟩, ⟨g5, m5, r5⟩, ⟨g6, m6, r6⟩, ⟨g7, m7, r7⟩, ⟨g8, m8, r8⟩, ⟨g9, m9, r9⟩, ⟨g10, m10, r10⟩, ⟨g11, m11, r11⟩, ⟨g12, m12, r12⟩, ⟨g13, m13, r13⟩, ⟨g14, m14, r14⟩, ⟨g15, m15, r15⟩, ⟨g16, m16, r16⟩, ⟨g17, m17, r17⟩, ⟨g18, m18, r18⟩, ⟨g24, m24, r24⟩, ⟨g25, m25, r25⟩, ⟨g26, m26, r26⟩, ⟨g27, m27⟩, ⟨g28, m28, r28⟩⟩ := id hM
  obtain ⟨iok, ⟨itm, itm3a, itm3b⟩, icl, igv, ipa, ipb, ipab⟩ := id hI
  have ins := iok.1
  have inh := iok.2.1
  refine lv_iload_n hx hb dX8_told_0 rfl (lv_at hl 1 rfl) ?_
  refine lv_if_ne (tgt := 11) hx hb dX8_told_1 (by decide) (fun c_1 => ?_) (fun c_1 => ?_)
  · simp only [Int32.lt_iff_toInt_lt, Int32.le_iff_toInt_le, ← Int32.toInt_inj, lc_t0i, lc_t1i, lc_t2i, lc_t3i, lc_tm1i, lc_t6i] at c_1
    refine lv_iload_n hx hb dX8_told_11 rfl (lv_at hl 1 rfl) ?_
    refine lv_iconst (v := 1) hx hb dX8_told_12 (by decide) ?_
    refine lv_icmp_ne (tgt := 23) hx hb dX8_told_13 (by decide) (fun c_13 => ?_) (fun c_13 => ?_)
    · simp only [Int32.lt_iff_toInt_lt, Int32.le_iff_toInt_le, ← Int32.toInt_inj, lc_t0i, lc_t1i, lc_t2i, lc_t3i, lc_tm1i, lc_t6i] at c_13
      refine lv_iload_n hx hb dX8_told_23 rfl (lv_at hl 1 rfl) ?_
      refine lv_i2l (v := w.toInt64) hx hb dX8_told_24 rfl ?_
      refine lv_ldc2 (v := 2) hx hb hown (hts _ tb_667) dX8_told_25 ?_
      refine lv_ldc2 (v := 5) hx hb hown (hts _ tb_806) dX8_told_28 ?_
      refine wg_ci hS (wg_rS (As := [.long w.toInt64, .long 2, .long 5]) (rest := []) F hP hS (c_X8_in l E A C _ _ _) ok_X8_in tb_532 rfl rfl ⟨Nat.le_of_ble_eq_true rfl, Nat.le_of_ble_eq_true rfl⟩ rfl hl.1 rfl (Nat.le_of_ble_eq_true rfl) dX8_told_31 ⟨Nat.le_of_ble_eq_true rfl, Nat.le_of_ble_eq_true rfl⟩) (fun r_31 A1 C_31 H locs w_31 hP hS => ?_)
      obtain ⟨w_31, rfl, rfl⟩ := w_31
      simp only [lc_i2l, show (0 : Int64).toInt = 0 from by decide, show (1 : Int64).toInt = 1 from by decide, show (2 : Int64).toInt = 2 from by decide, show (3 : Int64).toInt = 3 from by decide, show (4 : Int64).toInt = 4 from by decide, show (5 : Int64).toInt = 5 from by decide, show (7 : Int64).toInt = 7 from by decide, show (9 : Int64).toInt = 9 from by decide, show (10 : Int64).toInt = 10 from by decide, show (15 : Int64).toInt = 15 from by decide, show (60 : Int64).toInt = 60 from by decide, show (1000 : Int64).toInt = 1000 from by decide, show (100000 : Int64).toInt = 100000 from by decide, show (1000000 : Int64).toInt = 1000000 from by decide] at w_31
      refine lv_if_eq (tgt := 48) hx hb dX8_told_34 (by decide) (fun c_34 => ?_) (fun c_34 => ?_)
      · have q_34 := lc_if1 w_31 c_34
        refine lv_iconst (v := (-1)) hx hb dX8_told_48 (by decide) ?_
        exact wg_iret F hP hS hr hlk (⟨by unfold op_told; simp only [← Int32.toInt_inj (x := w), lc_t0i, lc_t1i]; rw [if_neg (by omega), if_neg (by omega), if_neg (by omega)], rfl, rfl⟩) dX8_told_49
      · have q_34 := lc_if2 w_31 c_34
        obtain ⟨w1, hw31, ew⟩ := nI_of (x := w) (by rw [Int32.lt_iff_toInt_lt, lc_t0i]; omega)
        have tw : w.toInt = (w1 : Int) := by rw [ew, nI_toInt hw31]
        have e2 : w - 2 = nI (w1 - 2) := by rw [ew, show (2 : Int32) = nI 2 from rfl, pk_sub (by omega)]
        refine lv_aload_n hx hb dX8_told_37 rfl (lv_at hl 0 rfl) ?_
        refine wg_get F hP mo rfl iw_X8 9 (by decide) tb_558 rfl rfl dX8_told_38 ?_
        refine lv_iload_n hx hb dX8_told_41 rfl (lv_at hl 1 rfl) ?_
        refine lv_iconst (v := 2) hx hb dX8_told_42 (by decide) ?_
        refine lv_isub hx hb dX8_told_43 ?_
        refine wg_topi (y := nI (w1 - 2)) e2 ?_
        refine wg_ild F hP m9 (vp_in_nI (by omega) (by decide)) dX8_told_44 ?_
        refine wg_topi (y := nI (st_tm S (w1 - 2))) (by rw [nI_clamp (by omega)]; exact r9 _ (by omega)) ?_
        refine lv_goto (tgt := 49) hx hb dX8_told_45 (by decide) ?_
        exact wg_iret F hP hS hr hlk (⟨by unfold op_told; simp only [← Int32.toInt_inj (x := w), lc_t0i, lc_t1i]; rw [if_neg (by omega), if_neg (by omega), if_pos (by omega), tw, Int.toNat_natCast], rfl, rfl⟩) dX8_told_49
    · simp only [Int32.lt_iff_toInt_lt, Int32.le_iff_toInt_le, ← Int32.toInt_inj, lc_t0i, lc_t1i, lc_t2i, lc_t3i, lc_tm1i, lc_t6i] at c_13
      refine lv_aload_n hx hb dX8_told_16 rfl (lv_at hl 0 rfl) ?_
      refine wg_get F hP mo rfl iw_X8 2 (by decide) tb_551 rfl rfl dX8_told_17 ?_
      refine lv_goto (tgt := 49) hx hb dX8_told_20 (by decide) ?_
      exact wg_iret F hP hS hr hlk (⟨by unfold op_told; simp only [← Int32.toInt_inj (x := w), lc_t0i, lc_t1i]; rw [if_neg (by omega), if_pos (by omega)], rfl, rfl⟩) dX8_told_49
  · simp only [Int32.lt_iff_toInt_lt, Int32.le_iff_toInt_le, ← Int32.toInt_inj, lc_t0i, lc_t1i, lc_t2i, lc_t3i, lc_tm1i, lc_t6i] at c_1
    refine lv_aload_n hx hb dX8_told_4 rfl (lv_at hl 0 rfl) ?_
    refine wg_get F hP mo rfl iw_X8 0 (by decide) tb_549 rfl rfl dX8_told_5 ?_
    refine lv_goto (tgt := 49) hx hb dX8_told_8 (by decide) ?_
    exact wg_iret F hP hS hr hlk (⟨by unfold op_told; simp only [← Int32.toInt_inj (x := w), lc_t0i, lc_t1i]; rw [if_pos (by omega)], rfl, rfl⟩) dX8_told_49
set_option maxHeartbeats 4000000 in
set_option maxRecDepth 100000 in
theorem c_X8_proof (l : Launch) (E : wg_E) (A : Nat → Nat) (C : wg_C) (S : lc_S) (k : Int32) (hM : lm E A C S) (hI : lc_inv S)  : Met l yX8_proof (wg_ws yX8_proof cX8_proof 2 (some .long)) (wg_rm 1 0 0) (wg_Pc E A C [.ref (A 1000), .int k]) (wg_Ql E (fun r A1 C1 => r = op_proof S k ∧ A = A1 ∧ C = C1)) 0 0 (wg_A E) := by
  refine wg_met (by decide) (Nat.le_of_ble_eq_true rfl) ?_
  intro p e s m below meth c ls F hr hlk hnm hP hS hl
  have F : wg_F p m c cX8_proof 2 s ([.ref (A 1000), .int k] : List Value).toArray "LightChecksModel" E := F
  have hx := F.1
  have hb := F.2.1
  have hml := F.2.2.1
  have hown := F.2.2.2.1
  have hts := F.2.2.2.2.1
  have hl : lv_has ls 2 [(0, .ref (A 1000)), (1, .int k)] := hl
  obtain ⟨mo, ⟨g1, m1, r1⟩, ⟨g3, m3, r3⟩, ⟨g4, m4, r4⟩, ⟨g5, m5, r5⟩, ⟨g6, m6, r6⟩, ⟨g7, m7, r7⟩, ⟨g8, m8, r8⟩, ⟨g9, m9, r9⟩, ⟨g10, m10, r10⟩, ⟨g11, m11, r11⟩, ⟨g12, m12, r12⟩, ⟨g13, m13, r13⟩, ⟨g14, m14, r14⟩, ⟨g15, m15, r15⟩, ⟨g16, m16, r16⟩, ⟨g17, m17, r17⟩, ⟨g18, m18, r18⟩, ⟨g24, m24, r24⟩, ⟨g25, m25, r25⟩, ⟨g26, m26, r26⟩, ⟨g27, m27⟩, ⟨g28, m28, r28⟩⟩ := id hM
  obtain ⟨iok, ⟨itm, itm3a, itm3b⟩, icl, igv, ipa, ipb, ipab⟩ := id hI
  have ins := iok.1
  have inh := iok.2.1
  refine lv_iload_n hx hb dX8_proof_0 rfl (lv_at hl 1 rfl) ?_
  refine lv_if_ne (tgt := 12) hx hb dX8_proof_1 (by decide) (fun c_1 => ?_) (fun c_1 => ?_)
  · simp only [Int32.lt_iff_toInt_lt, Int32.le_iff_toInt_le, ← Int32.toInt_inj, lc_t0i, lc_t1i, lc_t2i, lc_t3i, lc_tm1i, lc_t6i] at c_1
    refine lv_iload_n hx hb dX8_proof_12 rfl (lv_at hl 1 rfl) ?_
    refine lv_iconst (v := 1) hx hb dX8_proof_13 (by decide) ?_
    refine lv_icmp_ne (tgt := 25) hx hb dX8_proof_14 (by decide) (fun c_14 => ?_) (fun c_14 => ?_)
    · simp only [Int32.lt_iff_toInt_lt, Int32.le_iff_toInt_le, ← Int32.toInt_inj, lc_t0i, lc_t1i, lc_t2i, lc_t3i, lc_tm1i, lc_t6i] at c_14
      refine lv_iload_n hx hb dX8_proof_25 rfl (lv_at hl 1 rfl) ?_
      refine lv_iconst (v := 2) hx hb dX8_proof_26 (by decide) ?_
      refine lv_icmp_ne (tgt := 37) hx hb dX8_proof_27 (by decide) (fun c_27 => ?_) (fun c_27 => ?_)
      · simp only [Int32.lt_iff_toInt_lt, Int32.le_iff_toInt_le, ← Int32.toInt_inj, lc_t0i, lc_t1i, lc_t2i, lc_t3i, lc_tm1i, lc_t6i] at c_27
        refine lv_iload_n hx hb dX8_proof_37 rfl (lv_at hl 1 rfl) ?_
        refine lv_iconst (v := 3) hx hb dX8_proof_38 (by decide) ?_
        refine lv_icmp_ne (tgt := 49) hx hb dX8_proof_39 (by decide) (fun c_39 => ?_) (fun c_39 => ?_)
        · simp only [Int32.lt_iff_toInt_lt, Int32.le_iff_toInt_le, ← Int32.toInt_inj, lc_t0i, lc_t1i, lc_t2i, lc_t3i, lc_tm1i, lc_t6i] at c_39
          have h4 : st_ct S ≤ 4 := lc_cnt_le _ ipa _ ipb ipab
          refine lv_iload_n hx hb dX8_proof_49 rfl (lv_at hl 1 rfl) ?_
          refine lv_i2l (v := k.toInt64) hx hb dX8_proof_50 rfl ?_
          refine lv_ldc2 (v := 4) hx hb hown (hts _ tb_772) dX8_proof_51 ?_
          refine lv_iconst (v := 3) hx hb dX8_proof_54 (by decide) ?_
          refine lv_aload_n hx hb dX8_proof_55 rfl (lv_at hl 0 rfl) ?_
          refine wg_get F hP mo rfl iw_X8 23 (by decide) tb_572 rfl rfl dX8_proof_56 ?_
          refine lv_iadd hx hb dX8_proof_59 ?_
          refine wg_topi (y := nI (3 + st_ct S)) (by rw [show (3 : Int32) = nI 3 from rfl, nI_add]) ?_
          refine lv_i2l (v := (nI (3 + st_ct S)).toInt64) hx hb dX8_proof_60 rfl ?_
          refine wg_ci hS (wg_rS (As := [.long k.toInt64, .long 4, .long ((nI (3 + st_ct S)).toInt64)]) (rest := []) F hP hS (c_X8_in l E A C _ _ _) ok_X8_in tb_532 rfl rfl ⟨Nat.le_of_ble_eq_true rfl, Nat.le_of_ble_eq_true rfl⟩ rfl hl.1 rfl (Nat.le_of_ble_eq_true rfl) dX8_proof_61 ⟨Nat.le_of_ble_eq_true rfl, Nat.le_of_ble_eq_true rfl⟩) (fun r_61 A1 C_61 H locs w_61 hP hS => ?_)
          obtain ⟨w_61, rfl, rfl⟩ := w_61
          simp only [lc_i2l, show (0 : Int64).toInt = 0 from by decide, show (1 : Int64).toInt = 1 from by decide, show (2 : Int64).toInt = 2 from by decide, show (3 : Int64).toInt = 3 from by decide, show (4 : Int64).toInt = 4 from by decide, show (5 : Int64).toInt = 5 from by decide, show (7 : Int64).toInt = 7 from by decide, show (9 : Int64).toInt = 9 from by decide, show (10 : Int64).toInt = 10 from by decide, show (15 : Int64).toInt = 15 from by decide, show (60 : Int64).toInt = 60 from by decide, show (1000 : Int64).toInt = 1000 from by decide, show (100000 : Int64).toInt = 100000 from by decide, show (1000000 : Int64).toInt = 1000000 from by decide] at w_61
          rw [nI_toInt (by omega)] at w_61
          refine lv_if_eq (tgt := 78) hx hb dX8_proof_64 (by decide) (fun c_64 => ?_) (fun c_64 => ?_)
          · have q_64 := lc_if1 w_61 c_64
            refine lv_lconst (v := 0) hx hb dX8_proof_78 (by decide) ?_
            exact wg_lret F hP hS hr hlk (⟨by unfold op_proof; rw [lc_num_out (by omega), if_neg (by omega)], rfl, rfl⟩) dX8_proof_79
          · have q_64 := lc_if2 w_61 c_64
            obtain ⟨i, hi31, ek, e4, eT, eC⟩ := lc_ge4 (k := k) (by rw [Int32.lt_iff_toInt_lt, lc_t4i]; omega)
            refine lv_aload_n hx hb dX8_proof_67 rfl (lv_at hl 0 rfl) ?_
            refine wg_get F hP mo rfl iw_X8 25 (by decide) tb_574 rfl rfl dX8_proof_68 ?_
            refine lv_iload_n hx hb dX8_proof_71 rfl (lv_at hl 1 rfl) ?_
            refine lv_iconst (v := 4) hx hb dX8_proof_72 (by decide) ?_
            refine lv_isub hx hb dX8_proof_73 ?_
            refine wg_topi (y := nI i) e4 ?_
            refine wg_lld F hP m25 (vp_in_nI (by omega) (by decide)) dX8_proof_74 ?_
            refine wg_topl (y := st_pn S i) (by rw [nI_clamp (by omega)]; exact r25 i (by omega)) ?_
            refine lv_goto (tgt := 79) hx hb dX8_proof_75 (by decide) ?_
            exact wg_lret F hP hS hr hlk (⟨by unfold op_proof; rw [lc_num_out (by omega), if_pos (by omega), eC, Nat.add_sub_cancel], rfl, rfl⟩) dX8_proof_79
        · simp only [Int32.lt_iff_toInt_lt, Int32.le_iff_toInt_le, ← Int32.toInt_inj, lc_t0i, lc_t1i, lc_t2i, lc_t3i, lc_tm1i, lc_t6i] at c_39
          refine lv_aload_n hx hb dX8_proof_42 rfl (lv_at hl 0 rfl) ?_
          refine wg_get F hP mo rfl iw_X8 22 (by decide) tb_571 rfl rfl dX8_proof_43 ?_
          refine lv_goto (tgt := 79) hx hb dX8_proof_46 (by decide) ?_
          exact wg_lret F hP hS hr hlk (⟨by unfold op_proof; rw [Int32.toInt_inj.mp (c_39.trans lc_t3i.symm)]; rfl, rfl, rfl⟩) dX8_proof_79
      · simp only [Int32.lt_iff_toInt_lt, Int32.le_iff_toInt_le, ← Int32.toInt_inj, lc_t0i, lc_t1i, lc_t2i, lc_t3i, lc_tm1i, lc_t6i] at c_27
        refine lv_aload_n hx hb dX8_proof_30 rfl (lv_at hl 0 rfl) ?_
        refine wg_get F hP mo rfl iw_X8 21 (by decide) tb_570 rfl rfl dX8_proof_31 ?_
        refine lv_goto (tgt := 79) hx hb dX8_proof_34 (by decide) ?_
        exact wg_lret F hP hS hr hlk (⟨by unfold op_proof; rw [Int32.toInt_inj.mp (c_27.trans lc_t2i.symm)]; rfl, rfl, rfl⟩) dX8_proof_79
    · simp only [Int32.lt_iff_toInt_lt, Int32.le_iff_toInt_le, ← Int32.toInt_inj, lc_t0i, lc_t1i, lc_t2i, lc_t3i, lc_tm1i, lc_t6i] at c_14
      refine lv_aload_n hx hb dX8_proof_17 rfl (lv_at hl 0 rfl) ?_
      refine wg_get F hP mo rfl iw_X8 20 (by decide) tb_569 rfl rfl dX8_proof_18 ?_
      refine lv_i2l (v := (nI (st_pb S)).toInt64) hx hb dX8_proof_21 rfl ?_
      refine lv_goto (tgt := 79) hx hb dX8_proof_22 (by decide) ?_
      exact wg_lret F hP hS hr hlk (⟨by unfold op_proof; rw [Int32.toInt_inj.mp (c_14.trans lc_t1i.symm)]; rfl, rfl, rfl⟩) dX8_proof_79
  · simp only [Int32.lt_iff_toInt_lt, Int32.le_iff_toInt_le, ← Int32.toInt_inj, lc_t0i, lc_t1i, lc_t2i, lc_t3i, lc_tm1i, lc_t6i] at c_1
    refine lv_aload_n hx hb dX8_proof_4 rfl (lv_at hl 0 rfl) ?_
    refine wg_get F hP mo rfl iw_X8 19 (by decide) tb_568 rfl rfl dX8_proof_5 ?_
    refine lv_i2l (v := (nI (st_pa S)).toInt64) hx hb dX8_proof_8 rfl ?_
    refine lv_goto (tgt := 79) hx hb dX8_proof_9 (by decide) ?_
    exact wg_lret F hP hS hr hlk (⟨by unfold op_proof; rw [Int32.toInt_inj.mp (c_1.trans lc_t0i.symm)]; rfl, rfl, rfl⟩) dX8_proof_79
set_option maxHeartbeats 4000000 in
set_option maxRecDepth 100000 in
theorem c_X8_compare (l : Launch) (E : wg_E) (A : Nat → Nat) (C : wg_C) (S : lc_S) (a b : Int32) (hM : lm E A C S) (hI : lc_inv S)  : Met l yX8_compare (wg_ws yX8_compare cX8_compare 7 (some .int)) (wg_rm 3 0 0) (wg_Pc E A C [.ref (A 1000), .int a, .int b]) (wg_Qi E (fun r A1 C1 => r = op_compare S a b ∧ A = A1 ∧ C = C1)) 0 0 (wg_A E) := by
  refine wg_met (by decide) (Nat.le_of_ble_eq_true rfl) ?_
  intro p e s m below meth c ls F hr hlk hnm hP hS hl
  have F : wg_F p m c cX8_compare 7 s ([.ref (A 1000), .int a, .int b] : List Value).toArray "LightChecksModel" E := F
  have hx := F.1
  have hb := F.2.1
  have hml := F.2.2.1
  have hown := F.2.2.2.1
  have hts := F.2.2.2.2.1
  have hl : lv_has ls 7 [(0, .ref (A 1000)), (1, .int a), (2, .int b)] := hl
  obtain ⟨mo, ⟨g1, m1, r1⟩, ⟨g3, m3, r3⟩, ⟨g4, m4, r4⟩, ⟨g5, m5, r5⟩, ⟨g6, m6, r6⟩, ⟨g7, m7, r7⟩, ⟨g8, m8, r8⟩, ⟨g9, m9, r9⟩, ⟨g10, m10, r10⟩, ⟨g11, m11, r11⟩, ⟨g12, m12, r12⟩, ⟨g13, m13, r13⟩, ⟨g14, m14, r14⟩, ⟨g15, m15, r15⟩, ⟨g16, m16, r16⟩, ⟨g17, m17, r17⟩, ⟨g18, m18, r18⟩, ⟨g24, m24, r24⟩, ⟨g25, m25, r25⟩, ⟨g26, m26, r26⟩, ⟨g27, m27⟩, ⟨g28, m28, r28⟩⟩ := id hM
  obtain ⟨iok, ⟨itm, itm3a, itm3b⟩, icl, igv, ipa, ipb, ipab⟩ := id hI
  have ins := iok.1
  have inh := iok.2.1
  refine lv_iload_n hx hb dX8_compare_0 rfl (lv_at hl 1 rfl) ?_
  refine wg_ci hS (wg_rS (As := [.int a]) (rest := []) F hP hS (c_X8_isFour l E A C a) ok_X8_isFour tb_702 rfl rfl ⟨Nat.le_of_ble_eq_true rfl, Nat.le_of_ble_eq_true rfl⟩ rfl hl.1 rfl (Nat.le_of_ble_eq_true rfl) dX8_compare_1 ⟨Nat.le_of_ble_eq_true rfl, Nat.le_of_ble_eq_true rfl⟩) (fun r_1 A1 C_1 H locs w_1 hP hS => ?_)
  obtain ⟨w_1, rfl, rfl⟩ := w_1
  rcases hx_i : lc_ix a 4 with _ | i
  · have w2_i : r_1 = 0 := lc_ixr0 w_1 hx_i
    refine lv_if_eq (tgt := 14) hx hb dX8_compare_4 (by decide) (fun c_4 => ?_) (fun c_4 => ?_)
    · refine lv_iconst (v := (-1)) hx hb dX8_compare_14 (by decide) ?_
      exact wg_iret F hP hS hr hlk (⟨by unfold op_compare; first | (rw [hx_i]; done) | (rw [hx_i]; rfl), rfl, rfl⟩) dX8_compare_15
    · exact absurd w2_i c_4
  · have w2_i : r_1 = 1 := lc_ixr1 w_1 hx_i
    obtain ⟨hi, ei, ti⟩ := lc_ix_some hx_i
    refine lv_if_eq (tgt := 14) hx hb dX8_compare_4 (by decide) (fun c_4 => ?_) (fun c_4 => ?_)
    · exact absurd (w2_i.symm.trans c_4) (by decide)
    · refine lv_iload_n hx hb dX8_compare_7 rfl (lv_at hl 2 rfl) ?_
      refine wg_ci hS (wg_rS (As := [.int b]) (rest := []) F hP hS (c_X8_isFour l E A C b) ok_X8_isFour tb_702 rfl rfl ⟨Nat.le_of_ble_eq_true rfl, Nat.le_of_ble_eq_true rfl⟩ rfl hl.1 rfl (Nat.le_of_ble_eq_true rfl) dX8_compare_8 ⟨Nat.le_of_ble_eq_true rfl, Nat.le_of_ble_eq_true rfl⟩) (fun r_8 A1 C_8 H locs w_8 hP hS => ?_)
      obtain ⟨w_8, rfl, rfl⟩ := w_8
      rcases hx_k : lc_ix b 4 with _ | k
      · have w2_k : r_8 = 0 := lc_ixr0 w_8 hx_k
        refine lv_if_ne (tgt := 16) hx hb dX8_compare_11 (by decide) (fun c_11 => ?_) (fun c_11 => ?_)
        · exact absurd w2_k c_11
        · refine lv_iconst (v := (-1)) hx hb dX8_compare_14 (by decide) ?_
          exact wg_iret F hP hS hr hlk (⟨by unfold op_compare; first | (rw [hx_i, hx_k]; done) | (rw [hx_i, hx_k]; rfl), rfl, rfl⟩) dX8_compare_15
      · have w2_k : r_8 = 1 := lc_ixr1 w_8 hx_k
        obtain ⟨hk, ek, tk⟩ := lc_ix_some hx_k
        refine lv_if_ne (tgt := 16) hx hb dX8_compare_11 (by decide) (fun c_11 => ?_) (fun c_11 => ?_)
        · obtain ⟨hg1, hg2, hg3⟩ := igv i hi
          obtain ⟨hv1, hv2, hv3⟩ := igv k hk
          refine lv_bipush (v := (-2)) hx hb dX8_compare_16 (by decide) ?_
          refine lv_istore_n (lv' := [(3, .int ((-2))), (0, .ref (A 1000)), (1, .int a), (2, .int b)]) hx hb dX8_compare_18 rfl hl (by decide) rfl (fun ls hl => ?_)
          refine lv_bipush (v := 60) hx hb dX8_compare_19 (by decide) ?_
          refine lv_iload_n hx hb dX8_compare_21 rfl (lv_at hl 2 rfl) ?_
          refine wg_topi (y := nI i) ei ?_
          refine lv_imul hx hb dX8_compare_22 ?_
          refine wg_topi (y := nI (60 * i)) (by rw [show (60 : Int32) = nI 60 from rfl, pk_mul]) ?_
          refine lv_istore (lv' := [(4, .int (nI (60 * i))), (3, .int ((-2))), (0, .ref (A 1000)), (1, .int a), (2, .int b)]) hx hb dX8_compare_23 hl (by decide) rfl (fun ls hl => ?_)
          have loop_25 : ∀ (fuel : Nat) (j : Nat) (y3 : Int32) (y4 : Int32), st_gn S i - j < fuel → (j ≤ st_gn S i) → (y3 = lc_I (lc_lu (st_B S) (st_gg S i) (st_gn S k) (st_gg S k) j)) → (y4 = nI (60 * i + j)) → ∀ (H : Heap) (locs : List Loc) (ls : Array Slot), wg_P E A C H → va_S (wg_A E) s.heap H locs → lv_has ls 7 [(0, .ref (A 1000)), (1, .int a), (2, .int b), (3, .int y3), (4, .int y4)] → W p l e (wg_rm 3 0 0) s m ([.ref (A 1000), .int a, .int b] : List Value).toArray below meth c H locs 0 0 (MQ below (wg_Qi E (fun r A1 C1 => r = op_compare S a b ∧ A = A1 ∧ C = C1)) ([.ref (A 1000), .int a, .int b] : List Value).toArray s 0 0 (wg_A E)) (F0 m 25 ls []) := by
            intro fuel
            induction fuel with
            | zero => intro j y3 y4 hm; exact absurd hm (Nat.not_lt_zero _)
            | succ fuel ih_loop_25 =>
              intro j y3 y4 hm_loop_25 hj ey3 ey4 H locs ls hP hS hl
              subst ey4
              refine lv_iload hx hb dX8_compare_25 (lv_at hl 4 rfl) ?_
              refine lv_bipush (v := 60) hx hb dX8_compare_27 (by decide) ?_
              refine lv_iload_n hx hb dX8_compare_29 rfl (lv_at hl 1 rfl) ?_
              refine wg_topi (y := nI i) ei ?_
              refine lv_imul hx hb dX8_compare_30 ?_
              refine wg_topi (y := nI (60 * i)) (by rw [show (60 : Int32) = nI 60 from rfl, pk_mul]) ?_
              refine lv_aload_n hx hb dX8_compare_31 rfl (lv_at hl 0 rfl) ?_
              refine wg_get F hP mo rfl iw_X8 15 (by decide) tb_564 rfl rfl dX8_compare_32 ?_
              refine lv_iload_n hx hb dX8_compare_35 rfl (lv_at hl 1 rfl) ?_
              refine wg_topi (y := nI i) ei ?_
              refine wg_ild F hP m15 (vp_in_nI (by omega) (by decide)) dX8_compare_36 ?_
              refine wg_topi (y := nI (st_gn S i)) (by rw [nI_clamp (by omega)]; exact r15 i hi) ?_
              refine lv_iadd hx hb dX8_compare_37 ?_
              refine wg_topi (y := nI (60 * i + st_gn S i)) (nI_add _ _) ?_
              refine lv_icmp_ge (tgt := 114) hx hb dX8_compare_38 (by decide) (fun c_38 => ?_) (fun c_38 => ?_)
              · rw [nI_leI (by omega) (by omega)] at c_38
                have hjn : j = st_gn S i := by omega
                refine lv_iload_n hx hb dX8_compare_114 rfl (lv_at hl 3 rfl) ?_
                exact wg_iret F hP hS hr hlk (⟨by rw [hjn] at ey3; unfold op_compare; rw [hx_i, hx_k]; exact ey3, rfl, rfl⟩) dX8_compare_115
              · rw [nI_leI (by omega) (by omega)] at c_38
                have hjn : j < st_gn S i := by omega
                have hgj := hg2 j hjn
                have hq := (iok.2.2.2 _ hgj).1
                have hle := lc_lu_le (B := st_B S) (g := st_gg S i) (n2 := st_gn S k) (g2 := st_gg S k) (i := j) (fun z hz => (iok.2.2.2 _ (hg2 z (by omega))).1)
                refine lv_aload_n hx hb dX8_compare_41 rfl (lv_at hl 0 rfl) ?_
                refine wg_get F hP mo rfl iw_X8 16 (by decide) tb_565 rfl rfl dX8_compare_42 ?_
                refine lv_iload hx hb dX8_compare_45 (lv_at hl 4 rfl) ?_
                refine wg_ild F hP m16 (vp_in_nI (by omega) (by decide)) dX8_compare_47 ?_
                refine wg_topi (y := nI (st_gg S i j)) (by rw [nI_clamp (by omega)]; exact r16 i hi j hjn) ?_
                refine lv_istore (lv' := [(5, .int (nI (st_gg S i j))), (0, .ref (A 1000)), (1, .int a), (2, .int b), (3, .int y3), (4, .int (nI (60 * i + j)))]) hx hb dX8_compare_48 hl (by decide) rfl (fun ls hl => ?_)
                refine lv_aload_n hx hb dX8_compare_50 rfl (lv_at hl 1 rfl) ?_
                refine lv_iload_n hx hb dX8_compare_51 rfl (lv_at hl 3 rfl) ?_
                refine wg_topi (y := nI k) ek ?_
                refine lv_aload_n hx hb dX8_compare_52 rfl (lv_at hl 1 rfl) ?_
                refine wg_get F hP mo rfl iw_X8 3 (by decide) tb_552 rfl rfl dX8_compare_53 ?_
                refine lv_iload hx hb dX8_compare_56 (lv_at hl 0 rfl) ?_
                refine wg_ild F hP m3 (vp_in_nI (by omega) (by decide)) dX8_compare_58 ?_
                refine wg_topi (y := nI (lc_hh (st_B S) (st_gg S i j))) (by rw [nI_clamp (by omega)]; exact r3 _ hgj) ?_
                refine wg_ci hS (wg_rV (As := [.int (nI k), .int (nI (lc_hh (st_B S) (st_gg S i j)))]) (rest := []) F hP hS (c_X8_headAt l E A C S k (lc_hh (st_B S) (st_gg S i j)) hM hI hk (by omega)) ok_X8_headAt tb_737 rfl rfl ⟨Nat.le_of_ble_eq_true rfl, Nat.le_of_ble_eq_true rfl⟩ mo rfl rfl rfl hl.1 rfl (Nat.le_of_ble_eq_true rfl) dX8_compare_59 ⟨Nat.le_of_ble_eq_true rfl, Nat.le_of_ble_eq_true rfl⟩) (fun r_59 A1 C_59 H locs w_59 hP hS => ?_)
                obtain ⟨w_59, rfl, rfl⟩ := w_59
                rcases hpl : lc_pl (fun z => lc_hh (st_B S) (st_gg S k z)) (lc_hh (st_B S) (st_gg S i j)) (st_gn S k) with _ | q
                · refine wg_topi (y := (-2)) (by rw [w_59]; unfold op_hat; rw [hpl]; rfl) ?_
                  refine lv_istore (lv' := [(6, .int ((-2))), (5, .int (nI (st_gg S i j))), (0, .ref (A 1000)), (1, .int a), (2, .int b), (3, .int y3), (4, .int (nI (60 * i + j)))]) hx hb dX8_compare_62 hl (by decide) rfl (fun ls hl => ?_)
                  refine lv_iload hx hb dX8_compare_64 (lv_at hl 0 rfl) ?_
                  refine lv_if_lt (tgt := 108) hx hb dX8_compare_66 (by decide) (fun c_66 => ?_) (fun c_66 => ?_)
                  · have hnew : y3 = lc_I (lc_lu (st_B S) (st_gg S i) (st_gn S k) (st_gg S k) (j + 1)) := by rw [ey3]; simp only [lc_lu]; rw [if_neg (by rw [lc_unl_none hpl]; decide)]
                    obtain ⟨x_108, ex_108⟩ : ∃ y : Int32, y = nI (60 * i + j) + 1 := ⟨_, rfl⟩
                    refine lv_iinc (v := x_108) (lv' := [(4, .int x_108), (6, .int ((-2))), (5, .int (nI (st_gg S i j))), (0, .ref (A 1000)), (1, .int a), (2, .int b), (3, .int y3)]) hx hb dX8_compare_108 hl (k := 6) rfl (by rw [ex_108]; rfl) (by decide) rfl (fun ls hl => ?_)
                    refine lv_goto (tgt := 25) hx hb dX8_compare_111 (by decide) ?_
                    exact ih_loop_25 (j + 1) y3 x_108 (by omega) (by omega) hnew (by rw [ex_108, nI_1]; rfl) _ _ _ hP hS (lv_sub hl [3, 4, 5, 6, 0] rfl)
                  · exact absurd (by decide) c_66
                · have hgq := hv2 q (lc_pl_of hpl).1
                  refine wg_topi (y := nI (st_gg S k q)) (by rw [w_59]; unfold op_hat; rw [hpl]; rfl) ?_
                  refine lv_istore (lv' := [(6, .int (nI (st_gg S k q))), (5, .int (nI (st_gg S i j))), (0, .ref (A 1000)), (1, .int a), (2, .int b), (3, .int y3), (4, .int (nI (60 * i + j)))]) hx hb dX8_compare_62 hl (by decide) rfl (fun ls hl => ?_)
                  refine lv_iload hx hb dX8_compare_64 (lv_at hl 0 rfl) ?_
                  refine lv_if_lt (tgt := 108) hx hb dX8_compare_66 (by decide) (fun c_66 => ?_) (fun c_66 => ?_)
                  · exact absurd c_66 (nI_pos (by omega))
                  · refine lv_aload_n hx hb dX8_compare_69 rfl (lv_at hl 2 rfl) ?_
                    refine lv_iload hx hb dX8_compare_70 (lv_at hl 0 rfl) ?_
                    refine wg_cl_ hS (wg_rV (As := [.int (nI (st_gg S k q))]) (rest := []) F hP hS (c_X8_digestOf l E A C S (st_gg S k q) hM hI hgq) ok_X8_digestOf tb_674 rfl rfl ⟨Nat.le_of_ble_eq_true rfl, Nat.le_of_ble_eq_true rfl⟩ mo rfl rfl rfl hl.1 rfl (Nat.le_of_ble_eq_true rfl) dX8_compare_72 ⟨Nat.le_of_ble_eq_true rfl, Nat.le_of_ble_eq_true rfl⟩) (fun r_72 A1 C_72 H locs w_72 hP hS => ?_)
                    obtain ⟨w_72, rfl, rfl⟩ := w_72
                    refine lv_aload_n hx hb dX8_compare_75 rfl (lv_at hl 2 rfl) ?_
                    refine lv_iload hx hb dX8_compare_76 (lv_at hl 1 rfl) ?_
                    refine wg_cl_ hS (wg_rV (As := [.int (nI (st_gg S i j))]) (rest := [.long r_72]) F hP hS (c_X8_digestOf l E A C S (st_gg S i j) hM hI hgj) ok_X8_digestOf tb_674 rfl rfl ⟨Nat.le_of_ble_eq_true rfl, Nat.le_of_ble_eq_true rfl⟩ mo rfl rfl rfl hl.1 rfl (Nat.le_of_ble_eq_true rfl) dX8_compare_78 ⟨Nat.le_of_ble_eq_true rfl, Nat.le_of_ble_eq_true rfl⟩) (fun r_78 A1 C_78 H locs w_78 hP hS => ?_)
                    obtain ⟨w_78, rfl, rfl⟩ := w_78
                    refine W.lcmp hx hb dX8_compare_81 ?_
                    refine lv_if_eq (tgt := 108) hx hb dX8_compare_82 (by decide) (fun c_82 => ?_) (fun c_82 => ?_)
                    · rw [lg_cmp_eq, w_72, w_78] at c_82
                      have hnew : y3 = lc_I (lc_lu (st_B S) (st_gg S i) (st_gn S k) (st_gg S k) (j + 1)) := by rw [ey3]; simp only [lc_lu]; rw [if_neg (by rw [lc_unl_some hpl]; simpa using c_82)]
                      obtain ⟨x_108, ex_108⟩ : ∃ y : Int32, y = nI (60 * i + j) + 1 := ⟨_, rfl⟩
                      refine lv_iinc (v := x_108) (lv' := [(4, .int x_108), (6, .int (nI (st_gg S k q))), (5, .int (nI (st_gg S i j))), (0, .ref (A 1000)), (1, .int a), (2, .int b), (3, .int y3)]) hx hb dX8_compare_108 hl (k := 6) rfl (by rw [ex_108]; rfl) (by decide) rfl (fun ls hl => ?_)
                      refine lv_goto (tgt := 25) hx hb dX8_compare_111 (by decide) ?_
                      exact ih_loop_25 (j + 1) y3 x_108 (by omega) (by omega) hnew (by rw [ex_108, nI_1]; rfl) _ _ _ hP hS (lv_sub hl [3, 4, 5, 6, 0] rfl)
                    · rw [lg_cmp_eq, w_72, w_78] at c_82
                      have hu : lc_unl (st_B S) (st_gn S k) (st_gg S k) (st_gg S i j) = true := by rw [lc_unl_some hpl]; simpa using c_82
                      rcases hlu : lc_lu (st_B S) (st_gg S i) (st_gn S k) (st_gg S k) j with _ | b9
                      · have hy3 : y3 = -2 := by rw [ey3, hlu]; rfl
                        have hnew : nI (lc_hh (st_B S) (st_gg S i j)) = lc_I (lc_lu (st_B S) (st_gg S i) (st_gn S k) (st_gg S k) (j + 1)) := by simp only [lc_lu]; rw [if_pos hu, hlu]; rfl
                        refine lv_iload_n hx hb dX8_compare_85 rfl (lv_at hl 5 rfl) ?_
                        refine lv_if_lt (tgt := 100) hx hb dX8_compare_86 (by decide) (fun c_86 => ?_) (fun c_86 => ?_)
                        · refine lv_aload_n hx hb dX8_compare_100 rfl (lv_at hl 2 rfl) ?_
                          refine wg_get F hP mo rfl iw_X8 3 (by decide) tb_552 rfl rfl dX8_compare_101 ?_
                          refine lv_iload hx hb dX8_compare_104 (lv_at hl 1 rfl) ?_
                          refine wg_ild F hP m3 (vp_in_nI (by omega) (by decide)) dX8_compare_106 ?_
                          refine wg_topi (y := nI (lc_hh (st_B S) (st_gg S i j))) (by rw [nI_clamp (by omega)]; exact r3 _ hgj) ?_
                          refine lv_istore_n (lv' := [(3, .int (nI (lc_hh (st_B S) (st_gg S i j)))), (6, .int (nI (st_gg S k q))), (5, .int (nI (st_gg S i j))), (0, .ref (A 1000)), (1, .int a), (2, .int b), (4, .int (nI (60 * i + j)))]) hx hb dX8_compare_107 rfl hl (by decide) rfl (fun ls hl => ?_)
                          obtain ⟨x_108, ex_108⟩ : ∃ y : Int32, y = nI (60 * i + j) + 1 := ⟨_, rfl⟩
                          refine lv_iinc (v := x_108) (lv' := [(4, .int x_108), (3, .int (nI (lc_hh (st_B S) (st_gg S i j)))), (6, .int (nI (st_gg S k q))), (5, .int (nI (st_gg S i j))), (0, .ref (A 1000)), (1, .int a), (2, .int b)]) hx hb dX8_compare_108 hl (k := 6) rfl (by rw [ex_108]; rfl) (by decide) rfl (fun ls hl => ?_)
                          refine lv_goto (tgt := 25) hx hb dX8_compare_111 (by decide) ?_
                          exact ih_loop_25 (j + 1) ((nI (lc_hh (st_B S) (st_gg S i j)))) x_108 (by omega) (by omega) hnew (by rw [ex_108, nI_1]; rfl) _ _ _ hP hS (lv_sub hl [4, 5, 6, 1, 0] rfl)
                        · exact absurd (by rw [hy3]; decide) c_86
                      · have hb5 := hle b9 hlu
                        have hy3 : y3 = nI b9 := by rw [ey3, hlu]; rfl
                        refine lv_iload_n hx hb dX8_compare_85 rfl (lv_at hl 5 rfl) ?_
                        refine lv_if_lt (tgt := 100) hx hb dX8_compare_86 (by decide) (fun c_86 => ?_) (fun c_86 => ?_)
                        · exact absurd c_86 (by rw [hy3]; exact nI_pos (by omega))
                        · refine lv_aload_n hx hb dX8_compare_89 rfl (lv_at hl 2 rfl) ?_
                          refine wg_get F hP mo rfl iw_X8 3 (by decide) tb_552 rfl rfl dX8_compare_90 ?_
                          refine lv_iload hx hb dX8_compare_93 (lv_at hl 1 rfl) ?_
                          refine wg_ild F hP m3 (vp_in_nI (by omega) (by decide)) dX8_compare_95 ?_
                          refine wg_topi (y := nI (lc_hh (st_B S) (st_gg S i j))) (by rw [nI_clamp (by omega)]; exact r3 _ hgj) ?_
                          refine lv_iload_n hx hb dX8_compare_96 rfl (lv_at hl 5 rfl) ?_
                          refine lv_icmp_ge (tgt := 108) hx hb dX8_compare_97 (by decide) (fun c_97 => ?_) (fun c_97 => ?_)
                          · have hnew : y3 = lc_I (lc_lu (st_B S) (st_gg S i) (st_gn S k) (st_gg S k) (j + 1)) := by rw [hy3, nI_leI (by omega) (by omega)] at c_97; rw [hy3]; simp only [lc_lu]; rw [if_pos hu, hlu]; simp only []; rw [if_neg (by omega)]; rfl
                            obtain ⟨x_108, ex_108⟩ : ∃ y : Int32, y = nI (60 * i + j) + 1 := ⟨_, rfl⟩
                            refine lv_iinc (v := x_108) (lv' := [(4, .int x_108), (6, .int (nI (st_gg S k q))), (5, .int (nI (st_gg S i j))), (0, .ref (A 1000)), (1, .int a), (2, .int b), (3, .int y3)]) hx hb dX8_compare_108 hl (k := 6) rfl (by rw [ex_108]; rfl) (by decide) rfl (fun ls hl => ?_)
                            refine lv_goto (tgt := 25) hx hb dX8_compare_111 (by decide) ?_
                            exact ih_loop_25 (j + 1) y3 x_108 (by omega) (by omega) hnew (by rw [ex_108, nI_1]; rfl) _ _ _ hP hS (lv_sub hl [3, 4, 5, 6, 0] rfl)
                          · have hnew : nI (lc_hh (st_B S) (st_gg S i j)) = lc_I (lc_lu (st_B S) (st_gg S i) (st_gn S k) (st_gg S k) (j + 1)) := by rw [hy3, nI_leI (by omega) (by omega)] at c_97; simp only [lc_lu]; rw [if_pos hu, hlu]; simp only []; rw [if_pos (by omega)]; rfl
                            refine lv_aload_n hx hb dX8_compare_100 rfl (lv_at hl 2 rfl) ?_
                            refine wg_get F hP mo rfl iw_X8 3 (by decide) tb_552 rfl rfl dX8_compare_101 ?_
                            refine lv_iload hx hb dX8_compare_104 (lv_at hl 1 rfl) ?_
                            refine wg_ild F hP m3 (vp_in_nI (by omega) (by decide)) dX8_compare_106 ?_
                            refine wg_topi (y := nI (lc_hh (st_B S) (st_gg S i j))) (by rw [nI_clamp (by omega)]; exact r3 _ hgj) ?_
                            refine lv_istore_n (lv' := [(3, .int (nI (lc_hh (st_B S) (st_gg S i j)))), (6, .int (nI (st_gg S k q))), (5, .int (nI (st_gg S i j))), (0, .ref (A 1000)), (1, .int a), (2, .int b), (4, .int (nI (60 * i + j)))]) hx hb dX8_compare_107 rfl hl (by decide) rfl (fun ls hl => ?_)
                            obtain ⟨x_108, ex_108⟩ : ∃ y : Int32, y = nI (60 * i + j) + 1 := ⟨_, rfl⟩
                            refine lv_iinc (v := x_108) (lv' := [(4, .int x_108), (3, .int (nI (lc_hh (st_B S) (st_gg S i j)))), (6, .int (nI (st_gg S k q))), (5, .int (nI (st_gg S i j))), (0, .ref (A 1000)), (1, .int a), (2, .int b)]) hx hb dX8_compare_108 hl (k := 6) rfl (by rw [ex_108]; rfl) (by decide) rfl (fun ls hl => ?_)
                            refine lv_goto (tgt := 25) hx hb dX8_compare_111 (by decide) ?_
                            exact ih_loop_25 (j + 1) ((nI (lc_hh (st_B S) (st_gg S i j)))) x_108 (by omega) (by omega) hnew (by rw [ex_108, nI_1]; rfl) _ _ _ hP hS (lv_sub hl [4, 5, 6, 1, 0] rfl)
          exact loop_25 _ 0 (((-2))) ((nI (60 * i))) (Nat.lt_succ_self _) (by omega) rfl rfl _ _ _ hP hS (lv_sub hl [2, 3, 4, 1, 0] rfl)
        · exact absurd (w2_k.symm.trans c_11) (by decide)
set_option maxHeartbeats 4000000 in
set_option maxRecDepth 100000 in
theorem c_X8_blame (l : Launch) (E : wg_E) (A : Nat → Nat) (C : wg_C) (S : lc_S) (c0 a b : Int32) (hM : lm E A C S) (hI : lc_inv S)  : Met l yX8_blame (wg_ws yX8_blame cX8_blame 8 (some .int)) (wg_rm 4 0 0) (wg_Pc E A C [.ref (A 1000), .int c0, .int a, .int b]) (wg_Qi E (fun r A1 C1 => r = op_blame S c0 a b ∧ A = A1 ∧ C = C1)) 0 0 (wg_A E) := by
  refine wg_met (by decide) (Nat.le_of_ble_eq_true rfl) ?_
  intro p e s m below meth c ls F hr hlk hnm hP hS hl
  have F : wg_F p m c cX8_blame 8 s ([.ref (A 1000), .int c0, .int a, .int b] : List Value).toArray "LightChecksModel" E := F
  have hx := F.1
  have hb := F.2.1
  have hml := F.2.2.1
  have hown := F.2.2.2.1
  have hts := F.2.2.2.2.1
  have hl : lv_has ls 8 [(0, .ref (A 1000)), (1, .int c0), (2, .int a), (3, .int b)] := hl
  obtain ⟨mo, ⟨g1, m1, r1⟩, ⟨g3, m3, r3⟩, ⟨g4, m4, r4⟩, ⟨g5, m5, r5⟩, ⟨g6, m6, r6⟩, ⟨g7, m7, r7⟩, ⟨g8, m8, r8⟩, ⟨g9, m9, r9⟩, ⟨g10, m10, r10⟩, ⟨g11, m11, r11⟩, ⟨g12, m12, r12⟩, ⟨g13, m13, r13⟩, ⟨g14, m14, r14⟩, ⟨g15, m15, r15⟩, ⟨g16, m16, r16⟩, ⟨g17, m17, r17⟩, ⟨g18, m18, r18⟩, ⟨g24, m24, r24⟩, ⟨g25, m25, r25⟩, ⟨g26, m26, r26⟩, ⟨g27, m27⟩, ⟨g28, m28, r28⟩⟩ := id hM
  obtain ⟨iok, ⟨itm, itm3a, itm3b⟩, icl, igv, ipa, ipb, ipab⟩ := id hI
  have ins := iok.1
  have inh := iok.2.1
  refine lv_iload_n hx hb dX8_blame_0 rfl (lv_at hl 1 rfl) ?_
  refine wg_ci hS (wg_rS (As := [.int c0]) (rest := []) F hP hS (c_X8_isFour l E A C c0) ok_X8_isFour tb_702 rfl rfl ⟨Nat.le_of_ble_eq_true rfl, Nat.le_of_ble_eq_true rfl⟩ rfl hl.1 rfl (Nat.le_of_ble_eq_true rfl) dX8_blame_1 ⟨Nat.le_of_ble_eq_true rfl, Nat.le_of_ble_eq_true rfl⟩) (fun r_1 A1 C_1 H locs w_1 hP hS => ?_)
  obtain ⟨w_1, rfl, rfl⟩ := w_1
  rcases hx_q0 : lc_ix c0 4 with _ | q0
  · have w2_q0 : r_1 = 0 := lc_ixr0 w_1 hx_q0
    refine lv_if_eq (tgt := 21) hx hb dX8_blame_4 (by decide) (fun c_4 => ?_) (fun c_4 => ?_)
    · refine lv_iconst (v := (-1)) hx hb dX8_blame_21 (by decide) ?_
      exact wg_iret F hP hS hr hlk (⟨by unfold op_blame; first | (rw [hx_q0]; done) | (rw [hx_q0]; rfl), rfl, rfl⟩) dX8_blame_22
    · exact absurd w2_q0 c_4
  · have w2_q0 : r_1 = 1 := lc_ixr1 w_1 hx_q0
    obtain ⟨hq0, eq0, tq0⟩ := lc_ix_some hx_q0
    refine lv_if_eq (tgt := 21) hx hb dX8_blame_4 (by decide) (fun c_4 => ?_) (fun c_4 => ?_)
    · exact absurd (w2_q0.symm.trans c_4) (by decide)
    · refine lv_iload_n hx hb dX8_blame_7 rfl (lv_at hl 2 rfl) ?_
      refine wg_ci hS (wg_rS (As := [.int a]) (rest := []) F hP hS (c_X8_isFour l E A C a) ok_X8_isFour tb_702 rfl rfl ⟨Nat.le_of_ble_eq_true rfl, Nat.le_of_ble_eq_true rfl⟩ rfl hl.1 rfl (Nat.le_of_ble_eq_true rfl) dX8_blame_8 ⟨Nat.le_of_ble_eq_true rfl, Nat.le_of_ble_eq_true rfl⟩) (fun r_8 A1 C_8 H locs w_8 hP hS => ?_)
      obtain ⟨w_8, rfl, rfl⟩ := w_8
      rcases hx_i : lc_ix a 4 with _ | i
      · have w2_i : r_8 = 0 := lc_ixr0 w_8 hx_i
        refine lv_if_eq (tgt := 21) hx hb dX8_blame_11 (by decide) (fun c_11 => ?_) (fun c_11 => ?_)
        · refine lv_iconst (v := (-1)) hx hb dX8_blame_21 (by decide) ?_
          exact wg_iret F hP hS hr hlk (⟨by unfold op_blame; first | (rw [hx_q0, hx_i]; done) | (rw [hx_q0, hx_i]; rfl), rfl, rfl⟩) dX8_blame_22
        · exact absurd w2_i c_11
      · have w2_i : r_8 = 1 := lc_ixr1 w_8 hx_i
        obtain ⟨hi, ei, ti⟩ := lc_ix_some hx_i
        refine lv_if_eq (tgt := 21) hx hb dX8_blame_11 (by decide) (fun c_11 => ?_) (fun c_11 => ?_)
        · exact absurd (w2_i.symm.trans c_11) (by decide)
        · refine lv_iload_n hx hb dX8_blame_14 rfl (lv_at hl 3 rfl) ?_
          refine wg_ci hS (wg_rS (As := [.int b]) (rest := []) F hP hS (c_X8_isFour l E A C b) ok_X8_isFour tb_702 rfl rfl ⟨Nat.le_of_ble_eq_true rfl, Nat.le_of_ble_eq_true rfl⟩ rfl hl.1 rfl (Nat.le_of_ble_eq_true rfl) dX8_blame_15 ⟨Nat.le_of_ble_eq_true rfl, Nat.le_of_ble_eq_true rfl⟩) (fun r_15 A1 C_15 H locs w_15 hP hS => ?_)
          obtain ⟨w_15, rfl, rfl⟩ := w_15
          rcases hx_k : lc_ix b 4 with _ | k
          · have w2_k : r_15 = 0 := lc_ixr0 w_15 hx_k
            refine lv_if_ne (tgt := 23) hx hb dX8_blame_18 (by decide) (fun c_18 => ?_) (fun c_18 => ?_)
            · exact absurd w2_k c_18
            · refine lv_iconst (v := (-1)) hx hb dX8_blame_21 (by decide) ?_
              exact wg_iret F hP hS hr hlk (⟨by unfold op_blame; first | (rw [hx_q0, hx_i, hx_k]; done) | (rw [hx_q0, hx_i, hx_k]; rfl), rfl, rfl⟩) dX8_blame_22
          · have w2_k : r_15 = 1 := lc_ixr1 w_15 hx_k
            obtain ⟨hk, ek, tk⟩ := lc_ix_some hx_k
            refine lv_if_ne (tgt := 23) hx hb dX8_blame_18 (by decide) (fun c_18 => ?_) (fun c_18 => ?_)
            · refine lv_aload_n hx hb dX8_blame_23 rfl (lv_at hl 0 rfl) ?_
              refine lv_iload_n hx hb dX8_blame_24 rfl (lv_at hl 2 rfl) ?_
              refine lv_iload_n hx hb dX8_blame_25 rfl (lv_at hl 3 rfl) ?_
              refine wg_ci hS (wg_rV (As := [.int a, .int b]) (rest := []) F hP hS (c_X8_compare l E A C S a b hM hI) ok_X8_compare tb_757 rfl rfl ⟨Nat.le_of_ble_eq_true rfl, Nat.le_of_ble_eq_true rfl⟩ mo rfl rfl rfl hl.1 rfl (Nat.le_of_ble_eq_true rfl) dX8_blame_26 ⟨Nat.le_of_ble_eq_true rfl, Nat.le_of_ble_eq_true rfl⟩) (fun r_26 A1 C_26 H locs w_26 hP hS => ?_)
              obtain ⟨w_26, rfl, rfl⟩ := w_26
              have w3 : r_26 = lc_I (op_cmp S i k) := by rw [w_26]; unfold op_compare; rw [hx_i, hx_k]
              obtain ⟨hg1, hg2, hg3⟩ := igv i hi
              obtain ⟨hc1, hc2⟩ := icl q0 hq0
              rcases hcm : op_cmp S i k with _ | x
              · refine wg_topi (y := (-2)) (by rw [w3, hcm]; rfl) ?_
                refine lv_istore (lv' := [(4, .int ((-2))), (0, .ref (A 1000)), (1, .int c0), (2, .int a), (3, .int b)]) hx hb dX8_blame_29 hl (by decide) rfl (fun ls hl => ?_)
                refine lv_bipush (v := (-2)) hx hb dX8_blame_31 (by decide) ?_
                refine lv_istore (lv' := [(5, .int ((-2))), (4, .int ((-2))), (0, .ref (A 1000)), (1, .int c0), (2, .int a), (3, .int b)]) hx hb dX8_blame_33 hl (by decide) rfl (fun ls hl => ?_)
                refine lv_iconst (v := 0) hx hb dX8_blame_35 (by decide) ?_
                refine lv_istore (lv' := [(6, .int 0), (5, .int ((-2))), (4, .int ((-2))), (0, .ref (A 1000)), (1, .int c0), (2, .int a), (3, .int b)]) hx hb dX8_blame_36 hl (by decide) rfl (fun ls hl => ?_)
                have loop_38 : ∀ (fuel : Nat) (j : Nat) (y5 : Int32) (y6 : Int32), st_cn S q0 - j < fuel → (j ≤ st_cn S q0) → (y5 = -2) → (y6 = nI j) → ∀ (H : Heap) (locs : List Loc) (ls : Array Slot), wg_P E A C H → va_S (wg_A E) s.heap H locs → lv_has ls 8 [(0, .ref (A 1000)), (1, .int c0), (2, .int a), (3, .int b), (4, .int ((-2))), (5, .int y5), (6, .int y6)] → W p l e (wg_rm 4 0 0) s m ([.ref (A 1000), .int c0, .int a, .int b] : List Value).toArray below meth c H locs 0 0 (MQ below (wg_Qi E (fun r A1 C1 => r = op_blame S c0 a b ∧ A = A1 ∧ C = C1)) ([.ref (A 1000), .int c0, .int a, .int b] : List Value).toArray s 0 0 (wg_A E)) (F0 m 38 ls []) := by
                  intro fuel
                  induction fuel with
                  | zero => intro j y5 y6 hm; exact absurd hm (Nat.not_lt_zero _)
                  | succ fuel ih_loop_38 =>
                    intro j y5 y6 hm_loop_38 hj ey5 ey6 H locs ls hP hS hl
                    subst ey6
                    refine lv_iload hx hb dX8_blame_38 (lv_at hl 6 rfl) ?_
                    refine lv_aload_n hx hb dX8_blame_40 rfl (lv_at hl 0 rfl) ?_
                    refine wg_get F hP mo rfl iw_X8 10 (by decide) tb_559 rfl rfl dX8_blame_41 ?_
                    refine lv_iload_n hx hb dX8_blame_44 rfl (lv_at hl 1 rfl) ?_
                    refine wg_topi (y := nI q0) eq0 ?_
                    refine wg_ild F hP m10 (vp_in_nI (by omega) (by decide)) dX8_blame_45 ?_
                    refine wg_topi (y := nI (st_cn S q0)) (by rw [nI_clamp (by omega)]; exact r10 q0 hq0) ?_
                    refine lv_icmp_ge (tgt := 90) hx hb dX8_blame_46 (by decide) (fun c_46 => ?_) (fun c_46 => ?_)
                    · rw [nI_leI (by omega) (by omega)] at c_46
                      have hjn : j = st_cn S q0 := by omega
                      refine lv_iload hx hb dX8_blame_90 (lv_at hl 4 rfl) ?_
                      refine lv_if_lt (tgt := 100) hx hb dX8_blame_92 (by decide) (fun c_92 => ?_) (fun c_92 => ?_)
                      · refine lv_bipush (v := (-2)) hx hb dX8_blame_100 (by decide) ?_
                        exact wg_iret F hP hS hr hlk (⟨by unfold op_blame; rw [hx_q0, hx_i, hx_k]; simp only []; rw [hcm], rfl, rfl⟩) dX8_blame_102
                      · exact absurd (by decide) c_92
                    · rw [nI_leI (by omega) (by omega)] at c_46
                      have hjn : j < st_cn S q0 := by omega
                      have hgj := hc2 j hjn
                      have hqj := (iok.2.2.2 _ hgj).1
                      refine lv_aload_n hx hb dX8_blame_49 rfl (lv_at hl 0 rfl) ?_
                      refine wg_get F hP mo rfl iw_X8 11 (by decide) tb_560 rfl rfl dX8_blame_50 ?_
                      refine lv_bipush (v := 11) hx hb dX8_blame_53 (by decide) ?_
                      refine lv_iload_n hx hb dX8_blame_55 rfl (lv_at hl 1 rfl) ?_
                      refine wg_topi (y := nI q0) eq0 ?_
                      refine lv_imul hx hb dX8_blame_56 ?_
                      refine lv_iload hx hb dX8_blame_57 (lv_at hl 6 rfl) ?_
                      refine lv_iadd hx hb dX8_blame_59 ?_
                      refine wg_topi (y := nI (11 * q0 + j)) (by rw [show (11 : Int32) = nI 11 from rfl, pk_mul, nI_add]) ?_
                      refine wg_ild F hP m11 (vp_in_nI (by omega) (by decide)) dX8_blame_60 ?_
                      refine wg_topi (y := nI (st_cg S q0 j)) (by rw [nI_clamp (by omega)]; exact r11 q0 hq0 j hjn) ?_
                      refine lv_istore (lv' := [(7, .int (nI (st_cg S q0 j))), (0, .ref (A 1000)), (1, .int c0), (2, .int a), (3, .int b), (4, .int ((-2))), (5, .int y5), (6, .int (nI j))]) hx hb dX8_blame_61 hl (by decide) rfl (fun ls hl => ?_)
                      refine lv_aload_n hx hb dX8_blame_63 rfl (lv_at hl 1 rfl) ?_
                      refine wg_get F hP mo rfl iw_X8 3 (by decide) tb_552 rfl rfl dX8_blame_64 ?_
                      refine lv_iload hx hb dX8_blame_67 (lv_at hl 0 rfl) ?_
                      refine wg_ild F hP m3 (vp_in_nI (by omega) (by decide)) dX8_blame_69 ?_
                      refine wg_topi (y := nI (lc_hh (st_B S) (st_cg S q0 j))) (by rw [nI_clamp (by omega)]; exact r3 _ hgj) ?_
                      refine lv_iload hx hb dX8_blame_70 (lv_at hl 5 rfl) ?_
                      refine lv_icmp_ge (tgt := 80) hx hb dX8_blame_72 (by decide) (fun c_72 => ?_) (fun c_72 => ?_)
                      · refine lv_iload hx hb dX8_blame_80 (lv_at hl 6 rfl) ?_
                        refine lv_istore (lv' := [(5, .int y5), (7, .int (nI (st_cg S q0 j))), (0, .ref (A 1000)), (1, .int c0), (2, .int a), (3, .int b), (4, .int ((-2))), (6, .int (nI j))]) hx hb dX8_blame_82 hl (by decide) rfl (fun ls hl => ?_)
                        obtain ⟨x_84, ex_84⟩ : ∃ y : Int32, y = nI j + 1 := ⟨_, rfl⟩
                        refine lv_iinc (v := x_84) (lv' := [(6, .int x_84), (5, .int y5), (7, .int (nI (st_cg S q0 j))), (0, .ref (A 1000)), (1, .int c0), (2, .int a), (3, .int b), (4, .int ((-2)))]) hx hb dX8_blame_84 hl (k := 7) rfl (by rw [ex_84]; rfl) (by decide) rfl (fun ls hl => ?_)
                        refine lv_goto (tgt := 38) hx hb dX8_blame_87 (by decide) ?_
                        exact ih_loop_38 (j + 1) y5 x_84 (by omega) (by omega) ey5 (by rw [ex_84, nI_1]) _ _ _ hP hS (lv_sub hl [3, 4, 5, 6, 7, 1, 0] rfl)
                      · exact absurd (by rw [Int32.le_iff_toInt_le, nI_toInt (by omega), show (-2 : Int32).toInt = -2 from by decide]; omega) c_72
                exact loop_38 _ 0 (((-2))) 0 (Nat.lt_succ_self _) (by omega) rfl rfl _ _ _ hP hS (lv_sub hl [3, 4, 5, 6, 2, 1, 0] rfl)
              · refine wg_topi (y := nI x) (by rw [w3, hcm]; rfl) ?_
                have hx5 : x ≤ 100000 := lc_lu_le (fun q hq => (iok.2.2.2 _ (hg2 q hq)).1) x hcm
                obtain ⟨⟨za, hat_a⟩, zb, hat_b⟩ := op_cmp_hat hcm
                have hz_a := op_hat_lt hI hi hat_a
                have hz_b := op_hat_lt hI hk hat_b
                refine lv_istore (lv' := [(4, .int (nI x)), (0, .ref (A 1000)), (1, .int c0), (2, .int a), (3, .int b)]) hx hb dX8_blame_29 hl (by decide) rfl (fun ls hl => ?_)
                refine lv_bipush (v := (-2)) hx hb dX8_blame_31 (by decide) ?_
                refine lv_istore (lv' := [(5, .int ((-2))), (4, .int (nI x)), (0, .ref (A 1000)), (1, .int c0), (2, .int a), (3, .int b)]) hx hb dX8_blame_33 hl (by decide) rfl (fun ls hl => ?_)
                refine lv_iconst (v := 0) hx hb dX8_blame_35 (by decide) ?_
                refine lv_istore (lv' := [(6, .int 0), (5, .int ((-2))), (4, .int (nI x)), (0, .ref (A 1000)), (1, .int c0), (2, .int a), (3, .int b)]) hx hb dX8_blame_36 hl (by decide) rfl (fun ls hl => ?_)
                have loop_38 : ∀ (fuel : Nat) (j : Nat) (y5 : Int32) (y6 : Int32), st_cn S q0 - j < fuel → (j ≤ st_cn S q0) → (y5 = lc_I ((lc_lb (st_B S) (st_cg S q0) x j).map (st_cg S q0))) → (y6 = nI j) → ∀ (H : Heap) (locs : List Loc) (ls : Array Slot), wg_P E A C H → va_S (wg_A E) s.heap H locs → lv_has ls 8 [(0, .ref (A 1000)), (1, .int c0), (2, .int a), (3, .int b), (4, .int (nI x)), (5, .int y5), (6, .int y6)] → W p l e (wg_rm 4 0 0) s m ([.ref (A 1000), .int c0, .int a, .int b] : List Value).toArray below meth c H locs 0 0 (MQ below (wg_Qi E (fun r A1 C1 => r = op_blame S c0 a b ∧ A = A1 ∧ C = C1)) ([.ref (A 1000), .int c0, .int a, .int b] : List Value).toArray s 0 0 (wg_A E)) (F0 m 38 ls []) := by
                  intro fuel
                  induction fuel with
                  | zero => intro j y5 y6 hm; exact absurd hm (Nat.not_lt_zero _)
                  | succ fuel ih_loop_38 =>
                    intro j y5 y6 hm_loop_38 hj ey5 ey6 H locs ls hP hS hl
                    subst ey6
                    refine lv_iload hx hb dX8_blame_38 (lv_at hl 6 rfl) ?_
                    refine lv_aload_n hx hb dX8_blame_40 rfl (lv_at hl 0 rfl) ?_
                    refine wg_get F hP mo rfl iw_X8 10 (by decide) tb_559 rfl rfl dX8_blame_41 ?_
                    refine lv_iload_n hx hb dX8_blame_44 rfl (lv_at hl 1 rfl) ?_
                    refine wg_topi (y := nI q0) eq0 ?_
                    refine wg_ild F hP m10 (vp_in_nI (by omega) (by decide)) dX8_blame_45 ?_
                    refine wg_topi (y := nI (st_cn S q0)) (by rw [nI_clamp (by omega)]; exact r10 q0 hq0) ?_
                    refine lv_icmp_ge (tgt := 90) hx hb dX8_blame_46 (by decide) (fun c_46 => ?_) (fun c_46 => ?_)
                    · rw [nI_leI (by omega) (by omega)] at c_46
                      have hjn : j = st_cn S q0 := by omega
                      refine lv_iload hx hb dX8_blame_90 (lv_at hl 4 rfl) ?_
                      refine lv_if_lt (tgt := 100) hx hb dX8_blame_92 (by decide) (fun c_92 => ?_) (fun c_92 => ?_)
                      · exact absurd c_92 (nI_pos (by omega))
                      · rcases hlb : lc_lb (st_B S) (st_cg S q0) x (st_cn S q0) with _ | t9
                        · have hy5 : y5 = -2 := by rw [ey5, hjn, hlb]; rfl
                          subst hy5
                          refine lv_iload hx hb dX8_blame_95 (lv_at hl 5 rfl) ?_
                          refine lv_if_ge (tgt := 103) hx hb dX8_blame_97 (by decide) (fun c_97 => ?_) (fun c_97 => ?_)
                          · exact absurd c_97 (by decide)
                          · refine lv_bipush (v := (-2)) hx hb dX8_blame_100 (by decide) ?_
                            exact wg_iret F hP hS hr hlk (⟨by unfold op_blame; rw [hx_q0, hx_i, hx_k]; simp only []; rw [hcm]; simp only []; rw [hlb], rfl, rfl⟩) dX8_blame_102
                        · have hy5 : y5 = nI (st_cg S q0 t9) := by rw [ey5, hjn, hlb]; rfl
                          have ht2 := hc2 t9 (lc_lb_lt hlb)
                          subst hy5
                          refine lv_iload hx hb dX8_blame_95 (lv_at hl 5 rfl) ?_
                          refine lv_if_ge (tgt := 103) hx hb dX8_blame_97 (by decide) (fun c_97 => ?_) (fun c_97 => ?_)
                          · refine lv_aload_n hx hb dX8_blame_103 rfl (lv_at hl 0 rfl) ?_
                            refine lv_iload hx hb dX8_blame_104 (lv_at hl 5 rfl) ?_
                            refine lv_aload_n hx hb dX8_blame_106 rfl (lv_at hl 0 rfl) ?_
                            refine lv_iload_n hx hb dX8_blame_107 rfl (lv_at hl 2 rfl) ?_
                            refine wg_topi (y := nI i) ei ?_
                            refine lv_iload hx hb dX8_blame_108 (lv_at hl 4 rfl) ?_
                            refine wg_topi (y := nI x) rfl ?_
                            refine wg_ci hS (wg_rV (As := [.int (nI i), .int (nI x)]) (rest := [.int (nI (st_cg S q0 t9)), .ref (A 1000)]) F hP hS (c_X8_headAt l E A C S i x hM hI hi (by omega)) ok_X8_headAt tb_737 rfl rfl ⟨Nat.le_of_ble_eq_true rfl, Nat.le_of_ble_eq_true rfl⟩ mo rfl rfl rfl hl.1 rfl (Nat.le_of_ble_eq_true rfl) dX8_blame_110 ⟨Nat.le_of_ble_eq_true rfl, Nat.le_of_ble_eq_true rfl⟩) (fun r_110 A1 C_110 H locs w_110 hP hS => ?_)
                            obtain ⟨w_110, rfl, rfl⟩ := w_110
                            refine wg_topi (y := nI za) (by rw [w_110, hat_a]; rfl) ?_
                            refine wg_ci hS (wg_rV (As := [.int (nI (st_cg S q0 t9)), .int (nI za)]) (rest := []) F hP hS (c_X8_against l E A C S (st_cg S q0 t9) za hM hI ht2 hz_a) ok_X8_against tb_717 rfl rfl ⟨Nat.le_of_ble_eq_true rfl, Nat.le_of_ble_eq_true rfl⟩ mo rfl rfl rfl hl.1 rfl (Nat.le_of_ble_eq_true rfl) dX8_blame_113 ⟨Nat.le_of_ble_eq_true rfl, Nat.le_of_ble_eq_true rfl⟩) (fun r_113 A1 C_113 H locs w_113 hP hS => ?_)
                            obtain ⟨w_113, rfl, rfl⟩ := w_113
                            refine lv_if_ne (tgt := 123) hx hb dX8_blame_116 (by decide) (fun c_116 => ?_) (fun c_116 => ?_)
                            · have hf_a : ¬ op_fit S (st_cg S q0 t9) (op_hat S i x) = true := fun q => c_116 (by rw [w_113]; rw [hat_a] at q; exact lc_fit0.mpr q)
                              refine lv_iconst (v := 0) hx hb dX8_blame_123 (by decide) ?_
                              refine lv_aload_n hx hb dX8_blame_124 rfl (lv_at hl 0 rfl) ?_
                              refine lv_iload hx hb dX8_blame_125 (lv_at hl 5 rfl) ?_
                              refine lv_aload_n hx hb dX8_blame_127 rfl (lv_at hl 0 rfl) ?_
                              refine lv_iload_n hx hb dX8_blame_128 rfl (lv_at hl 3 rfl) ?_
                              refine wg_topi (y := nI k) ek ?_
                              refine lv_iload hx hb dX8_blame_129 (lv_at hl 4 rfl) ?_
                              refine wg_topi (y := nI x) rfl ?_
                              refine wg_ci hS (wg_rV (As := [.int (nI k), .int (nI x)]) (rest := [.int (nI (st_cg S q0 t9)), .ref (A 1000), .int 0]) F hP hS (c_X8_headAt l E A C S k x hM hI hk (by omega)) ok_X8_headAt tb_737 rfl rfl ⟨Nat.le_of_ble_eq_true rfl, Nat.le_of_ble_eq_true rfl⟩ mo rfl rfl rfl hl.1 rfl (Nat.le_of_ble_eq_true rfl) dX8_blame_131 ⟨Nat.le_of_ble_eq_true rfl, Nat.le_of_ble_eq_true rfl⟩) (fun r_131 A1 C_131 H locs w_131 hP hS => ?_)
                              obtain ⟨w_131, rfl, rfl⟩ := w_131
                              refine wg_topi (y := nI zb) (by rw [w_131, hat_b]; rfl) ?_
                              refine wg_ci hS (wg_rV (As := [.int (nI (st_cg S q0 t9)), .int (nI zb)]) (rest := [.int 0]) F hP hS (c_X8_against l E A C S (st_cg S q0 t9) zb hM hI ht2 hz_b) ok_X8_against tb_717 rfl rfl ⟨Nat.le_of_ble_eq_true rfl, Nat.le_of_ble_eq_true rfl⟩ mo rfl rfl rfl hl.1 rfl (Nat.le_of_ble_eq_true rfl) dX8_blame_134 ⟨Nat.le_of_ble_eq_true rfl, Nat.le_of_ble_eq_true rfl⟩) (fun r_134 A1 C_134 H locs w_134 hP hS => ?_)
                              obtain ⟨w_134, rfl, rfl⟩ := w_134
                              refine lv_if_ne (tgt := 144) hx hb dX8_blame_137 (by decide) (fun c_137 => ?_) (fun c_137 => ?_)
                              · have hf_b : ¬ op_fit S (st_cg S q0 t9) (op_hat S k x) = true := fun q => c_137 (by rw [w_134]; rw [hat_b] at q; exact lc_fit0.mpr q)
                                refine lv_iconst (v := 0) hx hb dX8_blame_144 (by decide) ?_
                                refine lv_iadd hx hb dX8_blame_145 ?_
                                exact wg_iret F hP hS hr hlk (⟨by unfold op_blame; rw [hx_q0, hx_i, hx_k]; simp only []; rw [hcm]; simp only []; rw [hlb]; simp only []; rw [if_neg hf_a, if_neg hf_b]; rfl, rfl, rfl⟩) dX8_blame_146
                              · have hf_b : op_fit S (st_cg S q0 t9) (op_hat S k x) = true := by rw [w_134] at c_137; rw [hat_b]; exact lc_fit0.mp c_137
                                refine lv_iconst (v := 2) hx hb dX8_blame_140 (by decide) ?_
                                refine lv_goto (tgt := 145) hx hb dX8_blame_141 (by decide) ?_
                                refine lv_iadd hx hb dX8_blame_145 ?_
                                exact wg_iret F hP hS hr hlk (⟨by unfold op_blame; rw [hx_q0, hx_i, hx_k]; simp only []; rw [hcm]; simp only []; rw [hlb]; simp only []; rw [if_neg hf_a, if_pos hf_b]; rfl, rfl, rfl⟩) dX8_blame_146
                            · have hf_a : op_fit S (st_cg S q0 t9) (op_hat S i x) = true := by rw [w_113] at c_116; rw [hat_a]; exact lc_fit0.mp c_116
                              refine lv_iconst (v := 1) hx hb dX8_blame_119 (by decide) ?_
                              refine lv_goto (tgt := 124) hx hb dX8_blame_120 (by decide) ?_
                              refine lv_aload_n hx hb dX8_blame_124 rfl (lv_at hl 0 rfl) ?_
                              refine lv_iload hx hb dX8_blame_125 (lv_at hl 5 rfl) ?_
                              refine lv_aload_n hx hb dX8_blame_127 rfl (lv_at hl 0 rfl) ?_
                              refine lv_iload_n hx hb dX8_blame_128 rfl (lv_at hl 3 rfl) ?_
                              refine wg_topi (y := nI k) ek ?_
                              refine lv_iload hx hb dX8_blame_129 (lv_at hl 4 rfl) ?_
                              refine wg_topi (y := nI x) rfl ?_
                              refine wg_ci hS (wg_rV (As := [.int (nI k), .int (nI x)]) (rest := [.int (nI (st_cg S q0 t9)), .ref (A 1000), .int 1]) F hP hS (c_X8_headAt l E A C S k x hM hI hk (by omega)) ok_X8_headAt tb_737 rfl rfl ⟨Nat.le_of_ble_eq_true rfl, Nat.le_of_ble_eq_true rfl⟩ mo rfl rfl rfl hl.1 rfl (Nat.le_of_ble_eq_true rfl) dX8_blame_131 ⟨Nat.le_of_ble_eq_true rfl, Nat.le_of_ble_eq_true rfl⟩) (fun r_131 A1 C_131 H locs w_131 hP hS => ?_)
                              obtain ⟨w_131, rfl, rfl⟩ := w_131
                              refine wg_topi (y := nI zb) (by rw [w_131, hat_b]; rfl) ?_
                              refine wg_ci hS (wg_rV (As := [.int (nI (st_cg S q0 t9)), .int (nI zb)]) (rest := [.int 1]) F hP hS (c_X8_against l E A C S (st_cg S q0 t9) zb hM hI ht2 hz_b) ok_X8_against tb_717 rfl rfl ⟨Nat.le_of_ble_eq_true rfl, Nat.le_of_ble_eq_true rfl⟩ mo rfl rfl rfl hl.1 rfl (Nat.le_of_ble_eq_true rfl) dX8_blame_134 ⟨Nat.le_of_ble_eq_true rfl, Nat.le_of_ble_eq_true rfl⟩) (fun r_134 A1 C_134 H locs w_134 hP hS => ?_)
                              obtain ⟨w_134, rfl, rfl⟩ := w_134
                              refine lv_if_ne (tgt := 144) hx hb dX8_blame_137 (by decide) (fun c_137 => ?_) (fun c_137 => ?_)
                              · have hf_b : ¬ op_fit S (st_cg S q0 t9) (op_hat S k x) = true := fun q => c_137 (by rw [w_134]; rw [hat_b] at q; exact lc_fit0.mpr q)
                                refine lv_iconst (v := 0) hx hb dX8_blame_144 (by decide) ?_
                                refine lv_iadd hx hb dX8_blame_145 ?_
                                exact wg_iret F hP hS hr hlk (⟨by unfold op_blame; rw [hx_q0, hx_i, hx_k]; simp only []; rw [hcm]; simp only []; rw [hlb]; simp only []; rw [if_pos hf_a, if_neg hf_b]; rfl, rfl, rfl⟩) dX8_blame_146
                              · have hf_b : op_fit S (st_cg S q0 t9) (op_hat S k x) = true := by rw [w_134] at c_137; rw [hat_b]; exact lc_fit0.mp c_137
                                refine lv_iconst (v := 2) hx hb dX8_blame_140 (by decide) ?_
                                refine lv_goto (tgt := 145) hx hb dX8_blame_141 (by decide) ?_
                                refine lv_iadd hx hb dX8_blame_145 ?_
                                exact wg_iret F hP hS hr hlk (⟨by unfold op_blame; rw [hx_q0, hx_i, hx_k]; simp only []; rw [hcm]; simp only []; rw [hlb]; simp only []; rw [if_pos hf_a, if_pos hf_b]; rfl, rfl, rfl⟩) dX8_blame_146
                          · exact absurd (nI_pos' (by omega)) c_97
                    · rw [nI_leI (by omega) (by omega)] at c_46
                      have hjn : j < st_cn S q0 := by omega
                      have hgj := hc2 j hjn
                      have hqj := (iok.2.2.2 _ hgj).1
                      refine lv_aload_n hx hb dX8_blame_49 rfl (lv_at hl 0 rfl) ?_
                      refine wg_get F hP mo rfl iw_X8 11 (by decide) tb_560 rfl rfl dX8_blame_50 ?_
                      refine lv_bipush (v := 11) hx hb dX8_blame_53 (by decide) ?_
                      refine lv_iload_n hx hb dX8_blame_55 rfl (lv_at hl 1 rfl) ?_
                      refine wg_topi (y := nI q0) eq0 ?_
                      refine lv_imul hx hb dX8_blame_56 ?_
                      refine lv_iload hx hb dX8_blame_57 (lv_at hl 6 rfl) ?_
                      refine lv_iadd hx hb dX8_blame_59 ?_
                      refine wg_topi (y := nI (11 * q0 + j)) (by rw [show (11 : Int32) = nI 11 from rfl, pk_mul, nI_add]) ?_
                      refine wg_ild F hP m11 (vp_in_nI (by omega) (by decide)) dX8_blame_60 ?_
                      refine wg_topi (y := nI (st_cg S q0 j)) (by rw [nI_clamp (by omega)]; exact r11 q0 hq0 j hjn) ?_
                      refine lv_istore (lv' := [(7, .int (nI (st_cg S q0 j))), (0, .ref (A 1000)), (1, .int c0), (2, .int a), (3, .int b), (4, .int (nI x)), (5, .int y5), (6, .int (nI j))]) hx hb dX8_blame_61 hl (by decide) rfl (fun ls hl => ?_)
                      refine lv_aload_n hx hb dX8_blame_63 rfl (lv_at hl 1 rfl) ?_
                      refine wg_get F hP mo rfl iw_X8 3 (by decide) tb_552 rfl rfl dX8_blame_64 ?_
                      refine lv_iload hx hb dX8_blame_67 (lv_at hl 0 rfl) ?_
                      refine wg_ild F hP m3 (vp_in_nI (by omega) (by decide)) dX8_blame_69 ?_
                      refine wg_topi (y := nI (lc_hh (st_B S) (st_cg S q0 j))) (by rw [nI_clamp (by omega)]; exact r3 _ hgj) ?_
                      refine lv_iload hx hb dX8_blame_70 (lv_at hl 5 rfl) ?_
                      refine lv_icmp_ge (tgt := 80) hx hb dX8_blame_72 (by decide) (fun c_72 => ?_) (fun c_72 => ?_)
                      · have hnew : y5 = lc_I ((lc_lb (st_B S) (st_cg S q0) x (j + 1)).map (st_cg S q0)) := by rw [nI_leI (by omega) (by omega)] at c_72; rw [ey5]; simp only [lc_lb]; rw [if_neg (by omega)]
                        refine lv_iload hx hb dX8_blame_80 (lv_at hl 6 rfl) ?_
                        refine lv_istore (lv' := [(5, .int y5), (7, .int (nI (st_cg S q0 j))), (0, .ref (A 1000)), (1, .int c0), (2, .int a), (3, .int b), (4, .int (nI x)), (6, .int (nI j))]) hx hb dX8_blame_82 hl (by decide) rfl (fun ls hl => ?_)
                        obtain ⟨x_84, ex_84⟩ : ∃ y : Int32, y = nI j + 1 := ⟨_, rfl⟩
                        refine lv_iinc (v := x_84) (lv' := [(6, .int x_84), (5, .int y5), (7, .int (nI (st_cg S q0 j))), (0, .ref (A 1000)), (1, .int c0), (2, .int a), (3, .int b), (4, .int (nI x))]) hx hb dX8_blame_84 hl (k := 7) rfl (by rw [ex_84]; rfl) (by decide) rfl (fun ls hl => ?_)
                        refine lv_goto (tgt := 38) hx hb dX8_blame_87 (by decide) ?_
                        exact ih_loop_38 (j + 1) y5 x_84 (by omega) (by omega) hnew (by rw [ex_84, nI_1]) _ _ _ hP hS (lv_sub hl [3, 4, 5, 6, 7, 1, 0] rfl)
                      · have hnew : nI (st_cg S q0 j) = lc_I ((lc_lb (st_B S) (st_cg S q0) x (j + 1)).map (st_cg S q0)) := by rw [nI_leI (by omega) (by omega)] at c_72; simp only [lc_lb]; rw [if_pos (by omega)]; rfl
                        refine lv_iload hx hb dX8_blame_75 (lv_at hl 0 rfl) ?_
                        refine lv_goto (tgt := 82) hx hb dX8_blame_77 (by decide) ?_
                        refine lv_istore (lv' := [(5, .int (nI (st_cg S q0 j))), (7, .int (nI (st_cg S q0 j))), (0, .ref (A 1000)), (1, .int c0), (2, .int a), (3, .int b), (4, .int (nI x)), (6, .int (nI j))]) hx hb dX8_blame_82 hl (by decide) rfl (fun ls hl => ?_)
                        obtain ⟨x_84, ex_84⟩ : ∃ y : Int32, y = nI j + 1 := ⟨_, rfl⟩
                        refine lv_iinc (v := x_84) (lv' := [(6, .int x_84), (5, .int (nI (st_cg S q0 j))), (7, .int (nI (st_cg S q0 j))), (0, .ref (A 1000)), (1, .int c0), (2, .int a), (3, .int b), (4, .int (nI x))]) hx hb dX8_blame_84 hl (k := 7) rfl (by rw [ex_84]; rfl) (by decide) rfl (fun ls hl => ?_)
                        refine lv_goto (tgt := 38) hx hb dX8_blame_87 (by decide) ?_
                        exact ih_loop_38 (j + 1) ((nI (st_cg S q0 j))) x_84 (by omega) (by omega) hnew (by rw [ex_84, nI_1]) _ _ _ hP hS (lv_sub hl [3, 4, 5, 6, 7, 1, 0] rfl)
                exact loop_38 _ 0 (((-2))) 0 (Nat.lt_succ_self _) (by omega) rfl rfl _ _ _ hP hS (lv_sub hl [3, 4, 5, 6, 2, 1, 0] rfl)
            · exact absurd (w2_k.symm.trans c_18) (by decide)
