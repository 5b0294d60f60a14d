set_option maxHeartbeats 4000000 in
set_option maxRecDepth 100000 in
theorem c_X7_stepRefusal (l : Launch) (E : wg_E) (A : Nat → Nat) (C : wg_C) (B : lc_B) (t h : Nat) (hDB : lc_DB A C B) (ht : t < lc_nh B) (hh : h < lc_nh B)  : Met l yX7_stepRefusal (wg_ws yX7_stepRefusal cX7_stepRefusal 3 (some .int)) (wg_rm 3 0 0) (wg_Pc E A C [.ref (A 0), .ref (A (200 + t)), .ref (A (200 + h))]) (wg_Qi E (fun r A1 C1 => r = nI (if lc_hp B h = lc_dig B t then (if lc_ho B h = lc_hx B t then (if lc_cert B h then 0 else 4) else 3) else 2) ∧ A = A1 ∧ C = C1)) 0 0 (wg_A E) := by
  refine wg_met (by decide) (Nat.le_of_ble_eq_true rfl) ?_
  intro p e s m below meth c ls F hr hlk hnm hP hS hl
  have F : wg_F p m c cX7_stepRefusal 3 s ([.ref (A 0), .ref (A (200 + t)), .ref (A (200 + h))] : List Value).toArray "LightChecks" E := F
  have hx := F.1
  have hb := F.2.1
  have hml := F.2.2.1
  have hown := F.2.2.2.1
  have hts := F.2.2.2.2.1
  have hl : lv_has ls 3 [(0, .ref (A 0)), (1, .ref (A (200 + t))), (2, .ref (A (200 + h)))] := hl
  have fh_t : C (200 + t) = some (.inr (2, [.int (nI t), .int (nI (lc_hh B t)), .long (lc_hp B t), .ref (A (100 + lc_ho B t)), .ref (A (100 + lc_hx B t)), .long (lc_hr B t), .long (lc_dig B t), .int (nI (lc_sg B t))])) := hDB.2.1 t ht
  obtain ⟨hq1_t, hq2_t, hq3_t, hq4_t⟩ := hDB.2.2.2.2.2 t ht
  have fo_t : C (100 + lc_ho B t) = some (.inr (6, [.int (nI (lc_ho B t)), .long (lN (lc_sa B (lc_ho B t))), .long (lN (lc_sb B (lc_ho B t))), .int (nI (lc_tot (lc_sa B (lc_ho B t)) (lc_sb B (lc_ho B t))))])) := hDB.1 _ hq2_t
  have fx_t : C (100 + lc_hx B t) = some (.inr (6, [.int (nI (lc_hx B t)), .long (lN (lc_sa B (lc_hx B t))), .long (lN (lc_sb B (lc_hx B t))), .int (nI (lc_tot (lc_sa B (lc_hx B t)) (lc_sb B (lc_hx B t))))])) := hDB.1 _ hq3_t
  have fh_h : C (200 + h) = some (.inr (2, [.int (nI h), .int (nI (lc_hh B h)), .long (lc_hp B h), .ref (A (100 + lc_ho B h)), .ref (A (100 + lc_hx B h)), .long (lc_hr B h), .long (lc_dig B h), .int (nI (lc_sg B h))])) := hDB.2.1 h hh
  obtain ⟨hq1_h, hq2_h, hq3_h, hq4_h⟩ := hDB.2.2.2.2.2 h hh
  have fo_h : C (100 + lc_ho B h) = some (.inr (6, [.int (nI (lc_ho B h)), .long (lN (lc_sa B (lc_ho B h))), .long (lN (lc_sb B (lc_ho B h))), .int (nI (lc_tot (lc_sa B (lc_ho B h)) (lc_sb B (lc_ho B h))))])) := hDB.1 _ hq2_h
  have fx_h : C (100 + lc_hx B h) = some (.inr (6, [.int (nI (lc_hx B h)), .long (lN (lc_sa B (lc_hx B h))), .long (lN (lc_sb B (lc_hx B h))), .int (nI (lc_tot (lc_sa B (lc_hx B h)) (lc_sb B (lc_hx B h))))])) := hDB.1 _ hq3_h
  refine lv_aload_n hx hb dX7_stepRefusal_0 rfl (lv_at hl 2 rfl) ?_
  refine wg_getN F hP fh_h rfl iw_X2 2 (by decide) nb_253 rfl rfl dX7_stepRefusal_1 ?_
  refine lv_aload_n hx hb dX7_stepRefusal_4 rfl (lv_at hl 1 rfl) ?_
  refine wg_getN F hP fh_t rfl iw_X2 6 (by decide) nb_262 rfl rfl dX7_stepRefusal_5 ?_
  refine W.lcmp hx hb dX7_stepRefusal_8 ?_
  refine lv_if_eq (tgt := 14) hx hb dX7_stepRefusal_9 (by decide) (fun c_9 => ?_) (fun c_9 => ?_)
  · rw [lg_cmp_eq] at c_9
    refine lv_aload_n hx hb dX7_stepRefusal_14 rfl (lv_at hl 2 rfl) ?_
    refine wg_getN F hP fh_h rfl iw_X2 3 (by decide) nb_255 rfl rfl dX7_stepRefusal_15 ?_
    refine wg_getN F hP fo_h rfl iw_X6 0 (by decide) nb_209 rfl rfl dX7_stepRefusal_18 ?_
    refine lv_aload_n hx hb dX7_stepRefusal_21 rfl (lv_at hl 1 rfl) ?_
    refine wg_getN F hP fh_t rfl iw_X2 4 (by decide) nb_257 rfl rfl dX7_stepRefusal_22 ?_
    refine wg_getN F hP fx_t rfl iw_X6 0 (by decide) nb_209 rfl rfl dX7_stepRefusal_25 ?_
    have hb1 := hDB.2.2.1
    refine lv_icmp_eq (tgt := 33) hx hb dX7_stepRefusal_28 (by decide) (fun c_28 => ?_) (fun c_28 => ?_)
    · rw [nI_eq (by omega) (by omega)] at c_28
      refine lv_aload_n hx hb dX7_stepRefusal_33 rfl (lv_at hl 2 rfl) ?_
      refine wg_ci hS (wg_rS (As := [.ref (A (200 + h))]) (rest := []) F hP hS (c_X7_isCertified l E A C (200 + h) (100 + lc_ho B h) (100 + lc_hx B h) _ _ _ _ _ _ _ _ _ (hDB.2.2.2.2.1 _ hq2_h).1.lt (hDB.2.2.2.2.1 _ hq2_h).2.lt hq4_h fh_h fo_h) ok_X7_isCertified tb_311 rfl rfl ⟨Nat.le_of_ble_eq_true rfl, Nat.le_of_ble_eq_true rfl⟩ rfl hl.1 rfl (Nat.le_of_ble_eq_true rfl) dX7_stepRefusal_34 ⟨Nat.le_of_ble_eq_true rfl, Nat.le_of_ble_eq_true rfl⟩) (fun r_34 A1 C_34 H locs w_34 hP hS => ?_)
      obtain ⟨w_34, rfl, rfl⟩ := w_34
      refine lv_if_eq (tgt := 44) hx hb dX7_stepRefusal_37 (by decide) (fun c_37 => ?_) (fun c_37 => ?_)
      · have hc : ¬ lc_cert B h := fun q => by rw [w_34, if_pos q] at c_37; exact absurd c_37 (by decide)
        refine lv_iconst (v := 4) hx hb dX7_stepRefusal_44 (by decide) ?_
        exact wg_iret F hP hS hr hlk (⟨by rw [if_pos c_9, if_pos c_28, if_neg hc]; rfl, rfl, rfl⟩) dX7_stepRefusal_45
      · have hc : lc_cert B h := Decidable.byContradiction (fun q => c_37 (by rw [w_34, if_neg q]))
        refine lv_iconst (v := 0) hx hb dX7_stepRefusal_40 (by decide) ?_
        refine lv_goto (tgt := 45) hx hb dX7_stepRefusal_41 (by decide) ?_
        exact wg_iret F hP hS hr hlk (⟨by rw [if_pos c_9, if_pos c_28, if_pos hc]; rfl, rfl, rfl⟩) dX7_stepRefusal_45
    · rw [nI_eq (by omega) (by omega)] at c_28
      refine lv_iconst (v := 3) hx hb dX7_stepRefusal_31 (by decide) ?_
      exact wg_iret F hP hS hr hlk (⟨by rw [if_pos c_9, if_neg c_28]; rfl, rfl, rfl⟩) dX7_stepRefusal_32
  · rw [lg_cmp_eq] at c_9
    refine lv_iconst (v := 2) hx hb dX7_stepRefusal_12 (by decide) ?_
    exact wg_iret F hP hS hr hlk (⟨by rw [if_neg c_9]; rfl, rfl, rfl⟩) dX7_stepRefusal_13
set_option maxHeartbeats 4000000 in
set_option maxRecDepth 100000 in
theorem c_X7_skipRefusal (l : Launch) (E : wg_E) (A : Nat → Nat) (C : wg_C) (ns : Nat) (tm : Nat → Nat) (B : lc_B) (t h : Nat) (hDB : lc_DB A C B) (ht : t < lc_nh B) (hh : h < lc_nh B) (hlt : lc_hh B t < lc_hh B h) (htm : ∀ k, k < 4 → tm k ≤ 1000) (f0 : C 0 = some (.inr (7, [.ref (A 1), .int (nI ns), .ref (A 2), .ref (A 4), .ref (A 5), .ref (A 6), .ref (A 7), .ref (A 8), .ref (A 11)]))) (f4 : C 4 = some (.inl (E.2.1 0, 4, .inl (fun k => nI (tm k))))) : Met l yX7_skipRefusal (wg_ws yX7_skipRefusal cX7_skipRefusal 3 (some .int)) (wg_rm 3 0 0) (wg_Pc E A C [.ref (A 0), .ref (A (200 + t)), .ref (A (200 + h))]) (wg_Qi E (fun r A1 C1 => r = nI (if tm 2 < lc_hh B h - lc_hh B t then 5 else if lc_cert B h then (if lc_over B tm h (lc_hx B t) then 0 else 6) else 4) ∧ A = A1 ∧ C = C1)) 0 0 (wg_A E) := by
  refine wg_met (by decide) (Nat.le_of_ble_eq_true rfl) ?_
  intro p e s m below meth c ls F hr hlk hnm hP hS hl
  have F : wg_F p m c cX7_skipRefusal 3 s ([.ref (A 0), .ref (A (200 + t)), .ref (A (200 + h))] : List Value).toArray "LightChecks" E := F
  have hx := F.1
  have hb := F.2.1
  have hml := F.2.2.1
  have hown := F.2.2.2.1
  have hts := F.2.2.2.2.1
  have hl : lv_has ls 3 [(0, .ref (A 0)), (1, .ref (A (200 + t))), (2, .ref (A (200 + h)))] := hl
  have fh_t : C (200 + t) = some (.inr (2, [.int (nI t), .int (nI (lc_hh B t)), .long (lc_hp B t), .ref (A (100 + lc_ho B t)), .ref (A (100 + lc_hx B t)), .long (lc_hr B t), .long (lc_dig B t), .int (nI (lc_sg B t))])) := hDB.2.1 t ht
  obtain ⟨hq1_t, hq2_t, hq3_t, hq4_t⟩ := hDB.2.2.2.2.2 t ht
  have fo_t : C (100 + lc_ho B t) = some (.inr (6, [.int (nI (lc_ho B t)), .long (lN (lc_sa B (lc_ho B t))), .long (lN (lc_sb B (lc_ho B t))), .int (nI (lc_tot (lc_sa B (lc_ho B t)) (lc_sb B (lc_ho B t))))])) := hDB.1 _ hq2_t
  have fx_t : C (100 + lc_hx B t) = some (.inr (6, [.int (nI (lc_hx B t)), .long (lN (lc_sa B (lc_hx B t))), .long (lN (lc_sb B (lc_hx B t))), .int (nI (lc_tot (lc_sa B (lc_hx B t)) (lc_sb B (lc_hx B t))))])) := hDB.1 _ hq3_t
  have fh_h : C (200 + h) = some (.inr (2, [.int (nI h), .int (nI (lc_hh B h)), .long (lc_hp B h), .ref (A (100 + lc_ho B h)), .ref (A (100 + lc_hx B h)), .long (lc_hr B h), .long (lc_dig B h), .int (nI (lc_sg B h))])) := hDB.2.1 h hh
  obtain ⟨hq1_h, hq2_h, hq3_h, hq4_h⟩ := hDB.2.2.2.2.2 h hh
  have fo_h : C (100 + lc_ho B h) = some (.inr (6, [.int (nI (lc_ho B h)), .long (lN (lc_sa B (lc_ho B h))), .long (lN (lc_sb B (lc_ho B h))), .int (nI (lc_tot (lc_sa B (lc_ho B h)) (lc_sb B (lc_ho B h))))])) := hDB.1 _ hq2_h
  have fx_h : C (100 + lc_hx B h) = some (.inr (6, [.int (nI (lc_hx B h)), .long (lN (lc_sa B (lc_hx B h))), .long (lN (lc_sb B (lc_hx B h))), .int (nI (lc_tot (lc_sa B (lc_hx B h)) (lc_sb B (lc_hx B h))))])) := hDB.1 _ hq3_h
  have h2 := htm 2 (by decide)
  refine lv_aload_n hx hb dX7_skipRefusal_0 rfl (lv_at hl 2 rfl) ?_
  refine wg_getN F hP fh_h rfl iw_X2 1 (by decide) nb_251 rfl rfl dX7_skipRefusal_1 ?_
  refine lv_aload_n hx hb dX7_skipRefusal_4 rfl (lv_at hl 1 rfl) ?_
  refine wg_getN F hP fh_t rfl iw_X2 1 (by decide) nb_251 rfl rfl dX7_skipRefusal_5 ?_
  refine lv_isub hx hb dX7_skipRefusal_8 ?_
  refine lv_aload_n hx hb dX7_skipRefusal_9 rfl (lv_at hl 0 rfl) ?_
  refine wg_get F hP f0 rfl iw_X7 3 (by decide) tb_166 rfl rfl dX7_skipRefusal_10 ?_
  refine lv_iconst (v := 2) hx hb dX7_skipRefusal_13 (by decide) ?_
  refine wg_ild F hP f4 (vp_in_nI (n := 2) (by decide) (by decide)) dX7_skipRefusal_14 ?_
  refine wg_topi (y := nI (tm 2)) rfl ?_
  refine lv_icmp_le (tgt := 20) hx hb dX7_skipRefusal_15 (by decide) (fun c_15 => ?_) (fun c_15 => ?_)
  · rw [pk_sub (by omega), nI_leI (by omega) (by omega)] at c_15
    refine lv_aload_n hx hb dX7_skipRefusal_20 rfl (lv_at hl 2 rfl) ?_
    refine wg_ci hS (wg_rS (As := [.ref (A (200 + h))]) (rest := []) F hP hS (c_X7_isCertified l E A C (200 + h) (100 + lc_ho B h) (100 + lc_hx B h) _ _ _ _ _ _ _ _ _ (hDB.2.2.2.2.1 _ hq2_h).1.lt (hDB.2.2.2.2.1 _ hq2_h).2.lt hq4_h fh_h fo_h) ok_X7_isCertified tb_311 rfl rfl ⟨Nat.le_of_ble_eq_true rfl, Nat.le_of_ble_eq_true rfl⟩ rfl hl.1 rfl (Nat.le_of_ble_eq_true rfl) dX7_skipRefusal_21 ⟨Nat.le_of_ble_eq_true rfl, Nat.le_of_ble_eq_true rfl⟩) (fun r_21 A1 C_21 H locs w_21 hP hS => ?_)
    obtain ⟨w_21, rfl, rfl⟩ := w_21
    refine lv_if_ne (tgt := 29) hx hb dX7_skipRefusal_24 (by decide) (fun c_24 => ?_) (fun c_24 => ?_)
    · have hc : lc_cert B h := Decidable.byContradiction (fun q => c_24 (by rw [w_21, if_neg q]))
      refine lv_aload_n hx hb dX7_skipRefusal_29 rfl (lv_at hl 0 rfl) ?_
      refine lv_aload_n hx hb dX7_skipRefusal_30 rfl (lv_at hl 2 rfl) ?_
      refine lv_aload_n hx hb dX7_skipRefusal_31 rfl (lv_at hl 1 rfl) ?_
      refine wg_getN F hP fh_t rfl iw_X2 4 (by decide) nb_257 rfl rfl dX7_skipRefusal_32 ?_
      refine wg_ci hS (wg_rV (As := [.ref (A (200 + h)), .ref (A (100 + lc_hx B t))]) (rest := []) F hP hS (c_X7_doesOverlap l E A C ns tm (100 + lc_hx B t) (200 + h) (100 + lc_ho B h) (100 + lc_hx B h) _ _ _ _ _ _ _ _ _ (hDB.2.2.2.2.1 _ hq3_t).1.lt (hDB.2.2.2.2.1 _ hq3_t).2.lt hq4_h (htm 0 (by decide)) (htm 1 (by decide)) f0 f4 fh_h fx_t) ok_X7_doesOverlap tb_322 rfl rfl ⟨Nat.le_of_ble_eq_true rfl, Nat.le_of_ble_eq_true rfl⟩ f0 rfl rfl rfl hl.1 rfl (Nat.le_of_ble_eq_true rfl) dX7_skipRefusal_35 ⟨Nat.le_of_ble_eq_true rfl, Nat.le_of_ble_eq_true rfl⟩) (fun r_35 A1 C_35 H locs w_35 hP hS => ?_)
      obtain ⟨w_35, rfl, rfl⟩ := w_35
      refine lv_if_eq (tgt := 45) hx hb dX7_skipRefusal_38 (by decide) (fun c_38 => ?_) (fun c_38 => ?_)
      · have hv : ¬ lc_over B tm h (lc_hx B t) := fun q => by rw [w_35, if_pos q] at c_38; exact absurd c_38 (by decide)
        refine lv_bipush (v := 6) hx hb dX7_skipRefusal_45 (by decide) ?_
        exact wg_iret F hP hS hr hlk (⟨by rw [if_neg (by omega), if_pos hc, if_neg hv]; rfl, rfl, rfl⟩) dX7_skipRefusal_47
      · have hv : lc_over B tm h (lc_hx B t) := Decidable.byContradiction (fun q => c_38 (by rw [w_35, if_neg q]))
        refine lv_iconst (v := 0) hx hb dX7_skipRefusal_41 (by decide) ?_
        refine lv_goto (tgt := 47) hx hb dX7_skipRefusal_42 (by decide) ?_
        exact wg_iret F hP hS hr hlk (⟨by rw [if_neg (by omega), if_pos hc, if_pos hv]; rfl, rfl, rfl⟩) dX7_skipRefusal_47
    · have hc : ¬ lc_cert B h := fun q => by rw [w_21, if_pos q] at c_24; exact absurd c_24 (by decide)
      refine lv_iconst (v := 4) hx hb dX7_skipRefusal_27 (by decide) ?_
      exact wg_iret F hP hS hr hlk (⟨by rw [if_neg (by omega), if_neg hc]; rfl, rfl, rfl⟩) dX7_skipRefusal_28
  · rw [pk_sub (by omega), nI_leI (by omega) (by omega)] at c_15
    refine lv_iconst (v := 5) hx hb dX7_skipRefusal_18 (by decide) ?_
    exact wg_iret F hP hS hr hlk (⟨by rw [if_pos (by omega)]; rfl, rfl, rfl⟩) dX7_skipRefusal_19
set_option maxHeartbeats 4000000 in
set_option maxRecDepth 100000 in
theorem c_X7_refusal (l : Launch) (E : wg_E) (A : Nat → Nat) (C : wg_C) (ns : Nat) (tm : Nat → Nat) (B : lc_B) (t h : Nat) (hDB : lc_DB A C B) (ht : t < lc_nh B) (hh : h < lc_nh B) (htm : ∀ k, k < 4 → tm k ≤ 1000) (f0 : C 0 = some (.inr (7, [.ref (A 1), .int (nI ns), .ref (A 2), .ref (A 4), .ref (A 5), .ref (A 6), .ref (A 7), .ref (A 8), .ref (A 11)]))) (f4 : C 4 = some (.inl (E.2.1 0, 4, .inl (fun k => nI (tm k))))) : Met l yX7_refusal (wg_ws yX7_refusal cX7_refusal 4 (some .int)) (wg_rm 4 0 0) (wg_Pc E A C [.ref (A 0), .ref (A (200 + t)), .ref (A (200 + h))]) (wg_Qi E (fun r A1 C1 => r = nI (lc_why B tm t h) ∧ A = A1 ∧ C = C1)) 0 0 (wg_A E) := by
  refine wg_met (by decide) (Nat.le_of_ble_eq_true rfl) ?_
  intro p e s m below meth c ls F hr hlk hnm hP hS hl
  have F : wg_F p m c cX7_refusal 4 s ([.ref (A 0), .ref (A (200 + t)), .ref (A (200 + h))] : List Value).toArray "LightChecks" E := F
  have hx := F.1
  have hb := F.2.1
  have hml := F.2.2.1
  have hown := F.2.2.2.1
  have hts := F.2.2.2.2.1
  have hl : lv_has ls 4 [(0, .ref (A 0)), (1, .ref (A (200 + t))), (2, .ref (A (200 + h)))] := hl
  have fh_t : C (200 + t) = some (.inr (2, [.int (nI t), .int (nI (lc_hh B t)), .long (lc_hp B t), .ref (A (100 + lc_ho B t)), .ref (A (100 + lc_hx B t)), .long (lc_hr B t), .long (lc_dig B t), .int (nI (lc_sg B t))])) := hDB.2.1 t ht
  obtain ⟨hq1_t, hq2_t, hq3_t, hq4_t⟩ := hDB.2.2.2.2.2 t ht
  have fo_t : C (100 + lc_ho B t) = some (.inr (6, [.int (nI (lc_ho B t)), .long (lN (lc_sa B (lc_ho B t))), .long (lN (lc_sb B (lc_ho B t))), .int (nI (lc_tot (lc_sa B (lc_ho B t)) (lc_sb B (lc_ho B t))))])) := hDB.1 _ hq2_t
  have fx_t : C (100 + lc_hx B t) = some (.inr (6, [.int (nI (lc_hx B t)), .long (lN (lc_sa B (lc_hx B t))), .long (lN (lc_sb B (lc_hx B t))), .int (nI (lc_tot (lc_sa B (lc_hx B t)) (lc_sb B (lc_hx B t))))])) := hDB.1 _ hq3_t
  have fh_h : C (200 + h) = some (.inr (2, [.int (nI h), .int (nI (lc_hh B h)), .long (lc_hp B h), .ref (A (100 + lc_ho B h)), .ref (A (100 + lc_hx B h)), .long (lc_hr B h), .long (lc_dig B h), .int (nI (lc_sg B h))])) := hDB.2.1 h hh
  obtain ⟨hq1_h, hq2_h, hq3_h, hq4_h⟩ := hDB.2.2.2.2.2 h hh
  have fo_h : C (100 + lc_ho B h) = some (.inr (6, [.int (nI (lc_ho B h)), .long (lN (lc_sa B (lc_ho B h))), .long (lN (lc_sb B (lc_ho B h))), .int (nI (lc_tot (lc_sa B (lc_ho B h)) (lc_sb B (lc_ho B h))))])) := hDB.1 _ hq2_h
  have fx_h : C (100 + lc_hx B h) = some (.inr (6, [.int (nI (lc_hx B h)), .long (lN (lc_sa B (lc_hx B h))), .long (lN (lc_sb B (lc_hx B h))), .int (nI (lc_tot (lc_sa B (lc_hx B h)) (lc_sb B (lc_hx B h))))])) := hDB.1 _ hq3_h
  refine lv_aload_n hx hb dX7_refusal_0 rfl (lv_at hl 2 rfl) ?_
  refine lv_ifnonnull (tgt := 7) hx hb dX7_refusal_1 (by decide) ?_
  refine lv_aload_n hx hb dX7_refusal_7 rfl (lv_at hl 2 rfl) ?_
  refine wg_getN F hP fh_h rfl iw_X2 1 (by decide) nb_251 rfl rfl dX7_refusal_8 ?_
  refine lv_aload_n hx hb dX7_refusal_11 rfl (lv_at hl 1 rfl) ?_
  refine wg_getN F hP fh_t rfl iw_X2 1 (by decide) nb_251 rfl rfl dX7_refusal_12 ?_
  refine lv_isub hx hb dX7_refusal_15 ?_
  refine lv_topi (fun x_16 ex_16 => ?_)
  refine lv_istore_n (lv' := [(3, .int x_16), (0, .ref (A 0)), (1, .ref (A (200 + t))), (2, .ref (A (200 + h)))]) hx hb dX7_refusal_16 rfl hl (by decide) rfl (fun ls hl => ?_)
  have up : 1 ≤ x_16 ↔ lc_hh B t < lc_hh B h := by rw [ex_16]; exact lc_rise (by omega) (by omega)
  have up1 : x_16 = 1 ↔ lc_hh B h = lc_hh B t + 1 := by rw [ex_16]; exact lc_rise1 (by omega) (by omega)
  refine lv_iload_n hx hb dX7_refusal_17 rfl (lv_at hl 0 rfl) ?_
  refine lv_iconst (v := 1) hx hb dX7_refusal_18 (by decide) ?_
  refine lv_icmp_ge (tgt := 24) hx hb dX7_refusal_19 (by decide) (fun c_19 => ?_) (fun c_19 => ?_)
  · rw [up] at c_19
    refine lv_iload_n hx hb dX7_refusal_24 rfl (lv_at hl 0 rfl) ?_
    refine lv_iconst (v := 1) hx hb dX7_refusal_25 (by decide) ?_
    refine lv_icmp_ne (tgt := 38) hx hb dX7_refusal_26 (by decide) (fun c_26 => ?_) (fun c_26 => ?_)
    · rw [up1] at c_26
      refine lv_aload_n hx hb dX7_refusal_38 rfl (lv_at hl 1 rfl) ?_
      refine lv_aload_n hx hb dX7_refusal_39 rfl (lv_at hl 2 rfl) ?_
      refine lv_aload_n hx hb dX7_refusal_40 rfl (lv_at hl 3 rfl) ?_
      refine wg_ci hS (wg_rV (As := [.ref (A (200 + t)), .ref (A (200 + h))]) (rest := []) F hP hS (c_X7_skipRefusal l E A C ns tm B t h hDB ht hh c_19 htm f0 f4) ok_X7_skipRefusal tb_363 rfl rfl ⟨Nat.le_of_ble_eq_true rfl, Nat.le_of_ble_eq_true rfl⟩ f0 rfl rfl rfl hl.1 rfl (Nat.le_of_ble_eq_true rfl) dX7_refusal_41 ⟨Nat.le_of_ble_eq_true rfl, Nat.le_of_ble_eq_true rfl⟩) (fun r_41 A1 C_41 H locs w_41 hP hS => ?_)
      obtain ⟨w_41, rfl, rfl⟩ := w_41
      exact wg_iret F hP hS hr hlk (⟨by unfold lc_why; rw [if_neg (by omega), if_neg c_26]; exact w_41, rfl, rfl⟩) dX7_refusal_44
    · rw [up1] at c_26
      refine lv_aload_n hx hb dX7_refusal_29 rfl (lv_at hl 1 rfl) ?_
      refine lv_aload_n hx hb dX7_refusal_30 rfl (lv_at hl 2 rfl) ?_
      refine lv_aload_n hx hb dX7_refusal_31 rfl (lv_at hl 3 rfl) ?_
      refine wg_ci hS (wg_rV (As := [.ref (A (200 + t)), .ref (A (200 + h))]) (rest := []) F hP hS (c_X7_stepRefusal l E A C B t h hDB ht hh) ok_X7_stepRefusal tb_359 rfl rfl ⟨Nat.le_of_ble_eq_true rfl, Nat.le_of_ble_eq_true rfl⟩ f0 rfl rfl rfl hl.1 rfl (Nat.le_of_ble_eq_true rfl) dX7_refusal_32 ⟨Nat.le_of_ble_eq_true rfl, Nat.le_of_ble_eq_true rfl⟩) (fun r_32 A1 C_32 H locs w_32 hP hS => ?_)
      obtain ⟨w_32, rfl, rfl⟩ := w_32
      refine lv_goto (tgt := 44) hx hb dX7_refusal_35 (by decide) ?_
      exact wg_iret F hP hS hr hlk (⟨by unfold lc_why; rw [if_neg (by omega), if_pos c_26]; exact w_32, rfl, rfl⟩) dX7_refusal_44
  · rw [up] at c_19
    refine lv_iconst (v := 1) hx hb dX7_refusal_22 (by decide) ?_
    exact wg_iret F hP hS hr hlk (⟨by unfold lc_why; rw [if_pos (by omega)]; rfl, rfl, rfl⟩) dX7_refusal_23
set_option maxHeartbeats 4000000 in
set_option maxRecDepth 100000 in
theorem c_X7_refusal0 (l : Launch) (E : wg_E) (A : Nat → Nat) (C : wg_C) (x : Nat)   : Met l yX7_refusal (wg_ws yX7_refusal cX7_refusal 4 (some .int)) (wg_rm 4 0 0) (wg_Pc E A C [.ref (A 0), .ref x, .null]) (wg_Qi E (fun r A1 C1 => r = 7 ∧ A = A1 ∧ C = C1)) 0 0 (wg_A E) := by
  refine wg_met (by decide) (Nat.le_of_ble_eq_true rfl) ?_
  intro p e s m below meth c ls F hr hlk hnm hP hS hl
  have F : wg_F p m c cX7_refusal 4 s ([.ref (A 0), .ref x, .null] : List Value).toArray "LightChecks" E := F
  have hx := F.1
  have hb := F.2.1
  have hml := F.2.2.1
  have hown := F.2.2.2.1
  have hts := F.2.2.2.2.1
  have hl : lv_has ls 4 [(0, .ref (A 0)), (1, .ref x), (2, .null)] := hl
  refine lv_aload_nN hx hb dX7_refusal_0 rfl (lv_at hl 2 rfl) ?_
  refine lv_ifnonnullN hx hb dX7_refusal_1 ?_
  refine lv_bipush (v := 7) hx hb dX7_refusal_4 (by decide) ?_
  exact wg_iret F hP hS hr hlk (⟨rfl, rfl, rfl⟩) dX7_refusal_6
