set_option maxHeartbeats 4000000 in
set_option maxRecDepth 100000 in
theorem c_X3_init (l : Launch) (E : wg_E) (A : Nat → Nat) (C : wg_C) (ρ π N : Nat) (hN : N ≤ 60) (hne : ρ ≠ π) (fρ : C ρ = some (.inr (3, [.null, .int 0]))) : Met l yX3_init (wg_ws yX3_init cX3_init 2 none) (wg_rm 1 1 60) (wg_Pc E A C [.ref (A ρ), .int (nI N)]) (wg_Qv E (fun A1 C1 => (∀ r, r ≠ π → A1 r = A r) ∧ (∀ r, r ≠ ρ → r ≠ π → C1 r = C r) ∧ C1 ρ = some (.inr (3, [.ref (A1 π), .int 0])) ∧ C1 π = some (.inl (E.2.1 4, N, .inr (.inr (.inr (.inr (fun _ => none)))))))) 1 60 (wg_A E) := by
  refine wg_met (by decide) (Nat.le_of_ble_eq_true rfl) ?_
  intro p e s m below meth c ls F hr hlk hnm hP hS hl
  have F : wg_F p m c cX3_init 2 s ([.ref (A ρ), .int (nI N)] : List Value).toArray "LightChecks$HeadRow" E := F
  have hx := F.1
  have hb := F.2.1
  have hml := F.2.2.1
  have hown := F.2.2.2.1
  have hts := F.2.2.2.2.1
  have hl : lv_has ls 2 [(0, .ref (A ρ)), (1, .int (nI N))] := hl
  have hnm : meth.name = "<init>" := hnm
  refine lv_aload_n hx hb dX3_init_0 rfl (lv_at hl 0 rfl) ?_
  refine W.objInit hx hb hown (hts _ tb_26) (hts _ tb_17) (hts _ tb_18) rfl (by rw [hml]; exact hl.1) rfl dX3_init_1 (Nat.le_of_ble_eq_true rfl) (Nat.le_of_ble_eq_true rfl) ?_
  refine W.eq (g2 := F0 m 4 ls []) rfl ?_
  refine lv_aload_n hx hb dX3_init_4 rfl (lv_at hl 0 rfl) ?_
  refine lv_iconst (v := 0) hx hb dX3_init_5 (by decide) ?_
  refine wg_put F hP hS fρ rfl iw_X3 tyX3_ok nmX3 1 (by decide) tb_33 rfl rfl rfl (Nat.le_of_ble_eq_true rfl) dX3_init_6 (fun H locs hP hS => ?_)
  obtain ⟨C_6, hC_6⟩ : ∃ z : wg_C, z = va_up C ρ (some (.inr (3, [.null, .int 0]))) := ⟨_, rfl⟩
  have hP : wg_P E A C_6 H := by rw [hC_6]; exact hP
  have fρ_c6 : C_6 ρ = some (.inr (3, [.null, .int 0])) := by rw [hC_6]; exact va_up_self _ _ _
  refine lv_aload_n hx hb dX3_init_9 rfl (lv_at hl 0 rfl) ?_
  refine lv_iconst (v := 0) hx hb dX3_init_10 (by decide) ?_
  refine lv_iload_n hx hb dX3_init_11 rfl (lv_at hl 1 rfl) ?_
  refine va_mmax hx hb (hml.trans hl.1.symm) hown (hts _ tb_27) (hts _ tb_28) (hts _ tb_3) (hts _ tb_29) (Nat.le_of_ble_eq_true rfl) (Nat.le_of_ble_eq_true rfl) (Nat.le_of_ble_eq_true rfl) (Nat.le_of_ble_eq_true rfl) dX3_init_12 ?_
  refine wg_topi (y := nI N) (lc_max0 (by omega)) ?_
  refine wg_newqF (N' := N) F hP hS π 4 rfl tb_30 nb_31 (nI_pos (by omega)) (nI_clamp (by omega)) (by omega) (Nat.le_of_ble_eq_true rfl) (by show 0 + N ≤ 60; omega) dX3_init_15 (fun q_15 H hP hS => ?_)
  obtain ⟨A_15, hA_15⟩ : ∃ z : Nat → Nat, z = va_up A π q_15 := ⟨_, rfl⟩
  obtain ⟨C_15, hC_15⟩ : ∃ z : wg_C, z = va_up C_6 π (some (.inl (E.2.1 4, N, .inr (.inr (.inr (.inr (fun _ => none))))))) := ⟨_, rfl⟩
  have hP : wg_P E A_15 C_15 H := by rw [hA_15, hC_15]; exact hP
  have an_15 : q_15 = A_15 π := by rw [hA_15]; exact (va_up_self _ _ _).symm
  have am_15_0 : A_15 ρ = A ρ := by rw [hA_15]; rw [va_up_ne _ _ (hne)]
  have fρ_c15 : C_15 ρ = some (.inr (3, [.null, .int 0])) := by rw [hC_15]; rw [va_up_ne _ _ (hne)]; exact fρ_c6
  have fπ_c15 : C_15 π = some (.inl (E.2.1 4, N, .inr (.inr (.inr (.inr (fun _ => none)))))) := by rw [hC_15]; exact va_up_self _ _ _
  have hl : lv_has ls 2 [(0, .ref (A_15 ρ)), (1, .int (nI N))] := by rw [am_15_0]; exact hl
  refine W.eq (g2 := F0 m 18 ls [.ref (A_15 π), .ref (A_15 ρ)]) (by rw [← an_15, am_15_0]) ?_
  clear am_15_0 an_15
  refine wg_putF F hnm hP hS fρ_c15 rfl iw_X3 tyX3_ok nmX3 0 (by decide) tb_32 rfl rfl rfl (Nat.le_of_ble_eq_true rfl) dX3_init_18 (fun H locs hP hS => ?_)
  obtain ⟨C_18, hC_18⟩ : ∃ z : wg_C, z = va_up C_15 ρ (some (.inr (3, [.ref (A_15 π), .int 0]))) := ⟨_, rfl⟩
  have hP : wg_P E A_15 C_18 H := by rw [hC_18]; exact hP
  have fρ_c18 : C_18 ρ = some (.inr (3, [.ref (A_15 π), .int 0])) := by rw [hC_18]; exact va_up_self _ _ _
  have fπ_c18 : C_18 π = some (.inl (E.2.1 4, N, .inr (.inr (.inr (.inr (fun _ => none)))))) := by rw [hC_18]; rw [va_up_ne _ _ (Ne.symm (hne))]; exact fπ_c15
  refine W.widen (k := 1) (n := 60) (Nat.le_of_ble_eq_true rfl) (by show 0 + N ≤ 60; omega) ?_
  exact wg_vret F hP hS hr hlk (⟨fun r h2 => by rw [hA_15, va_up_ne _ _ h2], fun r h1 h2 => by rw [hC_18, va_up_ne _ _ h1, hC_15, va_up_ne _ _ h2, hC_6, va_up_ne _ _ h1], fρ_c18, fπ_c18⟩) dX3_init_21
set_option maxHeartbeats 4000000 in
set_option maxRecDepth 100000 in
theorem c_X0_init (l : Launch) (E : wg_E) (A : Nat → Nat) (C : wg_C) (i : Nat) (hi : i < 4) (f20i : C (20 + i) = some (.inr (0, [.null, .int 0, .int 0, .int 0]))) : Met l yX0_init (wg_ws yX0_init cX0_init 1 none) (wg_rm 2 2 62) (wg_Pc E A C [.ref (A (20 + i))]) (wg_Qv E (fun A1 C1 => (∀ r, r ≠ 24 + i → r ≠ 28 + i → A1 r = A r) ∧ (∀ r, r ≠ 20 + i → r ≠ 24 + i → r ≠ 28 + i → C1 r = C r) ∧ C1 (20 + i) = some (.inr (0, [.ref (A1 (24 + i)), .int 0, .int (-2), .int (-2)])) ∧ C1 (24 + i) = some (.inr (3, [.ref (A1 (28 + i)), .int 0])) ∧ C1 (28 + i) = some (.inl (E.2.1 4, 11, .inr (.inr (.inr (.inr (fun _ => none)))))))) 2 62 (wg_A E) := by
  refine wg_met (by decide) (Nat.le_of_ble_eq_true rfl) ?_
  intro p e s m below meth c ls F hr hlk hnm hP hS hl
  have F : wg_F p m c cX0_init 1 s ([.ref (A (20 + i))] : List Value).toArray "LightChecks$Client" E := F
  have hx := F.1
  have hb := F.2.1
  have hml := F.2.2.1
  have hown := F.2.2.2.1
  have hts := F.2.2.2.2.1
  have hl : lv_has ls 1 [(0, .ref (A (20 + i)))] := hl
  have hnm : meth.name = "<init>" := hnm
  refine lv_aload_n hx hb dX0_init_0 rfl (lv_at hl 0 rfl) ?_
  refine W.objInit hx hb hown (hts _ tb_109) (hts _ tb_17) (hts _ tb_18) rfl (by rw [hml]; exact hl.1) rfl dX0_init_1 (Nat.le_of_ble_eq_true rfl) (Nat.le_of_ble_eq_true rfl) ?_
  refine W.eq (g2 := F0 m 4 ls []) rfl ?_
  refine lv_aload_n hx hb dX0_init_4 rfl (lv_at hl 0 rfl) ?_
  refine wg_newF (ci := 3) F hP hS (24 + i) [.null, .int 0] rfl iw_X3 tyX3_ok tb_110 tb_22 tb_2 (fun j hj => by rcases (show j = 0 ∨ j = 1 by omega) with rfl | rfl <;> rfl) (Nat.le_of_ble_eq_true rfl) (Nat.le_of_ble_eq_true rfl) dX0_init_5 (fun q_5 H hP hS => ?_)
  obtain ⟨A_5, hA_5⟩ : ∃ z : Nat → Nat, z = va_up A (24 + i) q_5 := ⟨_, rfl⟩
  obtain ⟨C_5, hC_5⟩ : ∃ z : wg_C, z = va_up C (24 + i) (some (.inr (3, [.null, .int 0]))) := ⟨_, rfl⟩
  have hP : wg_P E A_5 C_5 H := by rw [hA_5, hC_5]; exact hP
  have an_5 : q_5 = A_5 (24 + i) := by rw [hA_5]; exact (va_up_self _ _ _).symm
  have am_5_0 : A_5 (20 + i) = A (20 + i) := by rw [hA_5]; rw [va_up_ne _ _ (by omega)]
  have f20i_c5 : C_5 (20 + i) = some (.inr (0, [.null, .int 0, .int 0, .int 0])) := by rw [hC_5]; rw [va_up_ne _ _ (by omega)]; exact f20i
  have f24i_c5 : C_5 (24 + i) = some (.inr (3, [.null, .int 0])) := by rw [hC_5]; exact va_up_self _ _ _
  have hl : lv_has ls 1 [(0, .ref (A_5 (20 + i)))] := by rw [am_5_0]; exact hl
  refine W.eq (g2 := F0 m 8 ls [.ref (A_5 (24 + i)), .ref (A_5 (20 + i))]) (by rw [← an_5, am_5_0]) ?_
  clear am_5_0 an_5
  refine lv_dup hx hb dX0_init_8 rfl ?_
  refine lv_bipush (v := 11) hx hb dX0_init_9 (by decide) ?_
  refine wg_cv hS (wg_rIN (As := [.int 11]) (rest := [.ref (A_5 (24 + i)), .ref (A_5 (20 + i))]) F hP hS (c_X3_init l E A_5 C_5 (24 + i) (28 + i) 11 (by decide) (by omega) f24i_c5) ok_X3_init nb_111 rfl rfl ⟨Nat.le_of_ble_eq_true rfl, Nat.le_of_ble_eq_true rfl⟩ rfl hl.1 rfl (Nat.le_of_ble_eq_true rfl) dX0_init_11 ⟨Nat.le_of_ble_eq_true rfl, Nat.le_of_ble_eq_true rfl⟩) (fun A_11 C_11 H locs w_11 hP hS => ?_)
  obtain ⟨hAf_11, hfr_11, n1, n2⟩ := w_11
  have am_11_0 : A_11 (20 + i) = A_5 (20 + i) := hAf_11 (20 + i) (by omega)
  have am_11_1 : A_11 (24 + i) = A_5 (24 + i) := hAf_11 (24 + i) (by omega)
  have f20i_c11 : C_11 (20 + i) = some (.inr (0, [.null, .int 0, .int 0, .int 0])) := by rw [hfr_11 (20 + i) (by omega) (by omega)]; exact f20i_c5
  have f24i_c11 : C_11 (24 + i) = some (.inr (3, [.ref (A_11 (28 + i)), .int 0])) := n1
  have f28i_c11 : C_11 (28 + i) = some (.inl (E.2.1 4, 11, .inr (.inr (.inr (.inr (fun _ => none)))))) := n2
  have hl : lv_has ls 1 [(0, .ref (A_11 (20 + i)))] := by rw [am_11_0]; exact hl
  refine W.eq (g2 := F0 m 14 ls [.ref (A_11 (24 + i)), .ref (A_11 (20 + i))]) (by rw [am_11_1, am_11_0]) ?_
  clear am_11_0 am_11_1
  refine wg_putF F hnm hP hS f20i_c11 rfl iw_X0 tyX0_ok nmX0 0 (by decide) tb_112 rfl rfl rfl (Nat.le_of_ble_eq_true rfl) dX0_init_14 (fun H locs hP hS => ?_)
  obtain ⟨C_14, hC_14⟩ : ∃ z : wg_C, z = va_up C_11 (20 + i) (some (.inr (0, [.ref (A_11 (24 + i)), .int 0, .int 0, .int 0]))) := ⟨_, rfl⟩
  have hP : wg_P E A_11 C_14 H := by rw [hC_14]; exact hP
  have f20i_c14 : C_14 (20 + i) = some (.inr (0, [.ref (A_11 (24 + i)), .int 0, .int 0, .int 0])) := by rw [hC_14]; exact va_up_self _ _ _
  have f24i_c14 : C_14 (24 + i) = some (.inr (3, [.ref (A_11 (28 + i)), .int 0])) := by rw [hC_14]; rw [va_up_ne _ _ (by omega)]; exact f24i_c11
  have f28i_c14 : C_14 (28 + i) = some (.inl (E.2.1 4, 11, .inr (.inr (.inr (.inr (fun _ => none)))))) := by rw [hC_14]; rw [va_up_ne _ _ (by omega)]; exact f28i_c11
  refine lv_aload_n hx hb dX0_init_17 rfl (lv_at hl 0 rfl) ?_
  refine lv_iconst (v := 0) hx hb dX0_init_18 (by decide) ?_
  refine wg_put F hP hS f20i_c14 rfl iw_X0 tyX0_ok nmX0 1 (by decide) tb_114 rfl rfl rfl (Nat.le_of_ble_eq_true rfl) dX0_init_19 (fun H locs hP hS => ?_)
  obtain ⟨C_19, hC_19⟩ : ∃ z : wg_C, z = va_up C_14 (20 + i) (some (.inr (0, [.ref (A_11 (24 + i)), .int 0, .int 0, .int 0]))) := ⟨_, rfl⟩
  have hP : wg_P E A_11 C_19 H := by rw [hC_19]; exact hP
  have f20i_c19 : C_19 (20 + i) = some (.inr (0, [.ref (A_11 (24 + i)), .int 0, .int 0, .int 0])) := by rw [hC_19]; exact va_up_self _ _ _
  have f24i_c19 : C_19 (24 + i) = some (.inr (3, [.ref (A_11 (28 + i)), .int 0])) := by rw [hC_19]; rw [va_up_ne _ _ (by omega)]; exact f24i_c14
  have f28i_c19 : C_19 (28 + i) = some (.inl (E.2.1 4, 11, .inr (.inr (.inr (.inr (fun _ => none)))))) := by rw [hC_19]; rw [va_up_ne _ _ (by omega)]; exact f28i_c14
  refine lv_aload_n hx hb dX0_init_22 rfl (lv_at hl 0 rfl) ?_
  refine lv_bipush (v := (-2)) hx hb dX0_init_23 (by decide) ?_
  refine wg_put F hP hS f20i_c19 rfl iw_X0 tyX0_ok nmX0 2 (by decide) tb_116 rfl rfl rfl (Nat.le_of_ble_eq_true rfl) dX0_init_25 (fun H locs hP hS => ?_)
  obtain ⟨C_25, hC_25⟩ : ∃ z : wg_C, z = va_up C_19 (20 + i) (some (.inr (0, [.ref (A_11 (24 + i)), .int 0, .int ((-2)), .int 0]))) := ⟨_, rfl⟩
  have hP : wg_P E A_11 C_25 H := by rw [hC_25]; exact hP
  have f20i_c25 : C_25 (20 + i) = some (.inr (0, [.ref (A_11 (24 + i)), .int 0, .int ((-2)), .int 0])) := by rw [hC_25]; exact va_up_self _ _ _
  have f24i_c25 : C_25 (24 + i) = some (.inr (3, [.ref (A_11 (28 + i)), .int 0])) := by rw [hC_25]; rw [va_up_ne _ _ (by omega)]; exact f24i_c19
  have f28i_c25 : C_25 (28 + i) = some (.inl (E.2.1 4, 11, .inr (.inr (.inr (.inr (fun _ => none)))))) := by rw [hC_25]; rw [va_up_ne _ _ (by omega)]; exact f28i_c19
  refine lv_aload_n hx hb dX0_init_28 rfl (lv_at hl 0 rfl) ?_
  refine lv_bipush (v := (-2)) hx hb dX0_init_29 (by decide) ?_
  refine wg_put F hP hS f20i_c25 rfl iw_X0 tyX0_ok nmX0 3 (by decide) tb_118 rfl rfl rfl (Nat.le_of_ble_eq_true rfl) dX0_init_31 (fun H locs hP hS => ?_)
  obtain ⟨C_31, hC_31⟩ : ∃ z : wg_C, z = va_up C_25 (20 + i) (some (.inr (0, [.ref (A_11 (24 + i)), .int 0, .int ((-2)), .int ((-2))]))) := ⟨_, rfl⟩
  have hP : wg_P E A_11 C_31 H := by rw [hC_31]; exact hP
  have f20i_c31 : C_31 (20 + i) = some (.inr (0, [.ref (A_11 (24 + i)), .int 0, .int ((-2)), .int ((-2))])) := by rw [hC_31]; exact va_up_self _ _ _
  have f24i_c31 : C_31 (24 + i) = some (.inr (3, [.ref (A_11 (28 + i)), .int 0])) := by rw [hC_31]; rw [va_up_ne _ _ (by omega)]; exact f24i_c25
  have f28i_c31 : C_31 (28 + i) = some (.inl (E.2.1 4, 11, .inr (.inr (.inr (.inr (fun _ => none)))))) := by rw [hC_31]; rw [va_up_ne _ _ (by omega)]; exact f28i_c25
  refine W.widen (k := 2) (n := 62) (Nat.le_of_ble_eq_true rfl) (Nat.le_of_ble_eq_true rfl) ?_
  exact wg_vret F hP hS hr hlk (⟨fun r h1 h2 => by rw [hAf_11 r h2, hA_5, va_up_ne _ _ h1], fun r h0 h1 h2 => by rw [hC_31, va_up_ne _ _ h0, hC_25, va_up_ne _ _ h0, hC_19, va_up_ne _ _ h0, hC_14, va_up_ne _ _ h0, hfr_11 r h1 h2, hC_5, va_up_ne _ _ h1], f20i_c31, f24i_c31, f28i_c31⟩) dX0_init_34
set_option maxHeartbeats 4000000 in
set_option maxRecDepth 100000 in
theorem c_X1_init (l : Launch) (E : wg_E) (A : Nat → Nat) (C : wg_C) (i : Nat) (hi : i < 4) (f32i : C (32 + i) = some (.inr (1, [.null]))) : Met l yX1_init (wg_ws yX1_init cX1_init 1 none) (wg_rm 2 2 62) (wg_Pc E A C [.ref (A (32 + i))]) (wg_Qv E (fun A1 C1 => (∀ r, r ≠ 36 + i → r ≠ 40 + i → A1 r = A r) ∧ (∀ r, r ≠ 32 + i → r ≠ 36 + i → r ≠ 40 + i → C1 r = C r) ∧ C1 (32 + i) = some (.inr (1, [.ref (A1 (36 + i))])) ∧ C1 (36 + i) = some (.inr (3, [.ref (A1 (40 + i)), .int 0])) ∧ C1 (40 + i) = some (.inl (E.2.1 4, 60, .inr (.inr (.inr (.inr (fun _ => none)))))))) 2 62 (wg_A E) := by
  refine wg_met (by decide) (Nat.le_of_ble_eq_true rfl) ?_
  intro p e s m below meth c ls F hr hlk hnm hP hS hl
  have F : wg_F p m c cX1_init 1 s ([.ref (A (32 + i))] : List Value).toArray "LightChecks$Giver" E := F
  have hx := F.1
  have hb := F.2.1
  have hml := F.2.2.1
  have hown := F.2.2.2.1
  have hts := F.2.2.2.2.1
  have hl : lv_has ls 1 [(0, .ref (A (32 + i)))] := hl
  have hnm : meth.name = "<init>" := hnm
  refine lv_aload_n hx hb dX1_init_0 rfl (lv_at hl 0 rfl) ?_
  refine W.objInit hx hb hown (hts _ tb_133) (hts _ tb_17) (hts _ tb_18) rfl (by rw [hml]; exact hl.1) rfl dX1_init_1 (Nat.le_of_ble_eq_true rfl) (Nat.le_of_ble_eq_true rfl) ?_
  refine W.eq (g2 := F0 m 4 ls []) rfl ?_
  refine lv_aload_n hx hb dX1_init_4 rfl (lv_at hl 0 rfl) ?_
  refine wg_newF (ci := 3) F hP hS (36 + i) [.null, .int 0] rfl iw_X3 tyX3_ok tb_134 tb_22 tb_2 (fun j hj => by rcases (show j = 0 ∨ j = 1 by omega) with rfl | rfl <;> rfl) (Nat.le_of_ble_eq_true rfl) (Nat.le_of_ble_eq_true rfl) dX1_init_5 (fun q_5 H hP hS => ?_)
  obtain ⟨A_5, hA_5⟩ : ∃ z : Nat → Nat, z = va_up A (36 + i) q_5 := ⟨_, rfl⟩
  obtain ⟨C_5, hC_5⟩ : ∃ z : wg_C, z = va_up C (36 + i) (some (.inr (3, [.null, .int 0]))) := ⟨_, rfl⟩
  have hP : wg_P E A_5 C_5 H := by rw [hA_5, hC_5]; exact hP
  have an_5 : q_5 = A_5 (36 + i) := by rw [hA_5]; exact (va_up_self _ _ _).symm
  have am_5_0 : A_5 (32 + i) = A (32 + i) := by rw [hA_5]; rw [va_up_ne _ _ (by omega)]
  have f32i_c5 : C_5 (32 + i) = some (.inr (1, [.null])) := by rw [hC_5]; rw [va_up_ne _ _ (by omega)]; exact f32i
  have f36i_c5 : C_5 (36 + i) = some (.inr (3, [.null, .int 0])) := by rw [hC_5]; exact va_up_self _ _ _
  have hl : lv_has ls 1 [(0, .ref (A_5 (32 + i)))] := by rw [am_5_0]; exact hl
  refine W.eq (g2 := F0 m 8 ls [.ref (A_5 (36 + i)), .ref (A_5 (32 + i))]) (by rw [← an_5, am_5_0]) ?_
  clear am_5_0 an_5
  refine lv_dup hx hb dX1_init_8 rfl ?_
  refine lv_bipush (v := 60) hx hb dX1_init_9 (by decide) ?_
  refine wg_cv hS (wg_rIN (As := [.int 60]) (rest := [.ref (A_5 (36 + i)), .ref (A_5 (32 + i))]) F hP hS (c_X3_init l E A_5 C_5 (36 + i) (40 + i) 60 (by decide) (by omega) f36i_c5) ok_X3_init nb_135 rfl rfl ⟨Nat.le_of_ble_eq_true rfl, Nat.le_of_ble_eq_true rfl⟩ rfl hl.1 rfl (Nat.le_of_ble_eq_true rfl) dX1_init_11 ⟨Nat.le_of_ble_eq_true rfl, Nat.le_of_ble_eq_true rfl⟩) (fun A_11 C_11 H locs w_11 hP hS => ?_)
  obtain ⟨hAf_11, hfr_11, n1, n2⟩ := w_11
  have am_11_0 : A_11 (32 + i) = A_5 (32 + i) := hAf_11 (32 + i) (by omega)
  have am_11_1 : A_11 (36 + i) = A_5 (36 + i) := hAf_11 (36 + i) (by omega)
  have f32i_c11 : C_11 (32 + i) = some (.inr (1, [.null])) := by rw [hfr_11 (32 + i) (by omega) (by omega)]; exact f32i_c5
  have f36i_c11 : C_11 (36 + i) = some (.inr (3, [.ref (A_11 (40 + i)), .int 0])) := n1
  have f40i_c11 : C_11 (40 + i) = some (.inl (E.2.1 4, 60, .inr (.inr (.inr (.inr (fun _ => none)))))) := n2
  have hl : lv_has ls 1 [(0, .ref (A_11 (32 + i)))] := by rw [am_11_0]; exact hl
  refine W.eq (g2 := F0 m 14 ls [.ref (A_11 (36 + i)), .ref (A_11 (32 + i))]) (by rw [am_11_1, am_11_0]) ?_
  clear am_11_0 am_11_1
  refine wg_putF F hnm hP hS f32i_c11 rfl iw_X1 tyX1_ok nmX1 0 (by decide) tb_136 rfl rfl rfl (Nat.le_of_ble_eq_true rfl) dX1_init_14 (fun H locs hP hS => ?_)
  obtain ⟨C_14, hC_14⟩ : ∃ z : wg_C, z = va_up C_11 (32 + i) (some (.inr (1, [.ref (A_11 (36 + i))]))) := ⟨_, rfl⟩
  have hP : wg_P E A_11 C_14 H := by rw [hC_14]; exact hP
  have f32i_c14 : C_14 (32 + i) = some (.inr (1, [.ref (A_11 (36 + i))])) := by rw [hC_14]; exact va_up_self _ _ _
  have f36i_c14 : C_14 (36 + i) = some (.inr (3, [.ref (A_11 (40 + i)), .int 0])) := by rw [hC_14]; rw [va_up_ne _ _ (by omega)]; exact f36i_c11
  have f40i_c14 : C_14 (40 + i) = some (.inl (E.2.1 4, 60, .inr (.inr (.inr (.inr (fun _ => none)))))) := by rw [hC_14]; rw [va_up_ne _ _ (by omega)]; exact f40i_c11
  refine W.widen (k := 2) (n := 62) (Nat.le_of_ble_eq_true rfl) (Nat.le_of_ble_eq_true rfl) ?_
  exact wg_vret F hP hS hr hlk (⟨fun r h1 h2 => by rw [hAf_11 r h2, hA_5, va_up_ne _ _ h1], fun r h0 h1 h2 => by rw [hC_14, va_up_ne _ _ h0, hfr_11 r h1 h2, hC_5, va_up_ne _ _ h1], f32i_c14, f36i_c14, f40i_c14⟩) dX1_init_17
set_option maxHeartbeats 4000000 in
set_option maxRecDepth 100000 in
theorem c_X5_init (l : Launch) (E : wg_E) (A : Nat → Nat) (C : wg_C)   (f8 : C 8 = some (.inr (5, [.null, .null]))) : Met l yX5_init (wg_ws yX5_init cX5_init 1 none) (wg_rm 3 2 24) (wg_Pc E A C [.ref (A 8)]) (wg_Qv E (fun A1 C1 => (∀ r, r ≠ 9 → r ≠ 10 → A1 r = A r) ∧ (∀ r, r ≠ 8 → r ≠ 9 → r ≠ 10 → C1 r = C r) ∧ C1 8 = some (.inr (5, [.ref (A1 9), .ref (A1 10)])) ∧ C1 9 = some (.inl (E.2.1 1, 8, .inr (.inl (fun _ => 0)))) ∧ ∃ nd : Nat → Int64, C1 10 = some (.inl (E.2.1 1, 16, .inr (.inl nd))) ∧ ∀ j, 1 ≤ j → j < 16 → nd j = lc_node (fun _ => 0) j)) 2 24 (wg_A E) := by
  refine wg_met (by decide) (Nat.le_of_ble_eq_true rfl) ?_
  intro p e s m below meth c ls F hr hlk hnm hP hS hl
  have F : wg_F p m c cX5_init 1 s ([.ref (A 8)] : List Value).toArray "LightChecks$Tree" E := F
  have hx := F.1
  have hb := F.2.1
  have hml := F.2.2.1
  have hown := F.2.2.2.1
  have hts := F.2.2.2.2.1
  have hl : lv_has ls 1 [(0, .ref (A 8))] := hl
  have hnm : meth.name = "<init>" := hnm
  refine lv_aload_n hx hb dX5_init_0 rfl (lv_at hl 0 rfl) ?_
  refine W.objInit hx hb hown (hts _ tb_51) (hts _ tb_17) (hts _ tb_18) rfl (by rw [hml]; exact hl.1) rfl dX5_init_1 (Nat.le_of_ble_eq_true rfl) (Nat.le_of_ble_eq_true rfl) ?_
  refine W.eq (g2 := F0 m 4 ls []) rfl ?_
  refine lv_aload_n hx hb dX5_init_4 rfl (lv_at hl 0 rfl) ?_
  refine lv_bipush (v := 8) hx hb dX5_init_5 (by decide) ?_
  refine wg_newaF (atype := .long) (a0 := (8, .inr (.inl (fun _ => 0)))) F hP hS 9 1 rfl (fun _ _ h => h) tb_75 (fun _ => rfl) (by decide) (by decide) (by decide) (Nat.le_of_ble_eq_true rfl) (Nat.le_of_ble_eq_true rfl) dX5_init_7 (fun q_7 H hP hS => ?_)
  obtain ⟨A_7, hA_7⟩ : ∃ z : Nat → Nat, z = va_up A 9 q_7 := ⟨_, rfl⟩
  obtain ⟨C_7, hC_7⟩ : ∃ z : wg_C, z = va_up C 9 (some (.inl (E.2.1 1, 8, .inr (.inl (fun _ => 0))))) := ⟨_, rfl⟩
  have hP : wg_P E A_7 C_7 H := by rw [hA_7, hC_7]; exact hP
  have an_7 : q_7 = A_7 9 := by rw [hA_7]; exact (va_up_self _ _ _).symm
  have am_7_0 : A_7 8 = A 8 := by rw [hA_7]; rw [va_up_ne _ _ (by decide)]
  have f8_c7 : C_7 8 = some (.inr (5, [.null, .null])) := by rw [hC_7]; rw [va_up_ne _ _ (by decide)]; exact f8
  have f9_c7 : C_7 9 = some (.inl (E.2.1 1, 8, .inr (.inl (fun _ => 0)))) := by rw [hC_7]; exact va_up_self _ _ _
  have hl : lv_has ls 1 [(0, .ref (A_7 8))] := by rw [am_7_0]; exact hl
  refine W.eq (g2 := F0 m 9 ls [.ref (A_7 9), .ref (A_7 8)]) (by rw [← an_7, am_7_0]) ?_
  clear am_7_0 an_7
  refine wg_putF F hnm hP hS f8_c7 rfl iw_X5 tyX5_ok nmX5 0 (by decide) tb_67 rfl rfl rfl (Nat.le_of_ble_eq_true rfl) dX5_init_9 (fun H locs hP hS => ?_)
  obtain ⟨C_9, hC_9⟩ : ∃ z : wg_C, z = va_up C_7 8 (some (.inr (5, [.ref (A_7 9), .null]))) := ⟨_, rfl⟩
  have hP : wg_P E A_7 C_9 H := by rw [hC_9]; exact hP
  have f8_c9 : C_9 8 = some (.inr (5, [.ref (A_7 9), .null])) := by rw [hC_9]; exact va_up_self _ _ _
  have f9_c9 : C_9 9 = some (.inl (E.2.1 1, 8, .inr (.inl (fun _ => 0)))) := by rw [hC_9]; rw [va_up_ne _ _ (by decide)]; exact f9_c7
  refine lv_aload_n hx hb dX5_init_12 rfl (lv_at hl 0 rfl) ?_
  refine lv_bipush (v := 16) hx hb dX5_init_13 (by decide) ?_
  refine wg_newaF (atype := .long) (a0 := (16, .inr (.inl (fun _ => 0)))) F hP hS 10 1 rfl (fun _ _ h => h) tb_75 (fun _ => rfl) (by decide) (by decide) (by decide) (Nat.le_of_ble_eq_true rfl) (Nat.le_of_ble_eq_true rfl) dX5_init_15 (fun q_15 H hP hS => ?_)
  obtain ⟨A_15, hA_15⟩ : ∃ z : Nat → Nat, z = va_up A_7 10 q_15 := ⟨_, rfl⟩
  obtain ⟨C_15, hC_15⟩ : ∃ z : wg_C, z = va_up C_9 10 (some (.inl (E.2.1 1, 16, .inr (.inl (fun _ => 0))))) := ⟨_, rfl⟩
  have hP : wg_P E A_15 C_15 H := by rw [hA_15, hC_15]; exact hP
  have an_15 : q_15 = A_15 10 := by rw [hA_15]; exact (va_up_self _ _ _).symm
  have am_15_0 : A_15 8 = A_7 8 := by rw [hA_15]; rw [va_up_ne _ _ (by decide)]
  have am_15_1 : A_15 9 = A_7 9 := by rw [hA_15]; rw [va_up_ne _ _ (by decide)]
  have f8_c15 : C_15 8 = some (.inr (5, [.ref (A_15 9), .null])) := by rw [hC_15]; rw [va_up_ne _ _ (by decide)]; rw [am_15_1]; exact f8_c9
  have f9_c15 : C_15 9 = some (.inl (E.2.1 1, 8, .inr (.inl (fun _ => 0)))) := by rw [hC_15]; rw [va_up_ne _ _ (by decide)]; exact f9_c9
  have f10_c15 : C_15 10 = some (.inl (E.2.1 1, 16, .inr (.inl (fun _ => 0)))) := by rw [hC_15]; exact va_up_self _ _ _
  have hl : lv_has ls 1 [(0, .ref (A_15 8))] := by rw [am_15_0]; exact hl
  refine W.eq (g2 := F0 m 17 ls [.ref (A_15 10), .ref (A_15 8)]) (by rw [← an_15, am_15_0]) ?_
  clear am_15_0 am_15_1 an_15
  refine wg_putF F hnm hP hS f8_c15 rfl iw_X5 tyX5_ok nmX5 1 (by decide) tb_68 rfl rfl rfl (Nat.le_of_ble_eq_true rfl) dX5_init_17 (fun H locs hP hS => ?_)
  obtain ⟨C_17, hC_17⟩ : ∃ z : wg_C, z = va_up C_15 8 (some (.inr (5, [.ref (A_15 9), .ref (A_15 10)]))) := ⟨_, rfl⟩
  have hP : wg_P E A_15 C_17 H := by rw [hC_17]; exact hP
  have f8_c17 : C_17 8 = some (.inr (5, [.ref (A_15 9), .ref (A_15 10)])) := by rw [hC_17]; exact va_up_self _ _ _
  have f9_c17 : C_17 9 = some (.inl (E.2.1 1, 8, .inr (.inl (fun _ => 0)))) := by rw [hC_17]; rw [va_up_ne _ _ (by decide)]; exact f9_c15
  have f10_c17 : C_17 10 = some (.inl (E.2.1 1, 16, .inr (.inl (fun _ => 0)))) := by rw [hC_17]; rw [va_up_ne _ _ (by decide)]; exact f10_c15
  refine lv_aload_n hx hb dX5_init_20 rfl (lv_at hl 0 rfl) ?_
  refine wg_cv hS (wg_rV (As := []) (rest := []) F hP hS (c_X5_reckon l E A_15 C_17 (fun _ => 0) (fun _ => 0) f8_c17 f9_c17 f10_c17) ok_X5_reckon tb_52 rfl rfl ⟨Nat.le_of_ble_eq_true rfl, Nat.le_of_ble_eq_true rfl⟩ f8_c17 rfl rfl rfl hl.1 rfl (Nat.le_of_ble_eq_true rfl) dX5_init_21 ⟨Nat.le_of_ble_eq_true rfl, Nat.le_of_ble_eq_true rfl⟩) (fun A1 C_21 H locs w_21 hP hS => ?_)
  obtain ⟨rfl, hfr_21, nd1, hn1, hn2⟩ := w_21
  have f8_c21 : C_21 8 = some (.inr (5, [.ref (A_15 9), .ref (A_15 10)])) := by rw [hfr_21 8 (by decide)]; exact f8_c17
  have f9_c21 : C_21 9 = some (.inl (E.2.1 1, 8, .inr (.inl (fun _ => 0)))) := by rw [hfr_21 9 (by decide)]; exact f9_c17
  refine W.widen (k := 2) (n := 24) (Nat.le_of_ble_eq_true rfl) (Nat.le_of_ble_eq_true rfl) ?_
  exact wg_vret F hP hS hr hlk (⟨fun r h1 h2 => by rw [hA_15, va_up_ne _ _ h2, hA_7, va_up_ne _ _ h1], fun r h0 h1 h2 => by rw [hfr_21 r h2, hC_17, va_up_ne _ _ h0, hC_15, va_up_ne _ _ h2, hC_9, va_up_ne _ _ h0, hC_7, va_up_ne _ _ h1], f8_c21, f9_c21, nd1, hn1, hn2⟩) dX5_init_24
set_option maxHeartbeats 4000000 in
set_option maxRecDepth 100000 in
theorem c_X4_init (l : Launch) (E : wg_E) (A : Nat → Nat) (C : wg_C)   (f11 : C 11 = some (.inr (4, [.int 0, .int 0, .long 0, .long 0, .null, .int 0, .null]))) : Met l yX4_init (wg_ws yX4_init cX4_init 1 none) (wg_rm 1 2 20) (wg_Pc E A C [.ref (A 11)]) (wg_Qv E (fun A1 C1 => (∀ r, r ≠ 12 → r ≠ 13 → A1 r = A r) ∧ (∀ r, r ≠ 11 → r ≠ 12 → r ≠ 13 → C1 r = C r) ∧ C1 11 = some (.inr (4, [.int 0, .int 0, .long 0, .long 0, .ref (A1 12), .int 0, .ref (A1 13)])) ∧ C1 12 = some (.inl (E.2.1 1, 4, .inr (.inl (fun _ => 0)))) ∧ C1 13 = some (.inl (E.2.1 1, 16, .inr (.inl (fun _ => 0)))))) 2 20 (wg_A E) := by
  refine wg_met (by decide) (Nat.le_of_ble_eq_true rfl) ?_
  intro p e s m below meth c ls F hr hlk hnm hP hS hl
  have F : wg_F p m c cX4_init 1 s ([.ref (A 11)] : List Value).toArray "LightChecks$Proof" E := F
  have hx := F.1
  have hb := F.2.1
  have hml := F.2.2.1
  have hown := F.2.2.2.1
  have hts := F.2.2.2.2.1
  have hl : lv_has ls 1 [(0, .ref (A 11))] := hl
  have hnm : meth.name = "<init>" := hnm
  refine lv_aload_n hx hb dX4_init_0 rfl (lv_at hl 0 rfl) ?_
  refine W.objInit hx hb hown (hts _ tb_81) (hts _ tb_17) (hts _ tb_18) rfl (by rw [hml]; exact hl.1) rfl dX4_init_1 (Nat.le_of_ble_eq_true rfl) (Nat.le_of_ble_eq_true rfl) ?_
  refine W.eq (g2 := F0 m 4 ls []) rfl ?_
  refine lv_aload_n hx hb dX4_init_4 rfl (lv_at hl 0 rfl) ?_
  refine lv_iconst (v := 0) hx hb dX4_init_5 (by decide) ?_
  refine wg_put F hP hS f11 rfl iw_X4 tyX4_ok nmX4 0 (by decide) tb_82 rfl rfl rfl (Nat.le_of_ble_eq_true rfl) dX4_init_6 (fun H locs hP hS => ?_)
  obtain ⟨C_6, hC_6⟩ : ∃ z : wg_C, z = va_up C 11 (some (.inr (4, [.int 0, .int 0, .long 0, .long 0, .null, .int 0, .null]))) := ⟨_, rfl⟩
  have hP : wg_P E A C_6 H := by rw [hC_6]; exact hP
  have f11_c6 : C_6 11 = some (.inr (4, [.int 0, .int 0, .long 0, .long 0, .null, .int 0, .null])) := by rw [hC_6]; exact va_up_self _ _ _
  refine lv_aload_n hx hb dX4_init_9 rfl (lv_at hl 0 rfl) ?_
  refine lv_iconst (v := 0) hx hb dX4_init_10 (by decide) ?_
  refine wg_put F hP hS f11_c6 rfl iw_X4 tyX4_ok nmX4 1 (by decide) tb_83 rfl rfl rfl (Nat.le_of_ble_eq_true rfl) dX4_init_11 (fun H locs hP hS => ?_)
  obtain ⟨C_11, hC_11⟩ : ∃ z : wg_C, z = va_up C_6 11 (some (.inr (4, [.int 0, .int 0, .long 0, .long 0, .null, .int 0, .null]))) := ⟨_, rfl⟩
  have hP : wg_P E A C_11 H := by rw [hC_11]; exact hP
  have f11_c11 : C_11 11 = some (.inr (4, [.int 0, .int 0, .long 0, .long 0, .null, .int 0, .null])) := by rw [hC_11]; exact va_up_self _ _ _
  refine lv_aload_n hx hb dX4_init_14 rfl (lv_at hl 0 rfl) ?_
  refine lv_lconst (v := 0) hx hb dX4_init_15 (by decide) ?_
  refine wg_put F hP hS f11_c11 rfl iw_X4 tyX4_ok nmX4 2 (by decide) tb_84 rfl rfl rfl (Nat.le_of_ble_eq_true rfl) dX4_init_16 (fun H locs hP hS => ?_)
  obtain ⟨C_16, hC_16⟩ : ∃ z : wg_C, z = va_up C_11 11 (some (.inr (4, [.int 0, .int 0, .long 0, .long 0, .null, .int 0, .null]))) := ⟨_, rfl⟩
  have hP : wg_P E A C_16 H := by rw [hC_16]; exact hP
  have f11_c16 : C_16 11 = some (.inr (4, [.int 0, .int 0, .long 0, .long 0, .null, .int 0, .null])) := by rw [hC_16]; exact va_up_self _ _ _
  refine lv_aload_n hx hb dX4_init_19 rfl (lv_at hl 0 rfl) ?_
  refine lv_lconst (v := 0) hx hb dX4_init_20 (by decide) ?_
  refine wg_put F hP hS f11_c16 rfl iw_X4 tyX4_ok nmX4 3 (by decide) tb_85 rfl rfl rfl (Nat.le_of_ble_eq_true rfl) dX4_init_21 (fun H locs hP hS => ?_)
  obtain ⟨C_21, hC_21⟩ : ∃ z : wg_C, z = va_up C_16 11 (some (.inr (4, [.int 0, .int 0, .long 0, .long 0, .null, .int 0, .null]))) := ⟨_, rfl⟩
  have hP : wg_P E A C_21 H := by rw [hC_21]; exact hP
  have f11_c21 : C_21 11 = some (.inr (4, [.int 0, .int 0, .long 0, .long 0, .null, .int 0, .null])) := by rw [hC_21]; exact va_up_self _ _ _
  refine lv_aload_n hx hb dX4_init_24 rfl (lv_at hl 0 rfl) ?_
  refine lv_iconst (v := 4) hx hb dX4_init_25 (by decide) ?_
  refine wg_newaF (atype := .long) (a0 := (4, .inr (.inl (fun _ => 0)))) F hP hS 12 1 rfl (fun _ _ h => h) tb_75 (fun _ => rfl) (by decide) (by decide) (by decide) (Nat.le_of_ble_eq_true rfl) (Nat.le_of_ble_eq_true rfl) dX4_init_26 (fun q_26 H hP hS => ?_)
  obtain ⟨A_26, hA_26⟩ : ∃ z : Nat → Nat, z = va_up A 12 q_26 := ⟨_, rfl⟩
  obtain ⟨C_26, hC_26⟩ : ∃ z : wg_C, z = va_up C_21 12 (some (.inl (E.2.1 1, 4, .inr (.inl (fun _ => 0))))) := ⟨_, rfl⟩
  have hP : wg_P E A_26 C_26 H := by rw [hA_26, hC_26]; exact hP
  have an_26 : q_26 = A_26 12 := by rw [hA_26]; exact (va_up_self _ _ _).symm
  have am_26_0 : A_26 11 = A 11 := by rw [hA_26]; rw [va_up_ne _ _ (by decide)]
  have f11_c26 : C_26 11 = some (.inr (4, [.int 0, .int 0, .long 0, .long 0, .null, .int 0, .null])) := by rw [hC_26]; rw [va_up_ne _ _ (by decide)]; exact f11_c21
  have f12_c26 : C_26 12 = some (.inl (E.2.1 1, 4, .inr (.inl (fun _ => 0)))) := by rw [hC_26]; exact va_up_self _ _ _
  have hl : lv_has ls 1 [(0, .ref (A_26 11))] := by rw [am_26_0]; exact hl
  refine W.eq (g2 := F0 m 28 ls [.ref (A_26 12), .ref (A_26 11)]) (by rw [← an_26, am_26_0]) ?_
  clear am_26_0 an_26
  refine wg_putF F hnm hP hS f11_c26 rfl iw_X4 tyX4_ok nmX4 4 (by decide) tb_86 rfl rfl rfl (Nat.le_of_ble_eq_true rfl) dX4_init_28 (fun H locs hP hS => ?_)
  obtain ⟨C_28, hC_28⟩ : ∃ z : wg_C, z = va_up C_26 11 (some (.inr (4, [.int 0, .int 0, .long 0, .long 0, .ref (A_26 12), .int 0, .null]))) := ⟨_, rfl⟩
  have hP : wg_P E A_26 C_28 H := by rw [hC_28]; exact hP
  have f11_c28 : C_28 11 = some (.inr (4, [.int 0, .int 0, .long 0, .long 0, .ref (A_26 12), .int 0, .null])) := by rw [hC_28]; exact va_up_self _ _ _
  have f12_c28 : C_28 12 = some (.inl (E.2.1 1, 4, .inr (.inl (fun _ => 0)))) := by rw [hC_28]; rw [va_up_ne _ _ (by decide)]; exact f12_c26
  refine lv_aload_n hx hb dX4_init_31 rfl (lv_at hl 0 rfl) ?_
  refine lv_iconst (v := 0) hx hb dX4_init_32 (by decide) ?_
  refine wg_put F hP hS f11_c28 rfl iw_X4 tyX4_ok nmX4 5 (by decide) tb_87 rfl rfl rfl (Nat.le_of_ble_eq_true rfl) dX4_init_33 (fun H locs hP hS => ?_)
  obtain ⟨C_33, hC_33⟩ : ∃ z : wg_C, z = va_up C_28 11 (some (.inr (4, [.int 0, .int 0, .long 0, .long 0, .ref (A_26 12), .int 0, .null]))) := ⟨_, rfl⟩
  have hP : wg_P E A_26 C_33 H := by rw [hC_33]; exact hP
  have f11_c33 : C_33 11 = some (.inr (4, [.int 0, .int 0, .long 0, .long 0, .ref (A_26 12), .int 0, .null])) := by rw [hC_33]; exact va_up_self _ _ _
  have f12_c33 : C_33 12 = some (.inl (E.2.1 1, 4, .inr (.inl (fun _ => 0)))) := by rw [hC_33]; rw [va_up_ne _ _ (by decide)]; exact f12_c28
  refine lv_aload_n hx hb dX4_init_36 rfl (lv_at hl 0 rfl) ?_
  refine lv_bipush (v := 16) hx hb dX4_init_37 (by decide) ?_
  refine wg_newaF (atype := .long) (a0 := (16, .inr (.inl (fun _ => 0)))) F hP hS 13 1 rfl (fun _ _ h => h) tb_75 (fun _ => rfl) (by decide) (by decide) (by decide) (Nat.le_of_ble_eq_true rfl) (Nat.le_of_ble_eq_true rfl) dX4_init_39 (fun q_39 H hP hS => ?_)
  obtain ⟨A_39, hA_39⟩ : ∃ z : Nat → Nat, z = va_up A_26 13 q_39 := ⟨_, rfl⟩
  obtain ⟨C_39, hC_39⟩ : ∃ z : wg_C, z = va_up C_33 13 (some (.inl (E.2.1 1, 16, .inr (.inl (fun _ => 0))))) := ⟨_, rfl⟩
  have hP : wg_P E A_39 C_39 H := by rw [hA_39, hC_39]; exact hP
  have an_39 : q_39 = A_39 13 := by rw [hA_39]; exact (va_up_self _ _ _).symm
  have am_39_0 : A_39 11 = A_26 11 := by rw [hA_39]; rw [va_up_ne _ _ (by decide)]
  have am_39_1 : A_39 12 = A_26 12 := by rw [hA_39]; rw [va_up_ne _ _ (by decide)]
  have f11_c39 : C_39 11 = some (.inr (4, [.int 0, .int 0, .long 0, .long 0, .ref (A_39 12), .int 0, .null])) := by rw [hC_39]; rw [va_up_ne _ _ (by decide)]; rw [am_39_1]; exact f11_c33
  have f12_c39 : C_39 12 = some (.inl (E.2.1 1, 4, .inr (.inl (fun _ => 0)))) := by rw [hC_39]; rw [va_up_ne _ _ (by decide)]; exact f12_c33
  have f13_c39 : C_39 13 = some (.inl (E.2.1 1, 16, .inr (.inl (fun _ => 0)))) := by rw [hC_39]; exact va_up_self _ _ _
  have hl : lv_has ls 1 [(0, .ref (A_39 11))] := by rw [am_39_0]; exact hl
  refine W.eq (g2 := F0 m 41 ls [.ref (A_39 13), .ref (A_39 11)]) (by rw [← an_39, am_39_0]) ?_
  clear am_39_0 am_39_1 an_39
  refine wg_putF F hnm hP hS f11_c39 rfl iw_X4 tyX4_ok nmX4 6 (by decide) tb_89 rfl rfl rfl (Nat.le_of_ble_eq_true rfl) dX4_init_41 (fun H locs hP hS => ?_)
  obtain ⟨C_41, hC_41⟩ : ∃ z : wg_C, z = va_up C_39 11 (some (.inr (4, [.int 0, .int 0, .long 0, .long 0, .ref (A_39 12), .int 0, .ref (A_39 13)]))) := ⟨_, rfl⟩
  have hP : wg_P E A_39 C_41 H := by rw [hC_41]; exact hP
  have f11_c41 : C_41 11 = some (.inr (4, [.int 0, .int 0, .long 0, .long 0, .ref (A_39 12), .int 0, .ref (A_39 13)])) := by rw [hC_41]; exact va_up_self _ _ _
  have f12_c41 : C_41 12 = some (.inl (E.2.1 1, 4, .inr (.inl (fun _ => 0)))) := by rw [hC_41]; rw [va_up_ne _ _ (by decide)]; exact f12_c39
  have f13_c41 : C_41 13 = some (.inl (E.2.1 1, 16, .inr (.inl (fun _ => 0)))) := by rw [hC_41]; rw [va_up_ne _ _ (by decide)]; exact f13_c39
  refine W.widen (k := 2) (n := 20) (Nat.le_of_ble_eq_true rfl) (Nat.le_of_ble_eq_true rfl) ?_
  exact wg_vret F hP hS hr hlk (⟨fun r h1 h2 => by rw [hA_39, va_up_ne _ _ h2, hA_26, va_up_ne _ _ h1], fun r h0 h1 h2 => by rw [hC_41, va_up_ne _ _ h0, hC_39, va_up_ne _ _ h2, hC_33, va_up_ne _ _ h0, hC_28, va_up_ne _ _ h0, hC_26, va_up_ne _ _ h1, hC_21, va_up_ne _ _ h0, hC_16, va_up_ne _ _ h0, hC_11, va_up_ne _ _ h0, hC_6, va_up_ne _ _ h0], f11_c41, f12_c41, f13_c41⟩) dX4_init_44
