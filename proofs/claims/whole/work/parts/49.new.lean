theorem lc_big0 {q k : Nat} (h : q = 0 ∨ 1000 ≤ q) (hk : 1 ≤ k ∧ k < 1000) : q ≠ k := by omega
set_option maxHeartbeats 4000000 in
set_option maxRecDepth 100000 in
theorem c_X7_init (l : Launch) (E : wg_E) (A : Nat → Nat) (C : wg_C)   (f0 : C 0 = some (.inr (7, [.null, .int 0, .null, .null, .null, .null, .null, .null, .null]))) : Met l yX7_init (wg_ws yX7_init cX7_init 2 none) (wg_rm 4 40 1000) (wg_Pc E A C [.ref (A 0)]) (wg_Qv E (fun A1 C1 => (∀ q, q = 0 ∨ 1000 ≤ q → A1 q = A q) ∧ (∀ q, 1000 ≤ q → C1 q = C q) ∧ lx E A1 C1 st_0)) 40 1000 (wg_A E) := by
  refine wg_met (by decide) (Nat.le_of_ble_eq_true rfl) ?_
  intro p e s m below meth c ls F hr hlk hnm hP hS hl
  have F : wg_F p m c cX7_init 2 s ([.ref (A 0)] : List Value).toArray "LightChecks" E := F
  have hx := F.1
  have hb := F.2.1
  have hml := F.2.2.1
  have hown := F.2.2.2.1
  have hts := F.2.2.2.2.1
  have hl : lv_has ls 2 [(0, .ref (A 0))] := hl
  have hnm : meth.name = "<init>" := hnm
  refine lv_aload_n hx hb dX7_init_0 rfl (lv_at hl 0 rfl) ?_
  refine W.objInit hx hb hown (hts _ tb_16) (hts _ tb_17) (hts _ tb_18) rfl (by rw [hml]; exact hl.1) rfl dX7_init_1 (Nat.le_of_ble_eq_true rfl) (Nat.le_of_ble_eq_true rfl) ?_
  refine W.eq (g2 := F0 m 4 ls []) rfl ?_
  refine lv_aload_n hx hb dX7_init_4 rfl (lv_at hl 0 rfl) ?_
  refine lv_bipush (v := 16) hx hb dX7_init_5 (by decide) ?_
  refine wg_newqF (N' := 16) F hP hS 1 3 rfl tb_19 nb_20 (by decide) (by decide) (by decide) (Nat.le_of_ble_eq_true rfl) (Nat.le_of_ble_eq_true rfl) dX7_init_7 (fun q_7 H hP hS => ?_)
  obtain ⟨A_7, hA_7⟩ : ∃ z : Nat → Nat, z = va_up A 1 q_7 := ⟨_, rfl⟩
  obtain ⟨C_7, hC_7⟩ : ∃ z : wg_C, z = va_up C 1 (some (.inl (E.2.1 3, 16, .inr (.inr (.inr (.inr (fun _ => none))))))) := ⟨_, rfl⟩
  have hP : wg_P E A_7 C_7 H := by rw [hA_7, hC_7]; exact hP
  have an_7 : q_7 = A_7 1 := by rw [hA_7]; exact (va_up_self _ _ _).symm
  have am_7_0 : A_7 0 = A 0 := by rw [hA_7]; rw [va_up_ne _ _ (by decide)]
  have f0_c7 : C_7 0 = some (.inr (7, [.null, .int 0, .null, .null, .null, .null, .null, .null, .null])) := by rw [hC_7]; rw [va_up_ne _ _ (by decide)]; exact f0
  have f1_c7 : C_7 1 = some (.inl (E.2.1 3, 16, .inr (.inr (.inr (.inr (fun _ => none)))))) := by rw [hC_7]; exact va_up_self _ _ _
  have hl : lv_has ls 2 [(0, .ref (A_7 0))] := by rw [am_7_0]; exact hl
  refine W.eq (g2 := F0 m 10 ls [.ref (A_7 1), .ref (A_7 0)]) (by rw [← an_7, am_7_0]) ?_
  clear am_7_0 an_7
  refine wg_putF F hnm hP hS f0_c7 rfl iw_X7 tyX7_ok nmX7 0 (by decide) tb_163 rfl rfl rfl (Nat.le_of_ble_eq_true rfl) dX7_init_10 (fun H locs hP hS => ?_)
  obtain ⟨C_10, hC_10⟩ : ∃ z : wg_C, z = va_up C_7 0 (some (.inr (7, [.ref (A_7 1), .int 0, .null, .null, .null, .null, .null, .null, .null]))) := ⟨_, rfl⟩
  have hP : wg_P E A_7 C_10 H := by rw [hC_10]; exact hP
  have f0_c10 : C_10 0 = some (.inr (7, [.ref (A_7 1), .int 0, .null, .null, .null, .null, .null, .null, .null])) := by rw [hC_10]; exact va_up_self _ _ _
  have f1_c10 : C_10 1 = some (.inl (E.2.1 3, 16, .inr (.inr (.inr (.inr (fun _ => none)))))) := by rw [hC_10]; rw [va_up_ne _ _ (by decide)]; exact f1_c7
  refine lv_aload_n hx hb dX7_init_13 rfl (lv_at hl 0 rfl) ?_
  refine lv_iconst (v := 0) hx hb dX7_init_14 (by decide) ?_
  refine wg_put F hP hS f0_c10 rfl iw_X7 tyX7_ok nmX7 1 (by decide) tb_164 rfl rfl rfl (Nat.le_of_ble_eq_true rfl) dX7_init_15 (fun H locs hP hS => ?_)
  obtain ⟨C_15, hC_15⟩ : ∃ z : wg_C, z = va_up C_10 0 (some (.inr (7, [.ref (A_7 1), .int 0, .null, .null, .null, .null, .null, .null, .null]))) := ⟨_, rfl⟩
  have hP : wg_P E A_7 C_15 H := by rw [hC_15]; exact hP
  have f0_c15 : C_15 0 = some (.inr (7, [.ref (A_7 1), .int 0, .null, .null, .null, .null, .null, .null, .null])) := by rw [hC_15]; exact va_up_self _ _ _
  have f1_c15 : C_15 1 = some (.inl (E.2.1 3, 16, .inr (.inr (.inr (.inr (fun _ => none)))))) := by rw [hC_15]; rw [va_up_ne _ _ (by decide)]; exact f1_c10
  refine lv_aload_n hx hb dX7_init_18 rfl (lv_at hl 0 rfl) ?_
  refine wg_newF (ci := 3) F hP hS 2 [.null, .int 0] rfl iw_X3 tyX3_ok tb_21 tb_22 tb_2 (fun j hj => by rcases (show j = 0 ∨ j = 1 by omega) with rfl | rfl <;> rfl) (Nat.le_of_ble_eq_true rfl) (Nat.le_of_ble_eq_true rfl) dX7_init_19 (fun q_19 H hP hS => ?_)
  obtain ⟨A_19, hA_19⟩ : ∃ z : Nat → Nat, z = va_up A_7 2 q_19 := ⟨_, rfl⟩
  obtain ⟨C_19, hC_19⟩ : ∃ z : wg_C, z = va_up C_15 2 (some (.inr (3, [.null, .int 0]))) := ⟨_, rfl⟩
  have hP : wg_P E A_19 C_19 H := by rw [hA_19, hC_19]; exact hP
  have an_19 : q_19 = A_19 2 := by rw [hA_19]; exact (va_up_self _ _ _).symm
  have am_19_0 : A_19 0 = A_7 0 := by rw [hA_19]; rw [va_up_ne _ _ (by decide)]
  have am_19_1 : A_19 1 = A_7 1 := by rw [hA_19]; rw [va_up_ne _ _ (by decide)]
  have f0_c19 : C_19 0 = some (.inr (7, [.ref (A_19 1), .int 0, .null, .null, .null, .null, .null, .null, .null])) := by rw [hC_19]; rw [va_up_ne _ _ (by decide)]; rw [am_19_1]; exact f0_c15
  have f1_c19 : C_19 1 = some (.inl (E.2.1 3, 16, .inr (.inr (.inr (.inr (fun _ => none)))))) := by rw [hC_19]; rw [va_up_ne _ _ (by decide)]; exact f1_c15
  have f2_c19 : C_19 2 = some (.inr (3, [.null, .int 0])) := by rw [hC_19]; exact va_up_self _ _ _
  have hl : lv_has ls 2 [(0, .ref (A_19 0))] := by rw [am_19_0]; exact hl
  refine W.eq (g2 := F0 m 22 ls [.ref (A_19 2), .ref (A_19 0)]) (by rw [← an_19, am_19_0]) ?_
  clear am_19_0 am_19_1 an_19
  refine lv_dup hx hb dX7_init_22 rfl ?_
  refine lv_bipush (v := 60) hx hb dX7_init_23 (by decide) ?_
  refine wg_topi (y := nI 60) rfl ?_
  refine wg_cv hS (wg_rIN (As := [.int (nI 60)]) (rest := [.ref (A_19 2), .ref (A_19 0)]) F hP hS (c_X3_init l E A_19 C_19 2 3 60 (by decide) (by decide) f2_c19) ok_X3_init nb_23 rfl rfl ⟨Nat.le_of_ble_eq_true rfl, Nat.le_of_ble_eq_true rfl⟩ rfl hl.1 rfl (Nat.le_of_ble_eq_true rfl) dX7_init_25 ⟨Nat.le_of_ble_eq_true rfl, Nat.le_of_ble_eq_true rfl⟩) (fun A_25 C_25 H locs w_25 hP hS => ?_)
  obtain ⟨hAf_25, hfr_25, n1, n2⟩ := w_25
  have am_25_0 : A_25 0 = A_19 0 := hAf_25 0 (by decide)
  have am_25_1 : A_25 2 = A_19 2 := hAf_25 2 (by decide)
  have am_25_2 : A_25 1 = A_19 1 := hAf_25 1 (by decide)
  have f0_c25 : C_25 0 = some (.inr (7, [.ref (A_25 1), .int 0, .null, .null, .null, .null, .null, .null, .null])) := by rw [hfr_25 0 (by decide) (by decide)]; rw [am_25_2]; exact f0_c19
  have f1_c25 : C_25 1 = some (.inl (E.2.1 3, 16, .inr (.inr (.inr (.inr (fun _ => none)))))) := by rw [hfr_25 1 (by decide) (by decide)]; exact f1_c19
  have f2_c25 : C_25 2 = some (.inr (3, [.ref (A_25 3), .int 0])) := n1
  have f3_c25 : C_25 3 = some (.inl (E.2.1 4, 60, .inr (.inr (.inr (.inr (fun _ => none)))))) := n2
  have hl : lv_has ls 2 [(0, .ref (A_25 0))] := by rw [am_25_0]; exact hl
  refine W.eq (g2 := F0 m 28 ls [.ref (A_25 2), .ref (A_25 0)]) (by rw [am_25_1, am_25_0]) ?_
  clear am_25_0 am_25_1 am_25_2
  refine wg_putF F hnm hP hS f0_c25 rfl iw_X7 tyX7_ok nmX7 2 (by decide) tb_165 rfl rfl rfl (Nat.le_of_ble_eq_true rfl) dX7_init_28 (fun H locs hP hS => ?_)
  obtain ⟨C_28, hC_28⟩ : ∃ z : wg_C, z = va_up C_25 0 (some (.inr (7, [.ref (A_25 1), .int 0, .ref (A_25 2), .null, .null, .null, .null, .null, .null]))) := ⟨_, rfl⟩
  have hP : wg_P E A_25 C_28 H := by rw [hC_28]; exact hP
  have f0_c28 : C_28 0 = some (.inr (7, [.ref (A_25 1), .int 0, .ref (A_25 2), .null, .null, .null, .null, .null, .null])) := by rw [hC_28]; exact va_up_self _ _ _
  have f1_c28 : C_28 1 = some (.inl (E.2.1 3, 16, .inr (.inr (.inr (.inr (fun _ => none)))))) := by rw [hC_28]; rw [va_up_ne _ _ (by decide)]; exact f1_c25
  have f2_c28 : C_28 2 = some (.inr (3, [.ref (A_25 3), .int 0])) := by rw [hC_28]; rw [va_up_ne _ _ (by decide)]; exact f2_c25
  have f3_c28 : C_28 3 = some (.inl (E.2.1 4, 60, .inr (.inr (.inr (.inr (fun _ => none)))))) := by rw [hC_28]; rw [va_up_ne _ _ (by decide)]; exact f3_c25
  refine lv_aload_n hx hb dX7_init_31 rfl (lv_at hl 0 rfl) ?_
  refine lv_iconst (v := 4) hx hb dX7_init_32 (by decide) ?_
  refine wg_newaF (atype := .int) (a0 := (4, .inl (fun _ => 0))) F hP hS 4 0 rfl (fun _ _ h => h) tb_74 (fun _ => rfl) (by decide) (by decide) (by decide) (Nat.le_of_ble_eq_true rfl) (Nat.le_of_ble_eq_true rfl) dX7_init_33 (fun q_33 H hP hS => ?_)
  obtain ⟨A_33, hA_33⟩ : ∃ z : Nat → Nat, z = va_up A_25 4 q_33 := ⟨_, rfl⟩
  obtain ⟨C_33, hC_33⟩ : ∃ z : wg_C, z = va_up C_28 4 (some (.inl (E.2.1 0, 4, .inl (fun _ => 0)))) := ⟨_, rfl⟩
  have hP : wg_P E A_33 C_33 H := by rw [hA_33, hC_33]; exact hP
  have an_33 : q_33 = A_33 4 := by rw [hA_33]; exact (va_up_self _ _ _).symm
  have am_33_0 : A_33 0 = A_25 0 := by rw [hA_33]; rw [va_up_ne _ _ (by decide)]
  have am_33_1 : A_33 1 = A_25 1 := by rw [hA_33]; rw [va_up_ne _ _ (by decide)]
  have am_33_2 : A_33 2 = A_25 2 := by rw [hA_33]; rw [va_up_ne _ _ (by decide)]
  have am_33_3 : A_33 3 = A_25 3 := by rw [hA_33]; rw [va_up_ne _ _ (by decide)]
  have f0_c33 : C_33 0 = some (.inr (7, [.ref (A_33 1), .int 0, .ref (A_33 2), .null, .null, .null, .null, .null, .null])) := by rw [hC_33]; rw [va_up_ne _ _ (by decide)]; rw [am_33_1, am_33_2]; exact f0_c28
  have f1_c33 : C_33 1 = some (.inl (E.2.1 3, 16, .inr (.inr (.inr (.inr (fun _ => none)))))) := by rw [hC_33]; rw [va_up_ne _ _ (by decide)]; exact f1_c28
  have f2_c33 : C_33 2 = some (.inr (3, [.ref (A_33 3), .int 0])) := by rw [hC_33]; rw [va_up_ne _ _ (by decide)]; rw [am_33_3]; exact f2_c28
  have f3_c33 : C_33 3 = some (.inl (E.2.1 4, 60, .inr (.inr (.inr (.inr (fun _ => none)))))) := by rw [hC_33]; rw [va_up_ne _ _ (by decide)]; exact f3_c28
  have f4_c33 : C_33 4 = some (.inl (E.2.1 0, 4, .inl (fun _ => 0))) := by rw [hC_33]; exact va_up_self _ _ _
  have hl : lv_has ls 2 [(0, .ref (A_33 0))] := by rw [am_33_0]; exact hl
  refine W.eq (g2 := F0 m 35 ls [.ref (A_33 4), .ref (A_33 0)]) (by rw [← an_33, am_33_0]) ?_
  clear am_33_0 am_33_1 am_33_2 am_33_3 an_33
  refine lv_dup hx hb dX7_init_35 rfl ?_
  refine lv_iconst (v := 0) hx hb dX7_init_36 (by decide) ?_
  refine lv_iconst (v := 1) hx hb dX7_init_37 (by decide) ?_
  refine wg_ist F hP hS f4_c33 (vp_in_nI (n := 0) (by decide) (by decide)) dX7_init_38 (fun H locs hP hS => ?_)
  obtain ⟨C_38, hC_38⟩ : ∃ z : wg_C, z = va_up C_33 4 (some (.inl (E.2.1 0, 4, .inl (upd (fun _ => 0) (0 : Int32).toNatClampNeg 1)))) := ⟨_, rfl⟩
  have hP : wg_P E A_33 C_38 H := by rw [hC_38]; exact hP
  have f0_c38 : C_38 0 = some (.inr (7, [.ref (A_33 1), .int 0, .ref (A_33 2), .null, .null, .null, .null, .null, .null])) := by rw [hC_38]; rw [va_up_ne _ _ (by decide)]; exact f0_c33
  have f1_c38 : C_38 1 = some (.inl (E.2.1 3, 16, .inr (.inr (.inr (.inr (fun _ => none)))))) := by rw [hC_38]; rw [va_up_ne _ _ (by decide)]; exact f1_c33
  have f2_c38 : C_38 2 = some (.inr (3, [.ref (A_33 3), .int 0])) := by rw [hC_38]; rw [va_up_ne _ _ (by decide)]; exact f2_c33
  have f3_c38 : C_38 3 = some (.inl (E.2.1 4, 60, .inr (.inr (.inr (.inr (fun _ => none)))))) := by rw [hC_38]; rw [va_up_ne _ _ (by decide)]; exact f3_c33
  have f4_c38 : C_38 4 = some (.inl (E.2.1 0, 4, .inl (upd (fun _ => 0) (0 : Int32).toNatClampNeg 1))) := by rw [hC_38]; exact va_up_self _ _ _
  refine lv_dup hx hb dX7_init_39 rfl ?_
  refine lv_iconst (v := 1) hx hb dX7_init_40 (by decide) ?_
  refine lv_iconst (v := 3) hx hb dX7_init_41 (by decide) ?_
  refine wg_ist F hP hS f4_c38 (vp_in_nI (n := 1) (by decide) (by decide)) dX7_init_42 (fun H locs hP hS => ?_)
  obtain ⟨C_42, hC_42⟩ : ∃ z : wg_C, z = va_up C_38 4 (some (.inl (E.2.1 0, 4, .inl (upd (upd (fun _ => 0) (0 : Int32).toNatClampNeg 1) (1 : Int32).toNatClampNeg 3)))) := ⟨_, rfl⟩
  have hP : wg_P E A_33 C_42 H := by rw [hC_42]; exact hP
  have f0_c42 : C_42 0 = some (.inr (7, [.ref (A_33 1), .int 0, .ref (A_33 2), .null, .null, .null, .null, .null, .null])) := by rw [hC_42]; rw [va_up_ne _ _ (by decide)]; exact f0_c38
  have f1_c42 : C_42 1 = some (.inl (E.2.1 3, 16, .inr (.inr (.inr (.inr (fun _ => none)))))) := by rw [hC_42]; rw [va_up_ne _ _ (by decide)]; exact f1_c38
  have f2_c42 : C_42 2 = some (.inr (3, [.ref (A_33 3), .int 0])) := by rw [hC_42]; rw [va_up_ne _ _ (by decide)]; exact f2_c38
  have f3_c42 : C_42 3 = some (.inl (E.2.1 4, 60, .inr (.inr (.inr (.inr (fun _ => none)))))) := by rw [hC_42]; rw [va_up_ne _ _ (by decide)]; exact f3_c38
  have f4_c42 : C_42 4 = some (.inl (E.2.1 0, 4, .inl (upd (upd (fun _ => 0) (0 : Int32).toNatClampNeg 1) (1 : Int32).toNatClampNeg 3))) := by rw [hC_42]; exact va_up_self _ _ _
  refine lv_dup hx hb dX7_init_43 rfl ?_
  refine lv_iconst (v := 2) hx hb dX7_init_44 (by decide) ?_
  refine lv_bipush (v := 50) hx hb dX7_init_45 (by decide) ?_
  refine wg_ist F hP hS f4_c42 (vp_in_nI (n := 2) (by decide) (by decide)) dX7_init_47 (fun H locs hP hS => ?_)
  obtain ⟨C_47, hC_47⟩ : ∃ z : wg_C, z = va_up C_42 4 (some (.inl (E.2.1 0, 4, .inl (upd (upd (upd (fun _ => 0) (0 : Int32).toNatClampNeg 1) (1 : Int32).toNatClampNeg 3) (2 : Int32).toNatClampNeg 50)))) := ⟨_, rfl⟩
  have hP : wg_P E A_33 C_47 H := by rw [hC_47]; exact hP
  have f0_c47 : C_47 0 = some (.inr (7, [.ref (A_33 1), .int 0, .ref (A_33 2), .null, .null, .null, .null, .null, .null])) := by rw [hC_47]; rw [va_up_ne _ _ (by decide)]; exact f0_c42
  have f1_c47 : C_47 1 = some (.inl (E.2.1 3, 16, .inr (.inr (.inr (.inr (fun _ => none)))))) := by rw [hC_47]; rw [va_up_ne _ _ (by decide)]; exact f1_c42
  have f2_c47 : C_47 2 = some (.inr (3, [.ref (A_33 3), .int 0])) := by rw [hC_47]; rw [va_up_ne _ _ (by decide)]; exact f2_c42
  have f3_c47 : C_47 3 = some (.inl (E.2.1 4, 60, .inr (.inr (.inr (.inr (fun _ => none)))))) := by rw [hC_47]; rw [va_up_ne _ _ (by decide)]; exact f3_c42
  have f4_c47 : C_47 4 = some (.inl (E.2.1 0, 4, .inl (upd (upd (upd (fun _ => 0) (0 : Int32).toNatClampNeg 1) (1 : Int32).toNatClampNeg 3) (2 : Int32).toNatClampNeg 50))) := by rw [hC_47]; exact va_up_self _ _ _
  refine lv_dup hx hb dX7_init_48 rfl ?_
  refine lv_iconst (v := 3) hx hb dX7_init_49 (by decide) ?_
  refine lv_iconst (v := 4) hx hb dX7_init_50 (by decide) ?_
  refine wg_ist F hP hS f4_c47 (vp_in_nI (n := 3) (by decide) (by decide)) dX7_init_51 (fun H locs hP hS => ?_)
  obtain ⟨C_51, hC_51⟩ : ∃ z : wg_C, z = va_up C_47 4 (some (.inl (E.2.1 0, 4, .inl (upd (upd (upd (upd (fun _ => 0) (0 : Int32).toNatClampNeg 1) (1 : Int32).toNatClampNeg 3) (2 : Int32).toNatClampNeg 50) (3 : Int32).toNatClampNeg 4)))) := ⟨_, rfl⟩
  have hP : wg_P E A_33 C_51 H := by rw [hC_51]; exact hP
  have f0_c51 : C_51 0 = some (.inr (7, [.ref (A_33 1), .int 0, .ref (A_33 2), .null, .null, .null, .null, .null, .null])) := by rw [hC_51]; rw [va_up_ne _ _ (by decide)]; exact f0_c47
  have f1_c51 : C_51 1 = some (.inl (E.2.1 3, 16, .inr (.inr (.inr (.inr (fun _ => none)))))) := by rw [hC_51]; rw [va_up_ne _ _ (by decide)]; exact f1_c47
  have f2_c51 : C_51 2 = some (.inr (3, [.ref (A_33 3), .int 0])) := by rw [hC_51]; rw [va_up_ne _ _ (by decide)]; exact f2_c47
  have f3_c51 : C_51 3 = some (.inl (E.2.1 4, 60, .inr (.inr (.inr (.inr (fun _ => none)))))) := by rw [hC_51]; rw [va_up_ne _ _ (by decide)]; exact f3_c47
  have f4_c51 : C_51 4 = some (.inl (E.2.1 0, 4, .inl (upd (upd (upd (upd (fun _ => 0) (0 : Int32).toNatClampNeg 1) (1 : Int32).toNatClampNeg 3) (2 : Int32).toNatClampNeg 50) (3 : Int32).toNatClampNeg 4))) := by rw [hC_51]; exact va_up_self _ _ _
  refine wg_putF F hnm hP hS f0_c51 rfl iw_X7 tyX7_ok nmX7 3 (by decide) tb_166 rfl rfl rfl (Nat.le_of_ble_eq_true rfl) dX7_init_52 (fun H locs hP hS => ?_)
  obtain ⟨C_52, hC_52⟩ : ∃ z : wg_C, z = va_up C_51 0 (some (.inr (7, [.ref (A_33 1), .int 0, .ref (A_33 2), .ref (A_33 4), .null, .null, .null, .null, .null]))) := ⟨_, rfl⟩
  have hP : wg_P E A_33 C_52 H := by rw [hC_52]; exact hP
  have f0_c52 : C_52 0 = some (.inr (7, [.ref (A_33 1), .int 0, .ref (A_33 2), .ref (A_33 4), .null, .null, .null, .null, .null])) := by rw [hC_52]; exact va_up_self _ _ _
  have f1_c52 : C_52 1 = some (.inl (E.2.1 3, 16, .inr (.inr (.inr (.inr (fun _ => none)))))) := by rw [hC_52]; rw [va_up_ne _ _ (by decide)]; exact f1_c51
  have f2_c52 : C_52 2 = some (.inr (3, [.ref (A_33 3), .int 0])) := by rw [hC_52]; rw [va_up_ne _ _ (by decide)]; exact f2_c51
  have f3_c52 : C_52 3 = some (.inl (E.2.1 4, 60, .inr (.inr (.inr (.inr (fun _ => none)))))) := by rw [hC_52]; rw [va_up_ne _ _ (by decide)]; exact f3_c51
  have f4_c52 : C_52 4 = some (.inl (E.2.1 0, 4, .inl (upd (upd (upd (upd (fun _ => 0) (0 : Int32).toNatClampNeg 1) (1 : Int32).toNatClampNeg 3) (2 : Int32).toNatClampNeg 50) (3 : Int32).toNatClampNeg 4))) := by rw [hC_52]; rw [va_up_ne _ _ (by decide)]; exact f4_c51
  refine lv_aload_n hx hb dX7_init_55 rfl (lv_at hl 0 rfl) ?_
  refine lv_iconst (v := 4) hx hb dX7_init_56 (by decide) ?_
  refine wg_newqF (N' := 4) F hP hS 5 5 rfl tb_42 nb_43 (by decide) (by decide) (by decide) (Nat.le_of_ble_eq_true rfl) (Nat.le_of_ble_eq_true rfl) dX7_init_57 (fun q_57 H hP hS => ?_)
  obtain ⟨A_57, hA_57⟩ : ∃ z : Nat → Nat, z = va_up A_33 5 q_57 := ⟨_, rfl⟩
  obtain ⟨C_57, hC_57⟩ : ∃ z : wg_C, z = va_up C_52 5 (some (.inl (E.2.1 5, 4, .inr (.inr (.inr (.inr (fun _ => none))))))) := ⟨_, rfl⟩
  have hP : wg_P E A_57 C_57 H := by rw [hA_57, hC_57]; exact hP
  have an_57 : q_57 = A_57 5 := by rw [hA_57]; exact (va_up_self _ _ _).symm
  have am_57_0 : A_57 0 = A_33 0 := by rw [hA_57]; rw [va_up_ne _ _ (by decide)]
  have am_57_1 : A_57 1 = A_33 1 := by rw [hA_57]; rw [va_up_ne _ _ (by decide)]
  have am_57_2 : A_57 2 = A_33 2 := by rw [hA_57]; rw [va_up_ne _ _ (by decide)]
  have am_57_3 : A_57 4 = A_33 4 := by rw [hA_57]; rw [va_up_ne _ _ (by decide)]
  have am_57_4 : A_57 3 = A_33 3 := by rw [hA_57]; rw [va_up_ne _ _ (by decide)]
  have f0_c57 : C_57 0 = some (.inr (7, [.ref (A_57 1), .int 0, .ref (A_57 2), .ref (A_57 4), .null, .null, .null, .null, .null])) := by rw [hC_57]; rw [va_up_ne _ _ (by decide)]; rw [am_57_1, am_57_2, am_57_3]; exact f0_c52
  have f1_c57 : C_57 1 = some (.inl (E.2.1 3, 16, .inr (.inr (.inr (.inr (fun _ => none)))))) := by rw [hC_57]; rw [va_up_ne _ _ (by decide)]; exact f1_c52
  have f2_c57 : C_57 2 = some (.inr (3, [.ref (A_57 3), .int 0])) := by rw [hC_57]; rw [va_up_ne _ _ (by decide)]; rw [am_57_4]; exact f2_c52
  have f3_c57 : C_57 3 = some (.inl (E.2.1 4, 60, .inr (.inr (.inr (.inr (fun _ => none)))))) := by rw [hC_57]; rw [va_up_ne _ _ (by decide)]; exact f3_c52
  have f4_c57 : C_57 4 = some (.inl (E.2.1 0, 4, .inl (upd (upd (upd (upd (fun _ => 0) (0 : Int32).toNatClampNeg 1) (1 : Int32).toNatClampNeg 3) (2 : Int32).toNatClampNeg 50) (3 : Int32).toNatClampNeg 4))) := by rw [hC_57]; rw [va_up_ne _ _ (by decide)]; exact f4_c52
  have f5_c57 : C_57 5 = some (.inl (E.2.1 5, 4, .inr (.inr (.inr (.inr (fun _ => none)))))) := by rw [hC_57]; exact va_up_self _ _ _
  have hl : lv_has ls 2 [(0, .ref (A_57 0))] := by rw [am_57_0]; exact hl
  refine W.eq (g2 := F0 m 60 ls [.ref (A_57 5), .ref (A_57 0)]) (by rw [← an_57, am_57_0]) ?_
  clear am_57_0 am_57_1 am_57_2 am_57_3 am_57_4 an_57
  refine wg_putF F hnm hP hS f0_c57 rfl iw_X7 tyX7_ok nmX7 4 (by decide) tb_167 rfl rfl rfl (Nat.le_of_ble_eq_true rfl) dX7_init_60 (fun H locs hP hS => ?_)
  obtain ⟨C_60, hC_60⟩ : ∃ z : wg_C, z = va_up C_57 0 (some (.inr (7, [.ref (A_57 1), .int 0, .ref (A_57 2), .ref (A_57 4), .ref (A_57 5), .null, .null, .null, .null]))) := ⟨_, rfl⟩
  have hP : wg_P E A_57 C_60 H := by rw [hC_60]; exact hP
  have f0_c60 : C_60 0 = some (.inr (7, [.ref (A_57 1), .int 0, .ref (A_57 2), .ref (A_57 4), .ref (A_57 5), .null, .null, .null, .null])) := by rw [hC_60]; exact va_up_self _ _ _
  have f1_c60 : C_60 1 = some (.inl (E.2.1 3, 16, .inr (.inr (.inr (.inr (fun _ => none)))))) := by rw [hC_60]; rw [va_up_ne _ _ (by decide)]; exact f1_c57
  have f2_c60 : C_60 2 = some (.inr (3, [.ref (A_57 3), .int 0])) := by rw [hC_60]; rw [va_up_ne _ _ (by decide)]; exact f2_c57
  have f3_c60 : C_60 3 = some (.inl (E.2.1 4, 60, .inr (.inr (.inr (.inr (fun _ => none)))))) := by rw [hC_60]; rw [va_up_ne _ _ (by decide)]; exact f3_c57
  have f4_c60 : C_60 4 = some (.inl (E.2.1 0, 4, .inl (upd (upd (upd (upd (fun _ => 0) (0 : Int32).toNatClampNeg 1) (1 : Int32).toNatClampNeg 3) (2 : Int32).toNatClampNeg 50) (3 : Int32).toNatClampNeg 4))) := by rw [hC_60]; rw [va_up_ne _ _ (by decide)]; exact f4_c57
  have f5_c60 : C_60 5 = some (.inl (E.2.1 5, 4, .inr (.inr (.inr (.inr (fun _ => none)))))) := by rw [hC_60]; rw [va_up_ne _ _ (by decide)]; exact f5_c57
  refine lv_aload_n hx hb dX7_init_63 rfl (lv_at hl 0 rfl) ?_
  refine lv_iconst (v := 4) hx hb dX7_init_64 (by decide) ?_
  refine wg_newqF (N' := 4) F hP hS 6 6 rfl tb_44 nb_45 (by decide) (by decide) (by decide) (Nat.le_of_ble_eq_true rfl) (Nat.le_of_ble_eq_true rfl) dX7_init_65 (fun q_65 H hP hS => ?_)
  obtain ⟨A_65, hA_65⟩ : ∃ z : Nat → Nat, z = va_up A_57 6 q_65 := ⟨_, rfl⟩
  obtain ⟨C_65, hC_65⟩ : ∃ z : wg_C, z = va_up C_60 6 (some (.inl (E.2.1 6, 4, .inr (.inr (.inr (.inr (fun _ => none))))))) := ⟨_, rfl⟩
  have hP : wg_P E A_65 C_65 H := by rw [hA_65, hC_65]; exact hP
  have an_65 : q_65 = A_65 6 := by rw [hA_65]; exact (va_up_self _ _ _).symm
  have am_65_0 : A_65 0 = A_57 0 := by rw [hA_65]; rw [va_up_ne _ _ (by decide)]
  have am_65_1 : A_65 1 = A_57 1 := by rw [hA_65]; rw [va_up_ne _ _ (by decide)]
  have am_65_2 : A_65 2 = A_57 2 := by rw [hA_65]; rw [va_up_ne _ _ (by decide)]
  have am_65_3 : A_65 4 = A_57 4 := by rw [hA_65]; rw [va_up_ne _ _ (by decide)]
  have am_65_4 : A_65 5 = A_57 5 := by rw [hA_65]; rw [va_up_ne _ _ (by decide)]
  have am_65_5 : A_65 3 = A_57 3 := by rw [hA_65]; rw [va_up_ne _ _ (by decide)]
  have f0_c65 : C_65 0 = some (.inr (7, [.ref (A_65 1), .int 0, .ref (A_65 2), .ref (A_65 4), .ref (A_65 5), .null, .null, .null, .null])) := by rw [hC_65]; rw [va_up_ne _ _ (by decide)]; rw [am_65_1, am_65_2, am_65_3, am_65_4]; exact f0_c60
  have f1_c65 : C_65 1 = some (.inl (E.2.1 3, 16, .inr (.inr (.inr (.inr (fun _ => none)))))) := by rw [hC_65]; rw [va_up_ne _ _ (by decide)]; exact f1_c60
  have f2_c65 : C_65 2 = some (.inr (3, [.ref (A_65 3), .int 0])) := by rw [hC_65]; rw [va_up_ne _ _ (by decide)]; rw [am_65_5]; exact f2_c60
  have f3_c65 : C_65 3 = some (.inl (E.2.1 4, 60, .inr (.inr (.inr (.inr (fun _ => none)))))) := by rw [hC_65]; rw [va_up_ne _ _ (by decide)]; exact f3_c60
  have f4_c65 : C_65 4 = some (.inl (E.2.1 0, 4, .inl (upd (upd (upd (upd (fun _ => 0) (0 : Int32).toNatClampNeg 1) (1 : Int32).toNatClampNeg 3) (2 : Int32).toNatClampNeg 50) (3 : Int32).toNatClampNeg 4))) := by rw [hC_65]; rw [va_up_ne _ _ (by decide)]; exact f4_c60
  have f5_c65 : C_65 5 = some (.inl (E.2.1 5, 4, .inr (.inr (.inr (.inr (fun _ => none)))))) := by rw [hC_65]; rw [va_up_ne _ _ (by decide)]; exact f5_c60
  have f6_c65 : C_65 6 = some (.inl (E.2.1 6, 4, .inr (.inr (.inr (.inr (fun _ => none)))))) := by rw [hC_65]; exact va_up_self _ _ _
  have hl : lv_has ls 2 [(0, .ref (A_65 0))] := by rw [am_65_0]; exact hl
  refine W.eq (g2 := F0 m 68 ls [.ref (A_65 6), .ref (A_65 0)]) (by rw [← an_65, am_65_0]) ?_
  clear am_65_0 am_65_1 am_65_2 am_65_3 am_65_4 am_65_5 an_65
  refine wg_putF F hnm hP hS f0_c65 rfl iw_X7 tyX7_ok nmX7 5 (by decide) tb_168 rfl rfl rfl (Nat.le_of_ble_eq_true rfl) dX7_init_68 (fun H locs hP hS => ?_)
  obtain ⟨C_68, hC_68⟩ : ∃ z : wg_C, z = va_up C_65 0 (some (.inr (7, [.ref (A_65 1), .int 0, .ref (A_65 2), .ref (A_65 4), .ref (A_65 5), .ref (A_65 6), .null, .null, .null]))) := ⟨_, rfl⟩
  have hP : wg_P E A_65 C_68 H := by rw [hC_68]; exact hP
  have f0_c68 : C_68 0 = some (.inr (7, [.ref (A_65 1), .int 0, .ref (A_65 2), .ref (A_65 4), .ref (A_65 5), .ref (A_65 6), .null, .null, .null])) := by rw [hC_68]; exact va_up_self _ _ _
  have f1_c68 : C_68 1 = some (.inl (E.2.1 3, 16, .inr (.inr (.inr (.inr (fun _ => none)))))) := by rw [hC_68]; rw [va_up_ne _ _ (by decide)]; exact f1_c65
  have f2_c68 : C_68 2 = some (.inr (3, [.ref (A_65 3), .int 0])) := by rw [hC_68]; rw [va_up_ne _ _ (by decide)]; exact f2_c65
  have f3_c68 : C_68 3 = some (.inl (E.2.1 4, 60, .inr (.inr (.inr (.inr (fun _ => none)))))) := by rw [hC_68]; rw [va_up_ne _ _ (by decide)]; exact f3_c65
  have f4_c68 : C_68 4 = some (.inl (E.2.1 0, 4, .inl (upd (upd (upd (upd (fun _ => 0) (0 : Int32).toNatClampNeg 1) (1 : Int32).toNatClampNeg 3) (2 : Int32).toNatClampNeg 50) (3 : Int32).toNatClampNeg 4))) := by rw [hC_68]; rw [va_up_ne _ _ (by decide)]; exact f4_c65
  have f5_c68 : C_68 5 = some (.inl (E.2.1 5, 4, .inr (.inr (.inr (.inr (fun _ => none)))))) := by rw [hC_68]; rw [va_up_ne _ _ (by decide)]; exact f5_c65
  have f6_c68 : C_68 6 = some (.inl (E.2.1 6, 4, .inr (.inr (.inr (.inr (fun _ => none)))))) := by rw [hC_68]; rw [va_up_ne _ _ (by decide)]; exact f6_c65
  refine lv_aload_n hx hb dX7_init_71 rfl (lv_at hl 0 rfl) ?_
  refine lv_bipush (v := 32) hx hb dX7_init_72 (by decide) ?_
  refine wg_newaF (atype := .int) (a0 := (32, .inl (fun _ => 0))) F hP hS 7 0 rfl (fun _ _ h => h) tb_74 (fun _ => rfl) (by decide) (by decide) (by decide) (Nat.le_of_ble_eq_true rfl) (Nat.le_of_ble_eq_true rfl) dX7_init_74 (fun q_74 H hP hS => ?_)
  obtain ⟨A_74, hA_74⟩ : ∃ z : Nat → Nat, z = va_up A_65 7 q_74 := ⟨_, rfl⟩
  obtain ⟨C_74, hC_74⟩ : ∃ z : wg_C, z = va_up C_68 7 (some (.inl (E.2.1 0, 32, .inl (fun _ => 0)))) := ⟨_, rfl⟩
  have hP : wg_P E A_74 C_74 H := by rw [hA_74, hC_74]; exact hP
  have an_74 : q_74 = A_74 7 := by rw [hA_74]; exact (va_up_self _ _ _).symm
  have am_74_0 : A_74 0 = A_65 0 := by rw [hA_74]; rw [va_up_ne _ _ (by decide)]
  have am_74_1 : A_74 1 = A_65 1 := by rw [hA_74]; rw [va_up_ne _ _ (by decide)]
  have am_74_2 : A_74 2 = A_65 2 := by rw [hA_74]; rw [va_up_ne _ _ (by decide)]
  have am_74_3 : A_74 4 = A_65 4 := by rw [hA_74]; rw [va_up_ne _ _ (by decide)]
  have am_74_4 : A_74 5 = A_65 5 := by rw [hA_74]; rw [va_up_ne _ _ (by decide)]
  have am_74_5 : A_74 6 = A_65 6 := by rw [hA_74]; rw [va_up_ne _ _ (by decide)]
  have am_74_6 : A_74 3 = A_65 3 := by rw [hA_74]; rw [va_up_ne _ _ (by decide)]
  have f0_c74 : C_74 0 = some (.inr (7, [.ref (A_74 1), .int 0, .ref (A_74 2), .ref (A_74 4), .ref (A_74 5), .ref (A_74 6), .null, .null, .null])) := by rw [hC_74]; rw [va_up_ne _ _ (by decide)]; rw [am_74_1, am_74_2, am_74_3, am_74_4, am_74_5]; exact f0_c68
  have f1_c74 : C_74 1 = some (.inl (E.2.1 3, 16, .inr (.inr (.inr (.inr (fun _ => none)))))) := by rw [hC_74]; rw [va_up_ne _ _ (by decide)]; exact f1_c68
  have f2_c74 : C_74 2 = some (.inr (3, [.ref (A_74 3), .int 0])) := by rw [hC_74]; rw [va_up_ne _ _ (by decide)]; rw [am_74_6]; exact f2_c68
  have f3_c74 : C_74 3 = some (.inl (E.2.1 4, 60, .inr (.inr (.inr (.inr (fun _ => none)))))) := by rw [hC_74]; rw [va_up_ne _ _ (by decide)]; exact f3_c68
  have f4_c74 : C_74 4 = some (.inl (E.2.1 0, 4, .inl (upd (upd (upd (upd (fun _ => 0) (0 : Int32).toNatClampNeg 1) (1 : Int32).toNatClampNeg 3) (2 : Int32).toNatClampNeg 50) (3 : Int32).toNatClampNeg 4))) := by rw [hC_74]; rw [va_up_ne _ _ (by decide)]; exact f4_c68
  have f5_c74 : C_74 5 = some (.inl (E.2.1 5, 4, .inr (.inr (.inr (.inr (fun _ => none)))))) := by rw [hC_74]; rw [va_up_ne _ _ (by decide)]; exact f5_c68
  have f6_c74 : C_74 6 = some (.inl (E.2.1 6, 4, .inr (.inr (.inr (.inr (fun _ => none)))))) := by rw [hC_74]; rw [va_up_ne _ _ (by decide)]; exact f6_c68
  have f7_c74 : C_74 7 = some (.inl (E.2.1 0, 32, .inl (fun _ => 0))) := by rw [hC_74]; exact va_up_self _ _ _
  have hl : lv_has ls 2 [(0, .ref (A_74 0))] := by rw [am_74_0]; exact hl
  refine W.eq (g2 := F0 m 76 ls [.ref (A_74 7), .ref (A_74 0)]) (by rw [← an_74, am_74_0]) ?_
  clear am_74_0 am_74_1 am_74_2 am_74_3 am_74_4 am_74_5 am_74_6 an_74
  refine wg_putF F hnm hP hS f0_c74 rfl iw_X7 tyX7_ok nmX7 6 (by decide) tb_169 rfl rfl rfl (Nat.le_of_ble_eq_true rfl) dX7_init_76 (fun H locs hP hS => ?_)
  obtain ⟨C_76, hC_76⟩ : ∃ z : wg_C, z = va_up C_74 0 (some (.inr (7, [.ref (A_74 1), .int 0, .ref (A_74 2), .ref (A_74 4), .ref (A_74 5), .ref (A_74 6), .ref (A_74 7), .null, .null]))) := ⟨_, rfl⟩
  have hP : wg_P E A_74 C_76 H := by rw [hC_76]; exact hP
  have f0_c76 : C_76 0 = some (.inr (7, [.ref (A_74 1), .int 0, .ref (A_74 2), .ref (A_74 4), .ref (A_74 5), .ref (A_74 6), .ref (A_74 7), .null, .null])) := by rw [hC_76]; exact va_up_self _ _ _
  have f1_c76 : C_76 1 = some (.inl (E.2.1 3, 16, .inr (.inr (.inr (.inr (fun _ => none)))))) := by rw [hC_76]; rw [va_up_ne _ _ (by decide)]; exact f1_c74
  have f2_c76 : C_76 2 = some (.inr (3, [.ref (A_74 3), .int 0])) := by rw [hC_76]; rw [va_up_ne _ _ (by decide)]; exact f2_c74
  have f3_c76 : C_76 3 = some (.inl (E.2.1 4, 60, .inr (.inr (.inr (.inr (fun _ => none)))))) := by rw [hC_76]; rw [va_up_ne _ _ (by decide)]; exact f3_c74
  have f4_c76 : C_76 4 = some (.inl (E.2.1 0, 4, .inl (upd (upd (upd (upd (fun _ => 0) (0 : Int32).toNatClampNeg 1) (1 : Int32).toNatClampNeg 3) (2 : Int32).toNatClampNeg 50) (3 : Int32).toNatClampNeg 4))) := by rw [hC_76]; rw [va_up_ne _ _ (by decide)]; exact f4_c74
  have f5_c76 : C_76 5 = some (.inl (E.2.1 5, 4, .inr (.inr (.inr (.inr (fun _ => none)))))) := by rw [hC_76]; rw [va_up_ne _ _ (by decide)]; exact f5_c74
  have f6_c76 : C_76 6 = some (.inl (E.2.1 6, 4, .inr (.inr (.inr (.inr (fun _ => none)))))) := by rw [hC_76]; rw [va_up_ne _ _ (by decide)]; exact f6_c74
  have f7_c76 : C_76 7 = some (.inl (E.2.1 0, 32, .inl (fun _ => 0))) := by rw [hC_76]; rw [va_up_ne _ _ (by decide)]; exact f7_c74
  refine lv_aload_n hx hb dX7_init_79 rfl (lv_at hl 0 rfl) ?_
  refine wg_newF (ci := 5) F hP hS 8 [.null, .null] rfl iw_X5 tyX5_ok tb_46 tb_47 tb_4 (fun j hj => by rcases (show j = 0 ∨ j = 1 by omega) with rfl | rfl <;> rfl) (Nat.le_of_ble_eq_true rfl) (Nat.le_of_ble_eq_true rfl) dX7_init_80 (fun q_80 H hP hS => ?_)
  obtain ⟨A_80, hA_80⟩ : ∃ z : Nat → Nat, z = va_up A_74 8 q_80 := ⟨_, rfl⟩
  obtain ⟨C_80, hC_80⟩ : ∃ z : wg_C, z = va_up C_76 8 (some (.inr (5, [.null, .null]))) := ⟨_, rfl⟩
  have hP : wg_P E A_80 C_80 H := by rw [hA_80, hC_80]; exact hP
  have an_80 : q_80 = A_80 8 := by rw [hA_80]; exact (va_up_self _ _ _).symm
  have am_80_0 : A_80 0 = A_74 0 := by rw [hA_80]; rw [va_up_ne _ _ (by decide)]
  have am_80_1 : A_80 1 = A_74 1 := by rw [hA_80]; rw [va_up_ne _ _ (by decide)]
  have am_80_2 : A_80 2 = A_74 2 := by rw [hA_80]; rw [va_up_ne _ _ (by decide)]
  have am_80_3 : A_80 4 = A_74 4 := by rw [hA_80]; rw [va_up_ne _ _ (by decide)]
  have am_80_4 : A_80 5 = A_74 5 := by rw [hA_80]; rw [va_up_ne _ _ (by decide)]
  have am_80_5 : A_80 6 = A_74 6 := by rw [hA_80]; rw [va_up_ne _ _ (by decide)]
  have am_80_6 : A_80 7 = A_74 7 := by rw [hA_80]; rw [va_up_ne _ _ (by decide)]
  have am_80_7 : A_80 3 = A_74 3 := by rw [hA_80]; rw [va_up_ne _ _ (by decide)]
  have f0_c80 : C_80 0 = some (.inr (7, [.ref (A_80 1), .int 0, .ref (A_80 2), .ref (A_80 4), .ref (A_80 5), .ref (A_80 6), .ref (A_80 7), .null, .null])) := by rw [hC_80]; rw [va_up_ne _ _ (by decide)]; rw [am_80_1, am_80_2, am_80_3, am_80_4, am_80_5, am_80_6]; exact f0_c76
  have f1_c80 : C_80 1 = some (.inl (E.2.1 3, 16, .inr (.inr (.inr (.inr (fun _ => none)))))) := by rw [hC_80]; rw [va_up_ne _ _ (by decide)]; exact f1_c76
  have f2_c80 : C_80 2 = some (.inr (3, [.ref (A_80 3), .int 0])) := by rw [hC_80]; rw [va_up_ne _ _ (by decide)]; rw [am_80_7]; exact f2_c76
  have f3_c80 : C_80 3 = some (.inl (E.2.1 4, 60, .inr (.inr (.inr (.inr (fun _ => none)))))) := by rw [hC_80]; rw [va_up_ne _ _ (by decide)]; exact f3_c76
  have f4_c80 : C_80 4 = some (.inl (E.2.1 0, 4, .inl (upd (upd (upd (upd (fun _ => 0) (0 : Int32).toNatClampNeg 1) (1 : Int32).toNatClampNeg 3) (2 : Int32).toNatClampNeg 50) (3 : Int32).toNatClampNeg 4))) := by rw [hC_80]; rw [va_up_ne _ _ (by decide)]; exact f4_c76
  have f5_c80 : C_80 5 = some (.inl (E.2.1 5, 4, .inr (.inr (.inr (.inr (fun _ => none)))))) := by rw [hC_80]; rw [va_up_ne _ _ (by decide)]; exact f5_c76
  have f6_c80 : C_80 6 = some (.inl (E.2.1 6, 4, .inr (.inr (.inr (.inr (fun _ => none)))))) := by rw [hC_80]; rw [va_up_ne _ _ (by decide)]; exact f6_c76
  have f7_c80 : C_80 7 = some (.inl (E.2.1 0, 32, .inl (fun _ => 0))) := by rw [hC_80]; rw [va_up_ne _ _ (by decide)]; exact f7_c76
  have f8_c80 : C_80 8 = some (.inr (5, [.null, .null])) := by rw [hC_80]; exact va_up_self _ _ _
  have hl : lv_has ls 2 [(0, .ref (A_80 0))] := by rw [am_80_0]; exact hl
  refine W.eq (g2 := F0 m 83 ls [.ref (A_80 8), .ref (A_80 0)]) (by rw [← an_80, am_80_0]) ?_
  clear am_80_0 am_80_1 am_80_2 am_80_3 am_80_4 am_80_5 am_80_6 am_80_7 an_80
  refine lv_dup hx hb dX7_init_83 rfl ?_
  refine wg_cv hS (wg_rIN (As := []) (rest := [.ref (A_80 8), .ref (A_80 0)]) F hP hS (c_X5_init l E A_80 C_80 f8_c80) ok_X5_init nb_48 rfl rfl ⟨Nat.le_of_ble_eq_true rfl, Nat.le_of_ble_eq_true rfl⟩ rfl hl.1 rfl (Nat.le_of_ble_eq_true rfl) dX7_init_84 ⟨Nat.le_of_ble_eq_true rfl, Nat.le_of_ble_eq_true rfl⟩) (fun A_84 C_84 H locs w_84 hP hS => ?_)
  obtain ⟨hAf_84, hfr_84, n0, n1, nd, n2, hnd⟩ := w_84
  have am_84_0 : A_84 0 = A_80 0 := hAf_84 0 (by decide) (by decide)
  have am_84_1 : A_84 8 = A_80 8 := hAf_84 8 (by decide) (by decide)
  have am_84_2 : A_84 1 = A_80 1 := hAf_84 1 (by decide) (by decide)
  have am_84_3 : A_84 2 = A_80 2 := hAf_84 2 (by decide) (by decide)
  have am_84_4 : A_84 4 = A_80 4 := hAf_84 4 (by decide) (by decide)
  have am_84_5 : A_84 5 = A_80 5 := hAf_84 5 (by decide) (by decide)
  have am_84_6 : A_84 6 = A_80 6 := hAf_84 6 (by decide) (by decide)
  have am_84_7 : A_84 7 = A_80 7 := hAf_84 7 (by decide) (by decide)
  have am_84_8 : A_84 3 = A_80 3 := hAf_84 3 (by decide) (by decide)
  have f0_c84 : C_84 0 = some (.inr (7, [.ref (A_84 1), .int 0, .ref (A_84 2), .ref (A_84 4), .ref (A_84 5), .ref (A_84 6), .ref (A_84 7), .null, .null])) := by rw [hfr_84 0 (by decide) (by decide) (by decide)]; rw [am_84_2, am_84_3, am_84_4, am_84_5, am_84_6, am_84_7]; exact f0_c80
  have f1_c84 : C_84 1 = some (.inl (E.2.1 3, 16, .inr (.inr (.inr (.inr (fun _ => none)))))) := by rw [hfr_84 1 (by decide) (by decide) (by decide)]; exact f1_c80
  have f2_c84 : C_84 2 = some (.inr (3, [.ref (A_84 3), .int 0])) := by rw [hfr_84 2 (by decide) (by decide) (by decide)]; rw [am_84_8]; exact f2_c80
  have f3_c84 : C_84 3 = some (.inl (E.2.1 4, 60, .inr (.inr (.inr (.inr (fun _ => none)))))) := by rw [hfr_84 3 (by decide) (by decide) (by decide)]; exact f3_c80
  have f4_c84 : C_84 4 = some (.inl (E.2.1 0, 4, .inl (upd (upd (upd (upd (fun _ => 0) (0 : Int32).toNatClampNeg 1) (1 : Int32).toNatClampNeg 3) (2 : Int32).toNatClampNeg 50) (3 : Int32).toNatClampNeg 4))) := by rw [hfr_84 4 (by decide) (by decide) (by decide)]; exact f4_c80
  have f5_c84 : C_84 5 = some (.inl (E.2.1 5, 4, .inr (.inr (.inr (.inr (fun _ => none)))))) := by rw [hfr_84 5 (by decide) (by decide) (by decide)]; exact f5_c80
  have f6_c84 : C_84 6 = some (.inl (E.2.1 6, 4, .inr (.inr (.inr (.inr (fun _ => none)))))) := by rw [hfr_84 6 (by decide) (by decide) (by decide)]; exact f6_c80
  have f7_c84 : C_84 7 = some (.inl (E.2.1 0, 32, .inl (fun _ => 0))) := by rw [hfr_84 7 (by decide) (by decide) (by decide)]; exact f7_c80
  have f8_c84 : C_84 8 = some (.inr (5, [.ref (A_84 9), .ref (A_84 10)])) := n0
  have f9_c84 : C_84 9 = some (.inl (E.2.1 1, 8, .inr (.inl (fun _ => 0)))) := n1
  have f10_c84 : C_84 10 = some (.inl (E.2.1 1, 16, .inr (.inl nd))) := n2
  have hl : lv_has ls 2 [(0, .ref (A_84 0))] := by rw [am_84_0]; exact hl
  refine W.eq (g2 := F0 m 87 ls [.ref (A_84 8), .ref (A_84 0)]) (by rw [am_84_1, am_84_0]) ?_
  clear am_84_0 am_84_1 am_84_2 am_84_3 am_84_4 am_84_5 am_84_6 am_84_7 am_84_8
  refine wg_putF F hnm hP hS f0_c84 rfl iw_X7 tyX7_ok nmX7 7 (by decide) tb_170 rfl rfl rfl (Nat.le_of_ble_eq_true rfl) dX7_init_87 (fun H locs hP hS => ?_)
  obtain ⟨C_87, hC_87⟩ : ∃ z : wg_C, z = va_up C_84 0 (some (.inr (7, [.ref (A_84 1), .int 0, .ref (A_84 2), .ref (A_84 4), .ref (A_84 5), .ref (A_84 6), .ref (A_84 7), .ref (A_84 8), .null]))) := ⟨_, rfl⟩
  have hP : wg_P E A_84 C_87 H := by rw [hC_87]; exact hP
  have f0_c87 : C_87 0 = some (.inr (7, [.ref (A_84 1), .int 0, .ref (A_84 2), .ref (A_84 4), .ref (A_84 5), .ref (A_84 6), .ref (A_84 7), .ref (A_84 8), .null])) := by rw [hC_87]; exact va_up_self _ _ _
  have f1_c87 : C_87 1 = some (.inl (E.2.1 3, 16, .inr (.inr (.inr (.inr (fun _ => none)))))) := by rw [hC_87]; rw [va_up_ne _ _ (by decide)]; exact f1_c84
  have f2_c87 : C_87 2 = some (.inr (3, [.ref (A_84 3), .int 0])) := by rw [hC_87]; rw [va_up_ne _ _ (by decide)]; exact f2_c84
  have f3_c87 : C_87 3 = some (.inl (E.2.1 4, 60, .inr (.inr (.inr (.inr (fun _ => none)))))) := by rw [hC_87]; rw [va_up_ne _ _ (by decide)]; exact f3_c84
  have f4_c87 : C_87 4 = some (.inl (E.2.1 0, 4, .inl (upd (upd (upd (upd (fun _ => 0) (0 : Int32).toNatClampNeg 1) (1 : Int32).toNatClampNeg 3) (2 : Int32).toNatClampNeg 50) (3 : Int32).toNatClampNeg 4))) := by rw [hC_87]; rw [va_up_ne _ _ (by decide)]; exact f4_c84
  have f5_c87 : C_87 5 = some (.inl (E.2.1 5, 4, .inr (.inr (.inr (.inr (fun _ => none)))))) := by rw [hC_87]; rw [va_up_ne _ _ (by decide)]; exact f5_c84
  have f6_c87 : C_87 6 = some (.inl (E.2.1 6, 4, .inr (.inr (.inr (.inr (fun _ => none)))))) := by rw [hC_87]; rw [va_up_ne _ _ (by decide)]; exact f6_c84
  have f7_c87 : C_87 7 = some (.inl (E.2.1 0, 32, .inl (fun _ => 0))) := by rw [hC_87]; rw [va_up_ne _ _ (by decide)]; exact f7_c84
  have f8_c87 : C_87 8 = some (.inr (5, [.ref (A_84 9), .ref (A_84 10)])) := by rw [hC_87]; rw [va_up_ne _ _ (by decide)]; exact f8_c84
  have f9_c87 : C_87 9 = some (.inl (E.2.1 1, 8, .inr (.inl (fun _ => 0)))) := by rw [hC_87]; rw [va_up_ne _ _ (by decide)]; exact f9_c84
  have f10_c87 : C_87 10 = some (.inl (E.2.1 1, 16, .inr (.inl nd))) := by rw [hC_87]; rw [va_up_ne _ _ (by decide)]; exact f10_c84
  refine lv_aload_n hx hb dX7_init_90 rfl (lv_at hl 0 rfl) ?_
  refine wg_newF (ci := 4) F hP hS 11 [.int 0, .int 0, .long 0, .long 0, .null, .int 0, .null] rfl iw_X4 tyX4_ok tb_76 tb_77 tb_5 (fun j hj => by rcases (show j = 0 ∨ j = 1 ∨ j = 2 ∨ j = 3 ∨ j = 4 ∨ j = 5 ∨ j = 6 by omega) with rfl | rfl | rfl | rfl | rfl | rfl | rfl <;> rfl) (Nat.le_of_ble_eq_true rfl) (Nat.le_of_ble_eq_true rfl) dX7_init_91 (fun q_91 H hP hS => ?_)
  obtain ⟨A_91, hA_91⟩ : ∃ z : Nat → Nat, z = va_up A_84 11 q_91 := ⟨_, rfl⟩
  obtain ⟨C_91, hC_91⟩ : ∃ z : wg_C, z = va_up C_87 11 (some (.inr (4, [.int 0, .int 0, .long 0, .long 0, .null, .int 0, .null]))) := ⟨_, rfl⟩
  have hP : wg_P E A_91 C_91 H := by rw [hA_91, hC_91]; exact hP
  have an_91 : q_91 = A_91 11 := by rw [hA_91]; exact (va_up_self _ _ _).symm
  have am_91_0 : A_91 0 = A_84 0 := by rw [hA_91]; rw [va_up_ne _ _ (by decide)]
  have am_91_1 : A_91 1 = A_84 1 := by rw [hA_91]; rw [va_up_ne _ _ (by decide)]
  have am_91_2 : A_91 2 = A_84 2 := by rw [hA_91]; rw [va_up_ne _ _ (by decide)]
  have am_91_3 : A_91 4 = A_84 4 := by rw [hA_91]; rw [va_up_ne _ _ (by decide)]
  have am_91_4 : A_91 5 = A_84 5 := by rw [hA_91]; rw [va_up_ne _ _ (by decide)]
  have am_91_5 : A_91 6 = A_84 6 := by rw [hA_91]; rw [va_up_ne _ _ (by decide)]
  have am_91_6 : A_91 7 = A_84 7 := by rw [hA_91]; rw [va_up_ne _ _ (by decide)]
  have am_91_7 : A_91 8 = A_84 8 := by rw [hA_91]; rw [va_up_ne _ _ (by decide)]
  have am_91_8 : A_91 3 = A_84 3 := by rw [hA_91]; rw [va_up_ne _ _ (by decide)]
  have am_91_9 : A_91 9 = A_84 9 := by rw [hA_91]; rw [va_up_ne _ _ (by decide)]
  have am_91_10 : A_91 10 = A_84 10 := by rw [hA_91]; rw [va_up_ne _ _ (by decide)]
  have f0_c91 : C_91 0 = some (.inr (7, [.ref (A_91 1), .int 0, .ref (A_91 2), .ref (A_91 4), .ref (A_91 5), .ref (A_91 6), .ref (A_91 7), .ref (A_91 8), .null])) := by rw [hC_91]; rw [va_up_ne _ _ (by decide)]; rw [am_91_1, am_91_2, am_91_3, am_91_4, am_91_5, am_91_6, am_91_7]; exact f0_c87
  have f1_c91 : C_91 1 = some (.inl (E.2.1 3, 16, .inr (.inr (.inr (.inr (fun _ => none)))))) := by rw [hC_91]; rw [va_up_ne _ _ (by decide)]; exact f1_c87
  have f2_c91 : C_91 2 = some (.inr (3, [.ref (A_91 3), .int 0])) := by rw [hC_91]; rw [va_up_ne _ _ (by decide)]; rw [am_91_8]; exact f2_c87
  have f3_c91 : C_91 3 = some (.inl (E.2.1 4, 60, .inr (.inr (.inr (.inr (fun _ => none)))))) := by rw [hC_91]; rw [va_up_ne _ _ (by decide)]; exact f3_c87
  have f4_c91 : C_91 4 = some (.inl (E.2.1 0, 4, .inl (upd (upd (upd (upd (fun _ => 0) (0 : Int32).toNatClampNeg 1) (1 : Int32).toNatClampNeg 3) (2 : Int32).toNatClampNeg 50) (3 : Int32).toNatClampNeg 4))) := by rw [hC_91]; rw [va_up_ne _ _ (by decide)]; exact f4_c87
  have f5_c91 : C_91 5 = some (.inl (E.2.1 5, 4, .inr (.inr (.inr (.inr (fun _ => none)))))) := by rw [hC_91]; rw [va_up_ne _ _ (by decide)]; exact f5_c87
  have f6_c91 : C_91 6 = some (.inl (E.2.1 6, 4, .inr (.inr (.inr (.inr (fun _ => none)))))) := by rw [hC_91]; rw [va_up_ne _ _ (by decide)]; exact f6_c87
  have f7_c91 : C_91 7 = some (.inl (E.2.1 0, 32, .inl (fun _ => 0))) := by rw [hC_91]; rw [va_up_ne _ _ (by decide)]; exact f7_c87
  have f8_c91 : C_91 8 = some (.inr (5, [.ref (A_91 9), .ref (A_91 10)])) := by rw [hC_91]; rw [va_up_ne _ _ (by decide)]; rw [am_91_9, am_91_10]; exact f8_c87
  have f9_c91 : C_91 9 = some (.inl (E.2.1 1, 8, .inr (.inl (fun _ => 0)))) := by rw [hC_91]; rw [va_up_ne _ _ (by decide)]; exact f9_c87
  have f10_c91 : C_91 10 = some (.inl (E.2.1 1, 16, .inr (.inl nd))) := by rw [hC_91]; rw [va_up_ne _ _ (by decide)]; exact f10_c87
  have f11_c91 : C_91 11 = some (.inr (4, [.int 0, .int 0, .long 0, .long 0, .null, .int 0, .null])) := by rw [hC_91]; exact va_up_self _ _ _
  have hl : lv_has ls 2 [(0, .ref (A_91 0))] := by rw [am_91_0]; exact hl
  refine W.eq (g2 := F0 m 94 ls [.ref (A_91 11), .ref (A_91 0)]) (by rw [← an_91, am_91_0]) ?_
  clear am_91_0 am_91_1 am_91_2 am_91_3 am_91_4 am_91_5 am_91_6 am_91_7 am_91_8 am_91_9 am_91_10 an_91
  refine lv_dup hx hb dX7_init_94 rfl ?_
  refine wg_cv hS (wg_rIN (As := []) (rest := [.ref (A_91 11), .ref (A_91 0)]) F hP hS (c_X4_init l E A_91 C_91 f11_c91) ok_X4_init nb_78 rfl rfl ⟨Nat.le_of_ble_eq_true rfl, Nat.le_of_ble_eq_true rfl⟩ rfl hl.1 rfl (Nat.le_of_ble_eq_true rfl) dX7_init_95 ⟨Nat.le_of_ble_eq_true rfl, Nat.le_of_ble_eq_true rfl⟩) (fun A_95 C_95 H locs w_95 hP hS => ?_)
  obtain ⟨hAf_95, hfr_95, n0, n1, n2⟩ := w_95
  have am_95_0 : A_95 0 = A_91 0 := hAf_95 0 (by decide) (by decide)
  have am_95_1 : A_95 11 = A_91 11 := hAf_95 11 (by decide) (by decide)
  have am_95_2 : A_95 1 = A_91 1 := hAf_95 1 (by decide) (by decide)
  have am_95_3 : A_95 2 = A_91 2 := hAf_95 2 (by decide) (by decide)
  have am_95_4 : A_95 4 = A_91 4 := hAf_95 4 (by decide) (by decide)
  have am_95_5 : A_95 5 = A_91 5 := hAf_95 5 (by decide) (by decide)
  have am_95_6 : A_95 6 = A_91 6 := hAf_95 6 (by decide) (by decide)
  have am_95_7 : A_95 7 = A_91 7 := hAf_95 7 (by decide) (by decide)
  have am_95_8 : A_95 8 = A_91 8 := hAf_95 8 (by decide) (by decide)
  have am_95_9 : A_95 3 = A_91 3 := hAf_95 3 (by decide) (by decide)
  have am_95_10 : A_95 9 = A_91 9 := hAf_95 9 (by decide) (by decide)
  have am_95_11 : A_95 10 = A_91 10 := hAf_95 10 (by decide) (by decide)
  have f0_c95 : C_95 0 = some (.inr (7, [.ref (A_95 1), .int 0, .ref (A_95 2), .ref (A_95 4), .ref (A_95 5), .ref (A_95 6), .ref (A_95 7), .ref (A_95 8), .null])) := by rw [hfr_95 0 (by decide) (by decide) (by decide)]; rw [am_95_2, am_95_3, am_95_4, am_95_5, am_95_6, am_95_7, am_95_8]; exact f0_c91
  have f1_c95 : C_95 1 = some (.inl (E.2.1 3, 16, .inr (.inr (.inr (.inr (fun _ => none)))))) := by rw [hfr_95 1 (by decide) (by decide) (by decide)]; exact f1_c91
  have f2_c95 : C_95 2 = some (.inr (3, [.ref (A_95 3), .int 0])) := by rw [hfr_95 2 (by decide) (by decide) (by decide)]; rw [am_95_9]; exact f2_c91
  have f3_c95 : C_95 3 = some (.inl (E.2.1 4, 60, .inr (.inr (.inr (.inr (fun _ => none)))))) := by rw [hfr_95 3 (by decide) (by decide) (by decide)]; exact f3_c91
  have f4_c95 : C_95 4 = some (.inl (E.2.1 0, 4, .inl (upd (upd (upd (upd (fun _ => 0) (0 : Int32).toNatClampNeg 1) (1 : Int32).toNatClampNeg 3) (2 : Int32).toNatClampNeg 50) (3 : Int32).toNatClampNeg 4))) := by rw [hfr_95 4 (by decide) (by decide) (by decide)]; exact f4_c91
  have f5_c95 : C_95 5 = some (.inl (E.2.1 5, 4, .inr (.inr (.inr (.inr (fun _ => none)))))) := by rw [hfr_95 5 (by decide) (by decide) (by decide)]; exact f5_c91
  have f6_c95 : C_95 6 = some (.inl (E.2.1 6, 4, .inr (.inr (.inr (.inr (fun _ => none)))))) := by rw [hfr_95 6 (by decide) (by decide) (by decide)]; exact f6_c91
  have f7_c95 : C_95 7 = some (.inl (E.2.1 0, 32, .inl (fun _ => 0))) := by rw [hfr_95 7 (by decide) (by decide) (by decide)]; exact f7_c91
  have f8_c95 : C_95 8 = some (.inr (5, [.ref (A_95 9), .ref (A_95 10)])) := by rw [hfr_95 8 (by decide) (by decide) (by decide)]; rw [am_95_10, am_95_11]; exact f8_c91
  have f9_c95 : C_95 9 = some (.inl (E.2.1 1, 8, .inr (.inl (fun _ => 0)))) := by rw [hfr_95 9 (by decide) (by decide) (by decide)]; exact f9_c91
  have f10_c95 : C_95 10 = some (.inl (E.2.1 1, 16, .inr (.inl nd))) := by rw [hfr_95 10 (by decide) (by decide) (by decide)]; exact f10_c91
  have f11_c95 : C_95 11 = some (.inr (4, [.int 0, .int 0, .long 0, .long 0, .ref (A_95 12), .int 0, .ref (A_95 13)])) := n0
  have f12_c95 : C_95 12 = some (.inl (E.2.1 1, 4, .inr (.inl (fun _ => 0)))) := n1
  have f13_c95 : C_95 13 = some (.inl (E.2.1 1, 16, .inr (.inl (fun _ => 0)))) := n2
  have hl : lv_has ls 2 [(0, .ref (A_95 0))] := by rw [am_95_0]; exact hl
  refine W.eq (g2 := F0 m 98 ls [.ref (A_95 11), .ref (A_95 0)]) (by rw [am_95_1, am_95_0]) ?_
  clear am_95_0 am_95_1 am_95_2 am_95_3 am_95_4 am_95_5 am_95_6 am_95_7 am_95_8 am_95_9 am_95_10 am_95_11
  refine wg_putF F hnm hP hS f0_c95 rfl iw_X7 tyX7_ok nmX7 8 (by decide) tb_171 rfl rfl rfl (Nat.le_of_ble_eq_true rfl) dX7_init_98 (fun H locs hP hS => ?_)
  obtain ⟨C_98, hC_98⟩ : ∃ z : wg_C, z = va_up C_95 0 (some (.inr (7, [.ref (A_95 1), .int 0, .ref (A_95 2), .ref (A_95 4), .ref (A_95 5), .ref (A_95 6), .ref (A_95 7), .ref (A_95 8), .ref (A_95 11)]))) := ⟨_, rfl⟩
  have hP : wg_P E A_95 C_98 H := by rw [hC_98]; exact hP
  have f0_c98 : C_98 0 = some (.inr (7, [.ref (A_95 1), .int 0, .ref (A_95 2), .ref (A_95 4), .ref (A_95 5), .ref (A_95 6), .ref (A_95 7), .ref (A_95 8), .ref (A_95 11)])) := by rw [hC_98]; exact va_up_self _ _ _
  have f1_c98 : C_98 1 = some (.inl (E.2.1 3, 16, .inr (.inr (.inr (.inr (fun _ => none)))))) := by rw [hC_98]; rw [va_up_ne _ _ (by decide)]; exact f1_c95
  have f2_c98 : C_98 2 = some (.inr (3, [.ref (A_95 3), .int 0])) := by rw [hC_98]; rw [va_up_ne _ _ (by decide)]; exact f2_c95
  have f3_c98 : C_98 3 = some (.inl (E.2.1 4, 60, .inr (.inr (.inr (.inr (fun _ => none)))))) := by rw [hC_98]; rw [va_up_ne _ _ (by decide)]; exact f3_c95
  have f4_c98 : C_98 4 = some (.inl (E.2.1 0, 4, .inl (upd (upd (upd (upd (fun _ => 0) (0 : Int32).toNatClampNeg 1) (1 : Int32).toNatClampNeg 3) (2 : Int32).toNatClampNeg 50) (3 : Int32).toNatClampNeg 4))) := by rw [hC_98]; rw [va_up_ne _ _ (by decide)]; exact f4_c95
  have f5_c98 : C_98 5 = some (.inl (E.2.1 5, 4, .inr (.inr (.inr (.inr (fun _ => none)))))) := by rw [hC_98]; rw [va_up_ne _ _ (by decide)]; exact f5_c95
  have f6_c98 : C_98 6 = some (.inl (E.2.1 6, 4, .inr (.inr (.inr (.inr (fun _ => none)))))) := by rw [hC_98]; rw [va_up_ne _ _ (by decide)]; exact f6_c95
  have f7_c98 : C_98 7 = some (.inl (E.2.1 0, 32, .inl (fun _ => 0))) := by rw [hC_98]; rw [va_up_ne _ _ (by decide)]; exact f7_c95
  have f8_c98 : C_98 8 = some (.inr (5, [.ref (A_95 9), .ref (A_95 10)])) := by rw [hC_98]; rw [va_up_ne _ _ (by decide)]; exact f8_c95
  have f9_c98 : C_98 9 = some (.inl (E.2.1 1, 8, .inr (.inl (fun _ => 0)))) := by rw [hC_98]; rw [va_up_ne _ _ (by decide)]; exact f9_c95
  have f10_c98 : C_98 10 = some (.inl (E.2.1 1, 16, .inr (.inl nd))) := by rw [hC_98]; rw [va_up_ne _ _ (by decide)]; exact f10_c95
  have f11_c98 : C_98 11 = some (.inr (4, [.int 0, .int 0, .long 0, .long 0, .ref (A_95 12), .int 0, .ref (A_95 13)])) := by rw [hC_98]; rw [va_up_ne _ _ (by decide)]; exact f11_c95
  have f12_c98 : C_98 12 = some (.inl (E.2.1 1, 4, .inr (.inl (fun _ => 0)))) := by rw [hC_98]; rw [va_up_ne _ _ (by decide)]; exact f12_c95
  have f13_c98 : C_98 13 = some (.inl (E.2.1 1, 16, .inr (.inl (fun _ => 0)))) := by rw [hC_98]; rw [va_up_ne _ _ (by decide)]; exact f13_c95
  refine lv_iconst (v := 0) hx hb dX7_init_101 (by decide) ?_
  refine lv_istore_n (lv' := [(1, .int 0), (0, .ref (A_95 0))]) hx hb dX7_init_102 rfl hl (by decide) rfl (fun ls hl => ?_)
  refine lv_iload_n hx hb dX7_init_103 rfl (lv_at hl 0 rfl) ?_
  refine lv_iconst (v := 4) hx hb dX7_init_104 (by decide) ?_
  refine lv_icmp_ge (tgt := 127) hx hb dX7_init_105 (by decide) (fun c_105 => ?_) (fun c_105 => ?_)
  · exact absurd c_105 (by decide)
  · refine lv_aload_n hx hb dX7_init_108 rfl (lv_at hl 1 rfl) ?_
    refine wg_get F hP f0_c98 rfl iw_X7 4 (by decide) tb_167 rfl rfl dX7_init_109 ?_
    refine lv_iload_n hx hb dX7_init_112 rfl (lv_at hl 0 rfl) ?_
    refine wg_newF (ci := 0) F hP hS (20 + 0) [.null, .int 0, .int 0, .int 0] rfl iw_X0 tyX0_ok tb_42 tb_105 tb_6 (fun j hj => by rcases (show j = 0 ∨ j = 1 ∨ j = 2 ∨ j = 3 by omega) with rfl | rfl | rfl | rfl <;> rfl) (Nat.le_of_ble_eq_true rfl) (Nat.le_of_ble_eq_true rfl) dX7_init_113 (fun q_113 H hP hS => ?_)
    obtain ⟨A_113, hA_113⟩ : ∃ z : Nat → Nat, z = va_up A_95 (20 + 0) q_113 := ⟨_, rfl⟩
    obtain ⟨C_113, hC_113⟩ : ∃ z : wg_C, z = va_up C_98 (20 + 0) (some (.inr (0, [.null, .int 0, .int 0, .int 0]))) := ⟨_, rfl⟩
    have hP : wg_P E A_113 C_113 H := by rw [hA_113, hC_113]; exact hP
    have an_113 : q_113 = A_113 (20 + 0) := by rw [hA_113]; exact (va_up_self _ _ _).symm
    have am_113_0 : A_113 0 = A_95 0 := by rw [hA_113]; rw [va_up_ne _ _ (by decide)]
    have am_113_1 : A_113 5 = A_95 5 := by rw [hA_113]; rw [va_up_ne _ _ (by decide)]
    have am_113_2 : A_113 1 = A_95 1 := by rw [hA_113]; rw [va_up_ne _ _ (by decide)]
    have am_113_3 : A_113 2 = A_95 2 := by rw [hA_113]; rw [va_up_ne _ _ (by decide)]
    have am_113_4 : A_113 4 = A_95 4 := by rw [hA_113]; rw [va_up_ne _ _ (by decide)]
    have am_113_5 : A_113 6 = A_95 6 := by rw [hA_113]; rw [va_up_ne _ _ (by decide)]
    have am_113_6 : A_113 7 = A_95 7 := by rw [hA_113]; rw [va_up_ne _ _ (by decide)]
    have am_113_7 : A_113 8 = A_95 8 := by rw [hA_113]; rw [va_up_ne _ _ (by decide)]
    have am_113_8 : A_113 11 = A_95 11 := by rw [hA_113]; rw [va_up_ne _ _ (by decide)]
    have am_113_9 : A_113 3 = A_95 3 := by rw [hA_113]; rw [va_up_ne _ _ (by decide)]
    have am_113_10 : A_113 9 = A_95 9 := by rw [hA_113]; rw [va_up_ne _ _ (by decide)]
    have am_113_11 : A_113 10 = A_95 10 := by rw [hA_113]; rw [va_up_ne _ _ (by decide)]
    have am_113_12 : A_113 12 = A_95 12 := by rw [hA_113]; rw [va_up_ne _ _ (by decide)]
    have am_113_13 : A_113 13 = A_95 13 := by rw [hA_113]; rw [va_up_ne _ _ (by decide)]
    have f0_c113 : C_113 0 = some (.inr (7, [.ref (A_113 1), .int 0, .ref (A_113 2), .ref (A_113 4), .ref (A_113 5), .ref (A_113 6), .ref (A_113 7), .ref (A_113 8), .ref (A_113 11)])) := by rw [hC_113]; rw [va_up_ne _ _ (by decide)]; rw [am_113_2, am_113_3, am_113_4, am_113_1, am_113_5, am_113_6, am_113_7, am_113_8]; exact f0_c98
    have f1_c113 : C_113 1 = some (.inl (E.2.1 3, 16, .inr (.inr (.inr (.inr (fun _ => none)))))) := by rw [hC_113]; rw [va_up_ne _ _ (by decide)]; exact f1_c98
    have f2_c113 : C_113 2 = some (.inr (3, [.ref (A_113 3), .int 0])) := by rw [hC_113]; rw [va_up_ne _ _ (by decide)]; rw [am_113_9]; exact f2_c98
    have f3_c113 : C_113 3 = some (.inl (E.2.1 4, 60, .inr (.inr (.inr (.inr (fun _ => none)))))) := by rw [hC_113]; rw [va_up_ne _ _ (by decide)]; exact f3_c98
    have f4_c113 : C_113 4 = some (.inl (E.2.1 0, 4, .inl (upd (upd (upd (upd (fun _ => 0) (0 : Int32).toNatClampNeg 1) (1 : Int32).toNatClampNeg 3) (2 : Int32).toNatClampNeg 50) (3 : Int32).toNatClampNeg 4))) := by rw [hC_113]; rw [va_up_ne _ _ (by decide)]; exact f4_c98
    have f5_c113 : C_113 5 = some (.inl (E.2.1 5, 4, .inr (.inr (.inr (.inr (fun _ => none)))))) := by rw [hC_113]; rw [va_up_ne _ _ (by decide)]; exact f5_c98
    have f6_c113 : C_113 6 = some (.inl (E.2.1 6, 4, .inr (.inr (.inr (.inr (fun _ => none)))))) := by rw [hC_113]; rw [va_up_ne _ _ (by decide)]; exact f6_c98
    have f7_c113 : C_113 7 = some (.inl (E.2.1 0, 32, .inl (fun _ => 0))) := by rw [hC_113]; rw [va_up_ne _ _ (by decide)]; exact f7_c98
    have f8_c113 : C_113 8 = some (.inr (5, [.ref (A_113 9), .ref (A_113 10)])) := by rw [hC_113]; rw [va_up_ne _ _ (by decide)]; rw [am_113_10, am_113_11]; exact f8_c98
    have f9_c113 : C_113 9 = some (.inl (E.2.1 1, 8, .inr (.inl (fun _ => 0)))) := by rw [hC_113]; rw [va_up_ne _ _ (by decide)]; exact f9_c98
    have f10_c113 : C_113 10 = some (.inl (E.2.1 1, 16, .inr (.inl nd))) := by rw [hC_113]; rw [va_up_ne _ _ (by decide)]; exact f10_c98
    have f11_c113 : C_113 11 = some (.inr (4, [.int 0, .int 0, .long 0, .long 0, .ref (A_113 12), .int 0, .ref (A_113 13)])) := by rw [hC_113]; rw [va_up_ne _ _ (by decide)]; rw [am_113_12, am_113_13]; exact f11_c98
    have f12_c113 : C_113 12 = some (.inl (E.2.1 1, 4, .inr (.inl (fun _ => 0)))) := by rw [hC_113]; rw [va_up_ne _ _ (by decide)]; exact f12_c98
    have f13_c113 : C_113 13 = some (.inl (E.2.1 1, 16, .inr (.inl (fun _ => 0)))) := by rw [hC_113]; rw [va_up_ne _ _ (by decide)]; exact f13_c98
    have f200_c113 : C_113 (20 + 0) = some (.inr (0, [.null, .int 0, .int 0, .int 0])) := by rw [hC_113]; exact va_up_self _ _ _
    have hl : lv_has ls 2 [(1, .int 0), (0, .ref (A_113 0))] := by rw [am_113_0]; exact hl
    refine W.eq (g2 := F0 m 116 ls [.ref (A_113 (20 + 0)), .int 0, .ref (A_113 5)]) (by rw [← an_113, am_113_1]) ?_
    clear am_113_0 am_113_1 am_113_2 am_113_3 am_113_4 am_113_5 am_113_6 am_113_7 am_113_8 am_113_9 am_113_10 am_113_11 am_113_12 am_113_13 an_113
    refine lv_dup hx hb dX7_init_116 rfl ?_
    refine wg_cv hS (wg_rIN (As := []) (rest := [.ref (A_113 (20 + 0)), .int 0, .ref (A_113 5)]) F hP hS (c_X0_init l E A_113 C_113 0 (by decide) f200_c113) ok_X0_init nb_106 rfl rfl ⟨Nat.le_of_ble_eq_true rfl, Nat.le_of_ble_eq_true rfl⟩ rfl hl.1 rfl (Nat.le_of_ble_eq_true rfl) dX7_init_117 ⟨Nat.le_of_ble_eq_true rfl, Nat.le_of_ble_eq_true rfl⟩) (fun A_117 C_117 H locs w_117 hP hS => ?_)
    obtain ⟨hAf_117, hfr_117, n0, n1, n2⟩ := w_117
    have am_117_0 : A_117 0 = A_113 0 := hAf_117 0 (by decide) (by decide)
    have am_117_1 : A_117 (20 + 0) = A_113 (20 + 0) := hAf_117 (20 + 0) (by decide) (by decide)
    have am_117_2 : A_117 5 = A_113 5 := hAf_117 5 (by decide) (by decide)
    have am_117_3 : A_117 1 = A_113 1 := hAf_117 1 (by decide) (by decide)
    have am_117_4 : A_117 2 = A_113 2 := hAf_117 2 (by decide) (by decide)
    have am_117_5 : A_117 4 = A_113 4 := hAf_117 4 (by decide) (by decide)
    have am_117_6 : A_117 6 = A_113 6 := hAf_117 6 (by decide) (by decide)
    have am_117_7 : A_117 7 = A_113 7 := hAf_117 7 (by decide) (by decide)
    have am_117_8 : A_117 8 = A_113 8 := hAf_117 8 (by decide) (by decide)
    have am_117_9 : A_117 11 = A_113 11 := hAf_117 11 (by decide) (by decide)
    have am_117_10 : A_117 3 = A_113 3 := hAf_117 3 (by decide) (by decide)
    have am_117_11 : A_117 9 = A_113 9 := hAf_117 9 (by decide) (by decide)
    have am_117_12 : A_117 10 = A_113 10 := hAf_117 10 (by decide) (by decide)
    have am_117_13 : A_117 12 = A_113 12 := hAf_117 12 (by decide) (by decide)
    have am_117_14 : A_117 13 = A_113 13 := hAf_117 13 (by decide) (by decide)
    have f0_c117 : C_117 0 = some (.inr (7, [.ref (A_117 1), .int 0, .ref (A_117 2), .ref (A_117 4), .ref (A_117 5), .ref (A_117 6), .ref (A_117 7), .ref (A_117 8), .ref (A_117 11)])) := by rw [hfr_117 0 (by decide) (by decide) (by decide)]; rw [am_117_3, am_117_4, am_117_5, am_117_2, am_117_6, am_117_7, am_117_8, am_117_9]; exact f0_c113
    have f1_c117 : C_117 1 = some (.inl (E.2.1 3, 16, .inr (.inr (.inr (.inr (fun _ => none)))))) := by rw [hfr_117 1 (by decide) (by decide) (by decide)]; exact f1_c113
    have f2_c117 : C_117 2 = some (.inr (3, [.ref (A_117 3), .int 0])) := by rw [hfr_117 2 (by decide) (by decide) (by decide)]; rw [am_117_10]; exact f2_c113
    have f3_c117 : C_117 3 = some (.inl (E.2.1 4, 60, .inr (.inr (.inr (.inr (fun _ => none)))))) := by rw [hfr_117 3 (by decide) (by decide) (by decide)]; exact f3_c113
    have f4_c117 : C_117 4 = some (.inl (E.2.1 0, 4, .inl (upd (upd (upd (upd (fun _ => 0) (0 : Int32).toNatClampNeg 1) (1 : Int32).toNatClampNeg 3) (2 : Int32).toNatClampNeg 50) (3 : Int32).toNatClampNeg 4))) := by rw [hfr_117 4 (by decide) (by decide) (by decide)]; exact f4_c113
    have f5_c117 : C_117 5 = some (.inl (E.2.1 5, 4, .inr (.inr (.inr (.inr (fun _ => none)))))) := by rw [hfr_117 5 (by decide) (by decide) (by decide)]; exact f5_c113
    have f6_c117 : C_117 6 = some (.inl (E.2.1 6, 4, .inr (.inr (.inr (.inr (fun _ => none)))))) := by rw [hfr_117 6 (by decide) (by decide) (by decide)]; exact f6_c113
    have f7_c117 : C_117 7 = some (.inl (E.2.1 0, 32, .inl (fun _ => 0))) := by rw [hfr_117 7 (by decide) (by decide) (by decide)]; exact f7_c113
    have f8_c117 : C_117 8 = some (.inr (5, [.ref (A_117 9), .ref (A_117 10)])) := by rw [hfr_117 8 (by decide) (by decide) (by decide)]; rw [am_117_11, am_117_12]; exact f8_c113
    have f9_c117 : C_117 9 = some (.inl (E.2.1 1, 8, .inr (.inl (fun _ => 0)))) := by rw [hfr_117 9 (by decide) (by decide) (by decide)]; exact f9_c113
    have f10_c117 : C_117 10 = some (.inl (E.2.1 1, 16, .inr (.inl nd))) := by rw [hfr_117 10 (by decide) (by decide) (by decide)]; exact f10_c113
    have f11_c117 : C_117 11 = some (.inr (4, [.int 0, .int 0, .long 0, .long 0, .ref (A_117 12), .int 0, .ref (A_117 13)])) := by rw [hfr_117 11 (by decide) (by decide) (by decide)]; rw [am_117_13, am_117_14]; exact f11_c113
    have f12_c117 : C_117 12 = some (.inl (E.2.1 1, 4, .inr (.inl (fun _ => 0)))) := by rw [hfr_117 12 (by decide) (by decide) (by decide)]; exact f12_c113
    have f13_c117 : C_117 13 = some (.inl (E.2.1 1, 16, .inr (.inl (fun _ => 0)))) := by rw [hfr_117 13 (by decide) (by decide) (by decide)]; exact f13_c113
    have f200_c117 : C_117 (20 + 0) = some (.inr (0, [.ref (A_117 (24 + 0)), .int 0, .int ((-2)), .int ((-2))])) := n0
    have f240_c117 : C_117 (24 + 0) = some (.inr (3, [.ref (A_117 (28 + 0)), .int 0])) := n1
    have f280_c117 : C_117 (28 + 0) = some (.inl (E.2.1 4, 11, .inr (.inr (.inr (.inr (fun _ => none)))))) := n2
    have hl : lv_has ls 2 [(1, .int 0), (0, .ref (A_117 0))] := by rw [am_117_0]; exact hl
    refine W.eq (g2 := F0 m 120 ls [.ref (A_117 (20 + 0)), .int 0, .ref (A_117 5)]) (by rw [am_117_1, am_117_2]) ?_
    clear am_117_0 am_117_1 am_117_2 am_117_3 am_117_4 am_117_5 am_117_6 am_117_7 am_117_8 am_117_9 am_117_10 am_117_11 am_117_12 am_117_13 am_117_14
    refine wg_qst F hP hS 5 rfl f5_c117 f200_c117 rfl (vp_in_nI (n := 0) (by decide) (by decide)) dX7_init_120 (fun H locs hP hS => ?_)
    obtain ⟨C_120, hC_120⟩ : ∃ z : wg_C, z = va_up C_117 5 (some (.inl (E.2.1 5, 4, .inr (.inr (.inr (.inr (va_up (fun _ => none) (0 : Int32).toNatClampNeg (some (A_117 (20 + 0)))))))))) := ⟨_, rfl⟩
    have hP : wg_P E A_117 C_120 H := by rw [hC_120]; exact hP
    have f0_c120 : C_120 0 = some (.inr (7, [.ref (A_117 1), .int 0, .ref (A_117 2), .ref (A_117 4), .ref (A_117 5), .ref (A_117 6), .ref (A_117 7), .ref (A_117 8), .ref (A_117 11)])) := by rw [hC_120]; rw [va_up_ne _ _ (by decide)]; exact f0_c117
    have f1_c120 : C_120 1 = some (.inl (E.2.1 3, 16, .inr (.inr (.inr (.inr (fun _ => none)))))) := by rw [hC_120]; rw [va_up_ne _ _ (by decide)]; exact f1_c117
    have f2_c120 : C_120 2 = some (.inr (3, [.ref (A_117 3), .int 0])) := by rw [hC_120]; rw [va_up_ne _ _ (by decide)]; exact f2_c117
    have f3_c120 : C_120 3 = some (.inl (E.2.1 4, 60, .inr (.inr (.inr (.inr (fun _ => none)))))) := by rw [hC_120]; rw [va_up_ne _ _ (by decide)]; exact f3_c117
    have f4_c120 : C_120 4 = some (.inl (E.2.1 0, 4, .inl (upd (upd (upd (upd (fun _ => 0) (0 : Int32).toNatClampNeg 1) (1 : Int32).toNatClampNeg 3) (2 : Int32).toNatClampNeg 50) (3 : Int32).toNatClampNeg 4))) := by rw [hC_120]; rw [va_up_ne _ _ (by decide)]; exact f4_c117
    have f5_c120 : C_120 5 = some (.inl (E.2.1 5, 4, .inr (.inr (.inr (.inr (va_up (fun _ => none) (0 : Int32).toNatClampNeg (some (A_117 (20 + 0))))))))) := by rw [hC_120]; exact va_up_self _ _ _
    have f6_c120 : C_120 6 = some (.inl (E.2.1 6, 4, .inr (.inr (.inr (.inr (fun _ => none)))))) := by rw [hC_120]; rw [va_up_ne _ _ (by decide)]; exact f6_c117
    have f7_c120 : C_120 7 = some (.inl (E.2.1 0, 32, .inl (fun _ => 0))) := by rw [hC_120]; rw [va_up_ne _ _ (by decide)]; exact f7_c117
    have f8_c120 : C_120 8 = some (.inr (5, [.ref (A_117 9), .ref (A_117 10)])) := by rw [hC_120]; rw [va_up_ne _ _ (by decide)]; exact f8_c117
    have f9_c120 : C_120 9 = some (.inl (E.2.1 1, 8, .inr (.inl (fun _ => 0)))) := by rw [hC_120]; rw [va_up_ne _ _ (by decide)]; exact f9_c117
    have f10_c120 : C_120 10 = some (.inl (E.2.1 1, 16, .inr (.inl nd))) := by rw [hC_120]; rw [va_up_ne _ _ (by decide)]; exact f10_c117
    have f11_c120 : C_120 11 = some (.inr (4, [.int 0, .int 0, .long 0, .long 0, .ref (A_117 12), .int 0, .ref (A_117 13)])) := by rw [hC_120]; rw [va_up_ne _ _ (by decide)]; exact f11_c117
    have f12_c120 : C_120 12 = some (.inl (E.2.1 1, 4, .inr (.inl (fun _ => 0)))) := by rw [hC_120]; rw [va_up_ne _ _ (by decide)]; exact f12_c117
    have f13_c120 : C_120 13 = some (.inl (E.2.1 1, 16, .inr (.inl (fun _ => 0)))) := by rw [hC_120]; rw [va_up_ne _ _ (by decide)]; exact f13_c117
    have f200_c120 : C_120 (20 + 0) = some (.inr (0, [.ref (A_117 (24 + 0)), .int 0, .int ((-2)), .int ((-2))])) := by rw [hC_120]; rw [va_up_ne _ _ (by decide)]; exact f200_c117
    have f240_c120 : C_120 (24 + 0) = some (.inr (3, [.ref (A_117 (28 + 0)), .int 0])) := by rw [hC_120]; rw [va_up_ne _ _ (by decide)]; exact f240_c117
    have f280_c120 : C_120 (28 + 0) = some (.inl (E.2.1 4, 11, .inr (.inr (.inr (.inr (fun _ => none)))))) := by rw [hC_120]; rw [va_up_ne _ _ (by decide)]; exact f280_c117
    refine lv_iinc (v := 1) (lv' := [(1, .int 1), (0, .ref (A_117 0))]) hx hb dX7_init_121 hl (k := 0) rfl (by decide) (by decide) rfl (fun ls hl => ?_)
    refine lv_goto (tgt := 103) hx hb dX7_init_124 (by decide) ?_
    refine lv_iload_n hx hb dX7_init_103 rfl (lv_at hl 0 rfl) ?_
    refine lv_iconst (v := 4) hx hb dX7_init_104 (by decide) ?_
    refine lv_icmp_ge (tgt := 127) hx hb dX7_init_105 (by decide) (fun c_105 => ?_) (fun c_105 => ?_)
    · exact absurd c_105 (by decide)
    · refine lv_aload_n hx hb dX7_init_108 rfl (lv_at hl 1 rfl) ?_
      refine wg_get F hP f0_c120 rfl iw_X7 4 (by decide) tb_167 rfl rfl dX7_init_109 ?_
      refine lv_iload_n hx hb dX7_init_112 rfl (lv_at hl 0 rfl) ?_
      refine wg_newF (ci := 0) F hP hS (20 + 1) [.null, .int 0, .int 0, .int 0] rfl iw_X0 tyX0_ok tb_42 tb_105 tb_6 (fun j hj => by rcases (show j = 0 ∨ j = 1 ∨ j = 2 ∨ j = 3 by omega) with rfl | rfl | rfl | rfl <;> rfl) (Nat.le_of_ble_eq_true rfl) (Nat.le_of_ble_eq_true rfl) dX7_init_113 (fun q_113_1 H hP hS => ?_)
      obtain ⟨A_113_1, hA_113_1⟩ : ∃ z : Nat → Nat, z = va_up A_117 (20 + 1) q_113_1 := ⟨_, rfl⟩
      obtain ⟨C_113_1, hC_113_1⟩ : ∃ z : wg_C, z = va_up C_120 (20 + 1) (some (.inr (0, [.null, .int 0, .int 0, .int 0]))) := ⟨_, rfl⟩
      have hP : wg_P E A_113_1 C_113_1 H := by rw [hA_113_1, hC_113_1]; exact hP
      have an_113_1 : q_113_1 = A_113_1 (20 + 1) := by rw [hA_113_1]; exact (va_up_self _ _ _).symm
      have am_113_1_0 : A_113_1 0 = A_117 0 := by rw [hA_113_1]; rw [va_up_ne _ _ (by decide)]
      have am_113_1_1 : A_113_1 5 = A_117 5 := by rw [hA_113_1]; rw [va_up_ne _ _ (by decide)]
      have am_113_1_2 : A_113_1 1 = A_117 1 := by rw [hA_113_1]; rw [va_up_ne _ _ (by decide)]
      have am_113_1_3 : A_113_1 2 = A_117 2 := by rw [hA_113_1]; rw [va_up_ne _ _ (by decide)]
      have am_113_1_4 : A_113_1 4 = A_117 4 := by rw [hA_113_1]; rw [va_up_ne _ _ (by decide)]
      have am_113_1_5 : A_113_1 6 = A_117 6 := by rw [hA_113_1]; rw [va_up_ne _ _ (by decide)]
      have am_113_1_6 : A_113_1 7 = A_117 7 := by rw [hA_113_1]; rw [va_up_ne _ _ (by decide)]
      have am_113_1_7 : A_113_1 8 = A_117 8 := by rw [hA_113_1]; rw [va_up_ne _ _ (by decide)]
      have am_113_1_8 : A_113_1 11 = A_117 11 := by rw [hA_113_1]; rw [va_up_ne _ _ (by decide)]
      have am_113_1_9 : A_113_1 3 = A_117 3 := by rw [hA_113_1]; rw [va_up_ne _ _ (by decide)]
      have am_113_1_10 : A_113_1 9 = A_117 9 := by rw [hA_113_1]; rw [va_up_ne _ _ (by decide)]
      have am_113_1_11 : A_113_1 10 = A_117 10 := by rw [hA_113_1]; rw [va_up_ne _ _ (by decide)]
      have am_113_1_12 : A_113_1 12 = A_117 12 := by rw [hA_113_1]; rw [va_up_ne _ _ (by decide)]
      have am_113_1_13 : A_113_1 13 = A_117 13 := by rw [hA_113_1]; rw [va_up_ne _ _ (by decide)]
      have am_113_1_14 : A_113_1 (24 + 0) = A_117 (24 + 0) := by rw [hA_113_1]; rw [va_up_ne _ _ (by decide)]
      have am_113_1_15 : A_113_1 (28 + 0) = A_117 (28 + 0) := by rw [hA_113_1]; rw [va_up_ne _ _ (by decide)]
      have f0_c113_1 : C_113_1 0 = some (.inr (7, [.ref (A_113_1 1), .int 0, .ref (A_113_1 2), .ref (A_113_1 4), .ref (A_113_1 5), .ref (A_113_1 6), .ref (A_113_1 7), .ref (A_113_1 8), .ref (A_113_1 11)])) := by rw [hC_113_1]; rw [va_up_ne _ _ (by decide)]; rw [am_113_1_2, am_113_1_3, am_113_1_4, am_113_1_1, am_113_1_5, am_113_1_6, am_113_1_7, am_113_1_8]; exact f0_c120
      have f1_c113_1 : C_113_1 1 = some (.inl (E.2.1 3, 16, .inr (.inr (.inr (.inr (fun _ => none)))))) := by rw [hC_113_1]; rw [va_up_ne _ _ (by decide)]; exact f1_c120
      have f2_c113_1 : C_113_1 2 = some (.inr (3, [.ref (A_113_1 3), .int 0])) := by rw [hC_113_1]; rw [va_up_ne _ _ (by decide)]; rw [am_113_1_9]; exact f2_c120
      have f3_c113_1 : C_113_1 3 = some (.inl (E.2.1 4, 60, .inr (.inr (.inr (.inr (fun _ => none)))))) := by rw [hC_113_1]; rw [va_up_ne _ _ (by decide)]; exact f3_c120
      have f4_c113_1 : C_113_1 4 = some (.inl (E.2.1 0, 4, .inl (upd (upd (upd (upd (fun _ => 0) (0 : Int32).toNatClampNeg 1) (1 : Int32).toNatClampNeg 3) (2 : Int32).toNatClampNeg 50) (3 : Int32).toNatClampNeg 4))) := by rw [hC_113_1]; rw [va_up_ne _ _ (by decide)]; exact f4_c120
      have f5_c113_1 : C_113_1 5 = some (.inl (E.2.1 5, 4, .inr (.inr (.inr (.inr (va_up (fun _ => none) (0 : Int32).toNatClampNeg (some (A_117 (20 + 0))))))))) := by rw [hC_113_1]; rw [va_up_ne _ _ (by decide)]; exact f5_c120
      have f6_c113_1 : C_113_1 6 = some (.inl (E.2.1 6, 4, .inr (.inr (.inr (.inr (fun _ => none)))))) := by rw [hC_113_1]; rw [va_up_ne _ _ (by decide)]; exact f6_c120
      have f7_c113_1 : C_113_1 7 = some (.inl (E.2.1 0, 32, .inl (fun _ => 0))) := by rw [hC_113_1]; rw [va_up_ne _ _ (by decide)]; exact f7_c120
      have f8_c113_1 : C_113_1 8 = some (.inr (5, [.ref (A_113_1 9), .ref (A_113_1 10)])) := by rw [hC_113_1]; rw [va_up_ne _ _ (by decide)]; rw [am_113_1_10, am_113_1_11]; exact f8_c120
      have f9_c113_1 : C_113_1 9 = some (.inl (E.2.1 1, 8, .inr (.inl (fun _ => 0)))) := by rw [hC_113_1]; rw [va_up_ne _ _ (by decide)]; exact f9_c120
      have f10_c113_1 : C_113_1 10 = some (.inl (E.2.1 1, 16, .inr (.inl nd))) := by rw [hC_113_1]; rw [va_up_ne _ _ (by decide)]; exact f10_c120
      have f11_c113_1 : C_113_1 11 = some (.inr (4, [.int 0, .int 0, .long 0, .long 0, .ref (A_113_1 12), .int 0, .ref (A_113_1 13)])) := by rw [hC_113_1]; rw [va_up_ne _ _ (by decide)]; rw [am_113_1_12, am_113_1_13]; exact f11_c120
      have f12_c113_1 : C_113_1 12 = some (.inl (E.2.1 1, 4, .inr (.inl (fun _ => 0)))) := by rw [hC_113_1]; rw [va_up_ne _ _ (by decide)]; exact f12_c120
      have f13_c113_1 : C_113_1 13 = some (.inl (E.2.1 1, 16, .inr (.inl (fun _ => 0)))) := by rw [hC_113_1]; rw [va_up_ne _ _ (by decide)]; exact f13_c120
      have f200_c113_1 : C_113_1 (20 + 0) = some (.inr (0, [.ref (A_113_1 (24 + 0)), .int 0, .int ((-2)), .int ((-2))])) := by rw [hC_113_1]; rw [va_up_ne _ _ (by decide)]; rw [am_113_1_14]; exact f200_c120
      have f240_c113_1 : C_113_1 (24 + 0) = some (.inr (3, [.ref (A_113_1 (28 + 0)), .int 0])) := by rw [hC_113_1]; rw [va_up_ne _ _ (by decide)]; rw [am_113_1_15]; exact f240_c120
      have f280_c113_1 : C_113_1 (28 + 0) = some (.inl (E.2.1 4, 11, .inr (.inr (.inr (.inr (fun _ => none)))))) := by rw [hC_113_1]; rw [va_up_ne _ _ (by decide)]; exact f280_c120
      have f201_c113_1 : C_113_1 (20 + 1) = some (.inr (0, [.null, .int 0, .int 0, .int 0])) := by rw [hC_113_1]; exact va_up_self _ _ _
      have hl : lv_has ls 2 [(1, .int 1), (0, .ref (A_113_1 0))] := by rw [am_113_1_0]; exact hl
      refine W.eq (g2 := F0 m 116 ls [.ref (A_113_1 (20 + 1)), .int 1, .ref (A_113_1 5)]) (by rw [← an_113_1, am_113_1_1]) ?_
      clear am_113_1_0 am_113_1_1 am_113_1_2 am_113_1_3 am_113_1_4 am_113_1_5 am_113_1_6 am_113_1_7 am_113_1_8 am_113_1_9 am_113_1_10 am_113_1_11 am_113_1_12 am_113_1_13 am_113_1_14 am_113_1_15 an_113_1
      refine lv_dup hx hb dX7_init_116 rfl ?_
      refine wg_cv hS (wg_rIN (As := []) (rest := [.ref (A_113_1 (20 + 1)), .int 1, .ref (A_113_1 5)]) F hP hS (c_X0_init l E A_113_1 C_113_1 1 (by decide) f201_c113_1) ok_X0_init nb_106 rfl rfl ⟨Nat.le_of_ble_eq_true rfl, Nat.le_of_ble_eq_true rfl⟩ rfl hl.1 rfl (Nat.le_of_ble_eq_true rfl) dX7_init_117 ⟨Nat.le_of_ble_eq_true rfl, Nat.le_of_ble_eq_true rfl⟩) (fun A_117_1 C_117_1 H locs w_117_1 hP hS => ?_)
      obtain ⟨hAf_117_1, hfr_117_1, n0, n1, n2⟩ := w_117_1
      have am_117_1_0 : A_117_1 0 = A_113_1 0 := hAf_117_1 0 (by decide) (by decide)
      have am_117_1_1 : A_117_1 (20 + 1) = A_113_1 (20 + 1) := hAf_117_1 (20 + 1) (by decide) (by decide)
      have am_117_1_2 : A_117_1 5 = A_113_1 5 := hAf_117_1 5 (by decide) (by decide)
      have am_117_1_3 : A_117_1 1 = A_113_1 1 := hAf_117_1 1 (by decide) (by decide)
      have am_117_1_4 : A_117_1 2 = A_113_1 2 := hAf_117_1 2 (by decide) (by decide)
      have am_117_1_5 : A_117_1 4 = A_113_1 4 := hAf_117_1 4 (by decide) (by decide)
      have am_117_1_6 : A_117_1 6 = A_113_1 6 := hAf_117_1 6 (by decide) (by decide)
      have am_117_1_7 : A_117_1 7 = A_113_1 7 := hAf_117_1 7 (by decide) (by decide)
      have am_117_1_8 : A_117_1 8 = A_113_1 8 := hAf_117_1 8 (by decide) (by decide)
      have am_117_1_9 : A_117_1 11 = A_113_1 11 := hAf_117_1 11 (by decide) (by decide)
      have am_117_1_10 : A_117_1 3 = A_113_1 3 := hAf_117_1 3 (by decide) (by decide)
      have am_117_1_11 : A_117_1 9 = A_113_1 9 := hAf_117_1 9 (by decide) (by decide)
      have am_117_1_12 : A_117_1 10 = A_113_1 10 := hAf_117_1 10 (by decide) (by decide)
      have am_117_1_13 : A_117_1 12 = A_113_1 12 := hAf_117_1 12 (by decide) (by decide)
      have am_117_1_14 : A_117_1 13 = A_113_1 13 := hAf_117_1 13 (by decide) (by decide)
      have am_117_1_15 : A_117_1 (24 + 0) = A_113_1 (24 + 0) := hAf_117_1 (24 + 0) (by decide) (by decide)
      have am_117_1_16 : A_117_1 (28 + 0) = A_113_1 (28 + 0) := hAf_117_1 (28 + 0) (by decide) (by decide)
      have f0_c117_1 : C_117_1 0 = some (.inr (7, [.ref (A_117_1 1), .int 0, .ref (A_117_1 2), .ref (A_117_1 4), .ref (A_117_1 5), .ref (A_117_1 6), .ref (A_117_1 7), .ref (A_117_1 8), .ref (A_117_1 11)])) := by rw [hfr_117_1 0 (by decide) (by decide) (by decide)]; rw [am_117_1_3, am_117_1_4, am_117_1_5, am_117_1_2, am_117_1_6, am_117_1_7, am_117_1_8, am_117_1_9]; exact f0_c113_1
      have f1_c117_1 : C_117_1 1 = some (.inl (E.2.1 3, 16, .inr (.inr (.inr (.inr (fun _ => none)))))) := by rw [hfr_117_1 1 (by decide) (by decide) (by decide)]; exact f1_c113_1
      have f2_c117_1 : C_117_1 2 = some (.inr (3, [.ref (A_117_1 3), .int 0])) := by rw [hfr_117_1 2 (by decide) (by decide) (by decide)]; rw [am_117_1_10]; exact f2_c113_1
      have f3_c117_1 : C_117_1 3 = some (.inl (E.2.1 4, 60, .inr (.inr (.inr (.inr (fun _ => none)))))) := by rw [hfr_117_1 3 (by decide) (by decide) (by decide)]; exact f3_c113_1
      have f4_c117_1 : C_117_1 4 = some (.inl (E.2.1 0, 4, .inl (upd (upd (upd (upd (fun _ => 0) (0 : Int32).toNatClampNeg 1) (1 : Int32).toNatClampNeg 3) (2 : Int32).toNatClampNeg 50) (3 : Int32).toNatClampNeg 4))) := by rw [hfr_117_1 4 (by decide) (by decide) (by decide)]; exact f4_c113_1
      have f5_c117_1 : C_117_1 5 = some (.inl (E.2.1 5, 4, .inr (.inr (.inr (.inr (va_up (fun _ => none) (0 : Int32).toNatClampNeg (some (A_117 (20 + 0))))))))) := by rw [hfr_117_1 5 (by decide) (by decide) (by decide)]; exact f5_c113_1
      have f6_c117_1 : C_117_1 6 = some (.inl (E.2.1 6, 4, .inr (.inr (.inr (.inr (fun _ => none)))))) := by rw [hfr_117_1 6 (by decide) (by decide) (by decide)]; exact f6_c113_1
      have f7_c117_1 : C_117_1 7 = some (.inl (E.2.1 0, 32, .inl (fun _ => 0))) := by rw [hfr_117_1 7 (by decide) (by decide) (by decide)]; exact f7_c113_1
      have f8_c117_1 : C_117_1 8 = some (.inr (5, [.ref (A_117_1 9), .ref (A_117_1 10)])) := by rw [hfr_117_1 8 (by decide) (by decide) (by decide)]; rw [am_117_1_11, am_117_1_12]; exact f8_c113_1
      have f9_c117_1 : C_117_1 9 = some (.inl (E.2.1 1, 8, .inr (.inl (fun _ => 0)))) := by rw [hfr_117_1 9 (by decide) (by decide) (by decide)]; exact f9_c113_1
      have f10_c117_1 : C_117_1 10 = some (.inl (E.2.1 1, 16, .inr (.inl nd))) := by rw [hfr_117_1 10 (by decide) (by decide) (by decide)]; exact f10_c113_1
      have f11_c117_1 : C_117_1 11 = some (.inr (4, [.int 0, .int 0, .long 0, .long 0, .ref (A_117_1 12), .int 0, .ref (A_117_1 13)])) := by rw [hfr_117_1 11 (by decide) (by decide) (by decide)]; rw [am_117_1_13, am_117_1_14]; exact f11_c113_1
      have f12_c117_1 : C_117_1 12 = some (.inl (E.2.1 1, 4, .inr (.inl (fun _ => 0)))) := by rw [hfr_117_1 12 (by decide) (by decide) (by decide)]; exact f12_c113_1
      have f13_c117_1 : C_117_1 13 = some (.inl (E.2.1 1, 16, .inr (.inl (fun _ => 0)))) := by rw [hfr_117_1 13 (by decide) (by decide) (by decide)]; exact f13_c113_1
      have f200_c117_1 : C_117_1 (20 + 0) = some (.inr (0, [.ref (A_117_1 (24 + 0)), .int 0, .int ((-2)), .int ((-2))])) := by rw [hfr_117_1 (20 + 0) (by decide) (by decide) (by decide)]; rw [am_117_1_15]; exact f200_c113_1
      have f240_c117_1 : C_117_1 (24 + 0) = some (.inr (3, [.ref (A_117_1 (28 + 0)), .int 0])) := by rw [hfr_117_1 (24 + 0) (by decide) (by decide) (by decide)]; rw [am_117_1_16]; exact f240_c113_1
      have f280_c117_1 : C_117_1 (28 + 0) = some (.inl (E.2.1 4, 11, .inr (.inr (.inr (.inr (fun _ => none)))))) := by rw [hfr_117_1 (28 + 0) (by decide) (by decide) (by decide)]; exact f280_c113_1
      have f201_c117_1 : C_117_1 (20 + 1) = some (.inr (0, [.ref (A_117_1 (24 + 1)), .int 0, .int ((-2)), .int ((-2))])) := n0
      have f241_c117_1 : C_117_1 (24 + 1) = some (.inr (3, [.ref (A_117_1 (28 + 1)), .int 0])) := n1
      have f281_c117_1 : C_117_1 (28 + 1) = some (.inl (E.2.1 4, 11, .inr (.inr (.inr (.inr (fun _ => none)))))) := n2
      have hl : lv_has ls 2 [(1, .int 1), (0, .ref (A_117_1 0))] := by rw [am_117_1_0]; exact hl
      refine W.eq (g2 := F0 m 120 ls [.ref (A_117_1 (20 + 1)), .int 1, .ref (A_117_1 5)]) (by rw [am_117_1_1, am_117_1_2]) ?_
      clear am_117_1_0 am_117_1_1 am_117_1_2 am_117_1_3 am_117_1_4 am_117_1_5 am_117_1_6 am_117_1_7 am_117_1_8 am_117_1_9 am_117_1_10 am_117_1_11 am_117_1_12 am_117_1_13 am_117_1_14 am_117_1_15 am_117_1_16
      refine wg_qst F hP hS 5 rfl f5_c117_1 f201_c117_1 rfl (vp_in_nI (n := 1) (by decide) (by decide)) dX7_init_120 (fun H locs hP hS => ?_)
      obtain ⟨C_120_1, hC_120_1⟩ : ∃ z : wg_C, z = va_up C_117_1 5 (some (.inl (E.2.1 5, 4, .inr (.inr (.inr (.inr (va_up (va_up (fun _ => none) (0 : Int32).toNatClampNeg (some (A_117 (20 + 0)))) (1 : Int32).toNatClampNeg (some (A_117_1 (20 + 1)))))))))) := ⟨_, rfl⟩
      have hP : wg_P E A_117_1 C_120_1 H := by rw [hC_120_1]; exact hP
      have f0_c120_1 : C_120_1 0 = some (.inr (7, [.ref (A_117_1 1), .int 0, .ref (A_117_1 2), .ref (A_117_1 4), .ref (A_117_1 5), .ref (A_117_1 6), .ref (A_117_1 7), .ref (A_117_1 8), .ref (A_117_1 11)])) := by rw [hC_120_1]; rw [va_up_ne _ _ (by decide)]; exact f0_c117_1
      have f1_c120_1 : C_120_1 1 = some (.inl (E.2.1 3, 16, .inr (.inr (.inr (.inr (fun _ => none)))))) := by rw [hC_120_1]; rw [va_up_ne _ _ (by decide)]; exact f1_c117_1
      have f2_c120_1 : C_120_1 2 = some (.inr (3, [.ref (A_117_1 3), .int 0])) := by rw [hC_120_1]; rw [va_up_ne _ _ (by decide)]; exact f2_c117_1
      have f3_c120_1 : C_120_1 3 = some (.inl (E.2.1 4, 60, .inr (.inr (.inr (.inr (fun _ => none)))))) := by rw [hC_120_1]; rw [va_up_ne _ _ (by decide)]; exact f3_c117_1
      have f4_c120_1 : C_120_1 4 = some (.inl (E.2.1 0, 4, .inl (upd (upd (upd (upd (fun _ => 0) (0 : Int32).toNatClampNeg 1) (1 : Int32).toNatClampNeg 3) (2 : Int32).toNatClampNeg 50) (3 : Int32).toNatClampNeg 4))) := by rw [hC_120_1]; rw [va_up_ne _ _ (by decide)]; exact f4_c117_1
      have f5_c120_1 : C_120_1 5 = some (.inl (E.2.1 5, 4, .inr (.inr (.inr (.inr (va_up (va_up (fun _ => none) (0 : Int32).toNatClampNeg (some (A_117 (20 + 0)))) (1 : Int32).toNatClampNeg (some (A_117_1 (20 + 1))))))))) := by rw [hC_120_1]; exact va_up_self _ _ _
      have f6_c120_1 : C_120_1 6 = some (.inl (E.2.1 6, 4, .inr (.inr (.inr (.inr (fun _ => none)))))) := by rw [hC_120_1]; rw [va_up_ne _ _ (by decide)]; exact f6_c117_1
      have f7_c120_1 : C_120_1 7 = some (.inl (E.2.1 0, 32, .inl (fun _ => 0))) := by rw [hC_120_1]; rw [va_up_ne _ _ (by decide)]; exact f7_c117_1
      have f8_c120_1 : C_120_1 8 = some (.inr (5, [.ref (A_117_1 9), .ref (A_117_1 10)])) := by rw [hC_120_1]; rw [va_up_ne _ _ (by decide)]; exact f8_c117_1
      have f9_c120_1 : C_120_1 9 = some (.inl (E.2.1 1, 8, .inr (.inl (fun _ => 0)))) := by rw [hC_120_1]; rw [va_up_ne _ _ (by decide)]; exact f9_c117_1
      have f10_c120_1 : C_120_1 10 = some (.inl (E.2.1 1, 16, .inr (.inl nd))) := by rw [hC_120_1]; rw [va_up_ne _ _ (by decide)]; exact f10_c117_1
      have f11_c120_1 : C_120_1 11 = some (.inr (4, [.int 0, .int 0, .long 0, .long 0, .ref (A_117_1 12), .int 0, .ref (A_117_1 13)])) := by rw [hC_120_1]; rw [va_up_ne _ _ (by decide)]; exact f11_c117_1
      have f12_c120_1 : C_120_1 12 = some (.inl (E.2.1 1, 4, .inr (.inl (fun _ => 0)))) := by rw [hC_120_1]; rw [va_up_ne _ _ (by decide)]; exact f12_c117_1
      have f13_c120_1 : C_120_1 13 = some (.inl (E.2.1 1, 16, .inr (.inl (fun _ => 0)))) := by rw [hC_120_1]; rw [va_up_ne _ _ (by decide)]; exact f13_c117_1
      have f200_c120_1 : C_120_1 (20 + 0) = some (.inr (0, [.ref (A_117_1 (24 + 0)), .int 0, .int ((-2)), .int ((-2))])) := by rw [hC_120_1]; rw [va_up_ne _ _ (by decide)]; exact f200_c117_1
      have f240_c120_1 : C_120_1 (24 + 0) = some (.inr (3, [.ref (A_117_1 (28 + 0)), .int 0])) := by rw [hC_120_1]; rw [va_up_ne _ _ (by decide)]; exact f240_c117_1
      have f280_c120_1 : C_120_1 (28 + 0) = some (.inl (E.2.1 4, 11, .inr (.inr (.inr (.inr (fun _ => none)))))) := by rw [hC_120_1]; rw [va_up_ne _ _ (by decide)]; exact f280_c117_1
      have f201_c120_1 : C_120_1 (20 + 1) = some (.inr (0, [.ref (A_117_1 (24 + 1)), .int 0, .int ((-2)), .int ((-2))])) := by rw [hC_120_1]; rw [va_up_ne _ _ (by decide)]; exact f201_c117_1
      have f241_c120_1 : C_120_1 (24 + 1) = some (.inr (3, [.ref (A_117_1 (28 + 1)), .int 0])) := by rw [hC_120_1]; rw [va_up_ne _ _ (by decide)]; exact f241_c117_1
      have f281_c120_1 : C_120_1 (28 + 1) = some (.inl (E.2.1 4, 11, .inr (.inr (.inr (.inr (fun _ => none)))))) := by rw [hC_120_1]; rw [va_up_ne _ _ (by decide)]; exact f281_c117_1
      refine lv_iinc (v := 2) (lv' := [(1, .int 2), (0, .ref (A_117_1 0))]) hx hb dX7_init_121 hl (k := 0) rfl (by decide) (by decide) rfl (fun ls hl => ?_)
      refine lv_goto (tgt := 103) hx hb dX7_init_124 (by decide) ?_
      refine lv_iload_n hx hb dX7_init_103 rfl (lv_at hl 0 rfl) ?_
      refine lv_iconst (v := 4) hx hb dX7_init_104 (by decide) ?_
      refine lv_icmp_ge (tgt := 127) hx hb dX7_init_105 (by decide) (fun c_105 => ?_) (fun c_105 => ?_)
      · exact absurd c_105 (by decide)
      · refine lv_aload_n hx hb dX7_init_108 rfl (lv_at hl 1 rfl) ?_
        refine wg_get F hP f0_c120_1 rfl iw_X7 4 (by decide) tb_167 rfl rfl dX7_init_109 ?_
        refine lv_iload_n hx hb dX7_init_112 rfl (lv_at hl 0 rfl) ?_
        refine wg_newF (ci := 0) F hP hS (20 + 2) [.null, .int 0, .int 0, .int 0] rfl iw_X0 tyX0_ok tb_42 tb_105 tb_6 (fun j hj => by rcases (show j = 0 ∨ j = 1 ∨ j = 2 ∨ j = 3 by omega) with rfl | rfl | rfl | rfl <;> rfl) (Nat.le_of_ble_eq_true rfl) (Nat.le_of_ble_eq_true rfl) dX7_init_113 (fun q_113_2 H hP hS => ?_)
        obtain ⟨A_113_2, hA_113_2⟩ : ∃ z : Nat → Nat, z = va_up A_117_1 (20 + 2) q_113_2 := ⟨_, rfl⟩
        obtain ⟨C_113_2, hC_113_2⟩ : ∃ z : wg_C, z = va_up C_120_1 (20 + 2) (some (.inr (0, [.null, .int 0, .int 0, .int 0]))) := ⟨_, rfl⟩
        have hP : wg_P E A_113_2 C_113_2 H := by rw [hA_113_2, hC_113_2]; exact hP
        have an_113_2 : q_113_2 = A_113_2 (20 + 2) := by rw [hA_113_2]; exact (va_up_self _ _ _).symm
        have am_113_2_0 : A_113_2 0 = A_117_1 0 := by rw [hA_113_2]; rw [va_up_ne _ _ (by decide)]
        have am_113_2_1 : A_113_2 5 = A_117_1 5 := by rw [hA_113_2]; rw [va_up_ne _ _ (by decide)]
        have am_113_2_2 : A_113_2 1 = A_117_1 1 := by rw [hA_113_2]; rw [va_up_ne _ _ (by decide)]
        have am_113_2_3 : A_113_2 2 = A_117_1 2 := by rw [hA_113_2]; rw [va_up_ne _ _ (by decide)]
        have am_113_2_4 : A_113_2 4 = A_117_1 4 := by rw [hA_113_2]; rw [va_up_ne _ _ (by decide)]
        have am_113_2_5 : A_113_2 6 = A_117_1 6 := by rw [hA_113_2]; rw [va_up_ne _ _ (by decide)]
        have am_113_2_6 : A_113_2 7 = A_117_1 7 := by rw [hA_113_2]; rw [va_up_ne _ _ (by decide)]
        have am_113_2_7 : A_113_2 8 = A_117_1 8 := by rw [hA_113_2]; rw [va_up_ne _ _ (by decide)]
        have am_113_2_8 : A_113_2 11 = A_117_1 11 := by rw [hA_113_2]; rw [va_up_ne _ _ (by decide)]
        have am_113_2_9 : A_113_2 3 = A_117_1 3 := by rw [hA_113_2]; rw [va_up_ne _ _ (by decide)]
        have am_113_2_10 : A_113_2 9 = A_117_1 9 := by rw [hA_113_2]; rw [va_up_ne _ _ (by decide)]
        have am_113_2_11 : A_113_2 10 = A_117_1 10 := by rw [hA_113_2]; rw [va_up_ne _ _ (by decide)]
        have am_113_2_12 : A_113_2 12 = A_117_1 12 := by rw [hA_113_2]; rw [va_up_ne _ _ (by decide)]
        have am_113_2_13 : A_113_2 13 = A_117_1 13 := by rw [hA_113_2]; rw [va_up_ne _ _ (by decide)]
        have am_113_2_14 : A_113_2 (24 + 0) = A_117_1 (24 + 0) := by rw [hA_113_2]; rw [va_up_ne _ _ (by decide)]
        have am_113_2_15 : A_113_2 (28 + 0) = A_117_1 (28 + 0) := by rw [hA_113_2]; rw [va_up_ne _ _ (by decide)]
        have am_113_2_16 : A_113_2 (24 + 1) = A_117_1 (24 + 1) := by rw [hA_113_2]; rw [va_up_ne _ _ (by decide)]
        have am_113_2_17 : A_113_2 (28 + 1) = A_117_1 (28 + 1) := by rw [hA_113_2]; rw [va_up_ne _ _ (by decide)]
        have f0_c113_2 : C_113_2 0 = some (.inr (7, [.ref (A_113_2 1), .int 0, .ref (A_113_2 2), .ref (A_113_2 4), .ref (A_113_2 5), .ref (A_113_2 6), .ref (A_113_2 7), .ref (A_113_2 8), .ref (A_113_2 11)])) := by rw [hC_113_2]; rw [va_up_ne _ _ (by decide)]; rw [am_113_2_2, am_113_2_3, am_113_2_4, am_113_2_1, am_113_2_5, am_113_2_6, am_113_2_7, am_113_2_8]; exact f0_c120_1
        have f1_c113_2 : C_113_2 1 = some (.inl (E.2.1 3, 16, .inr (.inr (.inr (.inr (fun _ => none)))))) := by rw [hC_113_2]; rw [va_up_ne _ _ (by decide)]; exact f1_c120_1
        have f2_c113_2 : C_113_2 2 = some (.inr (3, [.ref (A_113_2 3), .int 0])) := by rw [hC_113_2]; rw [va_up_ne _ _ (by decide)]; rw [am_113_2_9]; exact f2_c120_1
        have f3_c113_2 : C_113_2 3 = some (.inl (E.2.1 4, 60, .inr (.inr (.inr (.inr (fun _ => none)))))) := by rw [hC_113_2]; rw [va_up_ne _ _ (by decide)]; exact f3_c120_1
        have f4_c113_2 : C_113_2 4 = some (.inl (E.2.1 0, 4, .inl (upd (upd (upd (upd (fun _ => 0) (0 : Int32).toNatClampNeg 1) (1 : Int32).toNatClampNeg 3) (2 : Int32).toNatClampNeg 50) (3 : Int32).toNatClampNeg 4))) := by rw [hC_113_2]; rw [va_up_ne _ _ (by decide)]; exact f4_c120_1
        have f5_c113_2 : C_113_2 5 = some (.inl (E.2.1 5, 4, .inr (.inr (.inr (.inr (va_up (va_up (fun _ => none) (0 : Int32).toNatClampNeg (some (A_117 (20 + 0)))) (1 : Int32).toNatClampNeg (some (A_117_1 (20 + 1))))))))) := by rw [hC_113_2]; rw [va_up_ne _ _ (by decide)]; exact f5_c120_1
        have f6_c113_2 : C_113_2 6 = some (.inl (E.2.1 6, 4, .inr (.inr (.inr (.inr (fun _ => none)))))) := by rw [hC_113_2]; rw [va_up_ne _ _ (by decide)]; exact f6_c120_1
        have f7_c113_2 : C_113_2 7 = some (.inl (E.2.1 0, 32, .inl (fun _ => 0))) := by rw [hC_113_2]; rw [va_up_ne _ _ (by decide)]; exact f7_c120_1
        have f8_c113_2 : C_113_2 8 = some (.inr (5, [.ref (A_113_2 9), .ref (A_113_2 10)])) := by rw [hC_113_2]; rw [va_up_ne _ _ (by decide)]; rw [am_113_2_10, am_113_2_11]; exact f8_c120_1
        have f9_c113_2 : C_113_2 9 = some (.inl (E.2.1 1, 8, .inr (.inl (fun _ => 0)))) := by rw [hC_113_2]; rw [va_up_ne _ _ (by decide)]; exact f9_c120_1
        have f10_c113_2 : C_113_2 10 = some (.inl (E.2.1 1, 16, .inr (.inl nd))) := by rw [hC_113_2]; rw [va_up_ne _ _ (by decide)]; exact f10_c120_1
        have f11_c113_2 : C_113_2 11 = some (.inr (4, [.int 0, .int 0, .long 0, .long 0, .ref (A_113_2 12), .int 0, .ref (A_113_2 13)])) := by rw [hC_113_2]; rw [va_up_ne _ _ (by decide)]; rw [am_113_2_12, am_113_2_13]; exact f11_c120_1
        have f12_c113_2 : C_113_2 12 = some (.inl (E.2.1 1, 4, .inr (.inl (fun _ => 0)))) := by rw [hC_113_2]; rw [va_up_ne _ _ (by decide)]; exact f12_c120_1
        have f13_c113_2 : C_113_2 13 = some (.inl (E.2.1 1, 16, .inr (.inl (fun _ => 0)))) := by rw [hC_113_2]; rw [va_up_ne _ _ (by decide)]; exact f13_c120_1
        have f200_c113_2 : C_113_2 (20 + 0) = some (.inr (0, [.ref (A_113_2 (24 + 0)), .int 0, .int ((-2)), .int ((-2))])) := by rw [hC_113_2]; rw [va_up_ne _ _ (by decide)]; rw [am_113_2_14]; exact f200_c120_1
        have f240_c113_2 : C_113_2 (24 + 0) = some (.inr (3, [.ref (A_113_2 (28 + 0)), .int 0])) := by rw [hC_113_2]; rw [va_up_ne _ _ (by decide)]; rw [am_113_2_15]; exact f240_c120_1
        have f280_c113_2 : C_113_2 (28 + 0) = some (.inl (E.2.1 4, 11, .inr (.inr (.inr (.inr (fun _ => none)))))) := by rw [hC_113_2]; rw [va_up_ne _ _ (by decide)]; exact f280_c120_1
        have f201_c113_2 : C_113_2 (20 + 1) = some (.inr (0, [.ref (A_113_2 (24 + 1)), .int 0, .int ((-2)), .int ((-2))])) := by rw [hC_113_2]; rw [va_up_ne _ _ (by decide)]; rw [am_113_2_16]; exact f201_c120_1
        have f241_c113_2 : C_113_2 (24 + 1) = some (.inr (3, [.ref (A_113_2 (28 + 1)), .int 0])) := by rw [hC_113_2]; rw [va_up_ne _ _ (by decide)]; rw [am_113_2_17]; exact f241_c120_1
        have f281_c113_2 : C_113_2 (28 + 1) = some (.inl (E.2.1 4, 11, .inr (.inr (.inr (.inr (fun _ => none)))))) := by rw [hC_113_2]; rw [va_up_ne _ _ (by decide)]; exact f281_c120_1
        have f202_c113_2 : C_113_2 (20 + 2) = some (.inr (0, [.null, .int 0, .int 0, .int 0])) := by rw [hC_113_2]; exact va_up_self _ _ _
        have hl : lv_has ls 2 [(1, .int 2), (0, .ref (A_113_2 0))] := by rw [am_113_2_0]; exact hl
        refine W.eq (g2 := F0 m 116 ls [.ref (A_113_2 (20 + 2)), .int 2, .ref (A_113_2 5)]) (by rw [← an_113_2, am_113_2_1]) ?_
        clear am_113_2_0 am_113_2_1 am_113_2_2 am_113_2_3 am_113_2_4 am_113_2_5 am_113_2_6 am_113_2_7 am_113_2_8 am_113_2_9 am_113_2_10 am_113_2_11 am_113_2_12 am_113_2_13 am_113_2_14 am_113_2_15 am_113_2_16 am_113_2_17 an_113_2
        refine lv_dup hx hb dX7_init_116 rfl ?_
        refine wg_cv hS (wg_rIN (As := []) (rest := [.ref (A_113_2 (20 + 2)), .int 2, .ref (A_113_2 5)]) F hP hS (c_X0_init l E A_113_2 C_113_2 2 (by decide) f202_c113_2) ok_X0_init nb_106 rfl rfl ⟨Nat.le_of_ble_eq_true rfl, Nat.le_of_ble_eq_true rfl⟩ rfl hl.1 rfl (Nat.le_of_ble_eq_true rfl) dX7_init_117 ⟨Nat.le_of_ble_eq_true rfl, Nat.le_of_ble_eq_true rfl⟩) (fun A_117_2 C_117_2 H locs w_117_2 hP hS => ?_)
        obtain ⟨hAf_117_2, hfr_117_2, n0, n1, n2⟩ := w_117_2
        have am_117_2_0 : A_117_2 0 = A_113_2 0 := hAf_117_2 0 (by decide) (by decide)
        have am_117_2_1 : A_117_2 (20 + 2) = A_113_2 (20 + 2) := hAf_117_2 (20 + 2) (by decide) (by decide)
        have am_117_2_2 : A_117_2 5 = A_113_2 5 := hAf_117_2 5 (by decide) (by decide)
        have am_117_2_3 : A_117_2 1 = A_113_2 1 := hAf_117_2 1 (by decide) (by decide)
        have am_117_2_4 : A_117_2 2 = A_113_2 2 := hAf_117_2 2 (by decide) (by decide)
        have am_117_2_5 : A_117_2 4 = A_113_2 4 := hAf_117_2 4 (by decide) (by decide)
        have am_117_2_6 : A_117_2 6 = A_113_2 6 := hAf_117_2 6 (by decide) (by decide)
        have am_117_2_7 : A_117_2 7 = A_113_2 7 := hAf_117_2 7 (by decide) (by decide)
        have am_117_2_8 : A_117_2 8 = A_113_2 8 := hAf_117_2 8 (by decide) (by decide)
        have am_117_2_9 : A_117_2 11 = A_113_2 11 := hAf_117_2 11 (by decide) (by decide)
        have am_117_2_10 : A_117_2 3 = A_113_2 3 := hAf_117_2 3 (by decide) (by decide)
        have am_117_2_11 : A_117_2 9 = A_113_2 9 := hAf_117_2 9 (by decide) (by decide)
        have am_117_2_12 : A_117_2 10 = A_113_2 10 := hAf_117_2 10 (by decide) (by decide)
        have am_117_2_13 : A_117_2 12 = A_113_2 12 := hAf_117_2 12 (by decide) (by decide)
        have am_117_2_14 : A_117_2 13 = A_113_2 13 := hAf_117_2 13 (by decide) (by decide)
        have am_117_2_15 : A_117_2 (24 + 0) = A_113_2 (24 + 0) := hAf_117_2 (24 + 0) (by decide) (by decide)
        have am_117_2_16 : A_117_2 (28 + 0) = A_113_2 (28 + 0) := hAf_117_2 (28 + 0) (by decide) (by decide)
        have am_117_2_17 : A_117_2 (24 + 1) = A_113_2 (24 + 1) := hAf_117_2 (24 + 1) (by decide) (by decide)
        have am_117_2_18 : A_117_2 (28 + 1) = A_113_2 (28 + 1) := hAf_117_2 (28 + 1) (by decide) (by decide)
        have f0_c117_2 : C_117_2 0 = some (.inr (7, [.ref (A_117_2 1), .int 0, .ref (A_117_2 2), .ref (A_117_2 4), .ref (A_117_2 5), .ref (A_117_2 6), .ref (A_117_2 7), .ref (A_117_2 8), .ref (A_117_2 11)])) := by rw [hfr_117_2 0 (by decide) (by decide) (by decide)]; rw [am_117_2_3, am_117_2_4, am_117_2_5, am_117_2_2, am_117_2_6, am_117_2_7, am_117_2_8, am_117_2_9]; exact f0_c113_2
        have f1_c117_2 : C_117_2 1 = some (.inl (E.2.1 3, 16, .inr (.inr (.inr (.inr (fun _ => none)))))) := by rw [hfr_117_2 1 (by decide) (by decide) (by decide)]; exact f1_c113_2
        have f2_c117_2 : C_117_2 2 = some (.inr (3, [.ref (A_117_2 3), .int 0])) := by rw [hfr_117_2 2 (by decide) (by decide) (by decide)]; rw [am_117_2_10]; exact f2_c113_2
        have f3_c117_2 : C_117_2 3 = some (.inl (E.2.1 4, 60, .inr (.inr (.inr (.inr (fun _ => none)))))) := by rw [hfr_117_2 3 (by decide) (by decide) (by decide)]; exact f3_c113_2
        have f4_c117_2 : C_117_2 4 = some (.inl (E.2.1 0, 4, .inl (upd (upd (upd (upd (fun _ => 0) (0 : Int32).toNatClampNeg 1) (1 : Int32).toNatClampNeg 3) (2 : Int32).toNatClampNeg 50) (3 : Int32).toNatClampNeg 4))) := by rw [hfr_117_2 4 (by decide) (by decide) (by decide)]; exact f4_c113_2
        have f5_c117_2 : C_117_2 5 = some (.inl (E.2.1 5, 4, .inr (.inr (.inr (.inr (va_up (va_up (fun _ => none) (0 : Int32).toNatClampNeg (some (A_117 (20 + 0)))) (1 : Int32).toNatClampNeg (some (A_117_1 (20 + 1))))))))) := by rw [hfr_117_2 5 (by decide) (by decide) (by decide)]; exact f5_c113_2
        have f6_c117_2 : C_117_2 6 = some (.inl (E.2.1 6, 4, .inr (.inr (.inr (.inr (fun _ => none)))))) := by rw [hfr_117_2 6 (by decide) (by decide) (by decide)]; exact f6_c113_2
        have f7_c117_2 : C_117_2 7 = some (.inl (E.2.1 0, 32, .inl (fun _ => 0))) := by rw [hfr_117_2 7 (by decide) (by decide) (by decide)]; exact f7_c113_2
        have f8_c117_2 : C_117_2 8 = some (.inr (5, [.ref (A_117_2 9), .ref (A_117_2 10)])) := by rw [hfr_117_2 8 (by decide) (by decide) (by decide)]; rw [am_117_2_11, am_117_2_12]; exact f8_c113_2
        have f9_c117_2 : C_117_2 9 = some (.inl (E.2.1 1, 8, .inr (.inl (fun _ => 0)))) := by rw [hfr_117_2 9 (by decide) (by decide) (by decide)]; exact f9_c113_2
        have f10_c117_2 : C_117_2 10 = some (.inl (E.2.1 1, 16, .inr (.inl nd))) := by rw [hfr_117_2 10 (by decide) (by decide) (by decide)]; exact f10_c113_2
        have f11_c117_2 : C_117_2 11 = some (.inr (4, [.int 0, .int 0, .long 0, .long 0, .ref (A_117_2 12), .int 0, .ref (A_117_2 13)])) := by rw [hfr_117_2 11 (by decide) (by decide) (by decide)]; rw [am_117_2_13, am_117_2_14]; exact f11_c113_2
        have f12_c117_2 : C_117_2 12 = some (.inl (E.2.1 1, 4, .inr (.inl (fun _ => 0)))) := by rw [hfr_117_2 12 (by decide) (by decide) (by decide)]; exact f12_c113_2
        have f13_c117_2 : C_117_2 13 = some (.inl (E.2.1 1, 16, .inr (.inl (fun _ => 0)))) := by rw [hfr_117_2 13 (by decide) (by decide) (by decide)]; exact f13_c113_2
        have f200_c117_2 : C_117_2 (20 + 0) = some (.inr (0, [.ref (A_117_2 (24 + 0)), .int 0, .int ((-2)), .int ((-2))])) := by rw [hfr_117_2 (20 + 0) (by decide) (by decide) (by decide)]; rw [am_117_2_15]; exact f200_c113_2
        have f240_c117_2 : C_117_2 (24 + 0) = some (.inr (3, [.ref (A_117_2 (28 + 0)), .int 0])) := by rw [hfr_117_2 (24 + 0) (by decide) (by decide) (by decide)]; rw [am_117_2_16]; exact f240_c113_2
        have f280_c117_2 : C_117_2 (28 + 0) = some (.inl (E.2.1 4, 11, .inr (.inr (.inr (.inr (fun _ => none)))))) := by rw [hfr_117_2 (28 + 0) (by decide) (by decide) (by decide)]; exact f280_c113_2
        have f201_c117_2 : C_117_2 (20 + 1) = some (.inr (0, [.ref (A_117_2 (24 + 1)), .int 0, .int ((-2)), .int ((-2))])) := by rw [hfr_117_2 (20 + 1) (by decide) (by decide) (by decide)]; rw [am_117_2_17]; exact f201_c113_2
        have f241_c117_2 : C_117_2 (24 + 1) = some (.inr (3, [.ref (A_117_2 (28 + 1)), .int 0])) := by rw [hfr_117_2 (24 + 1) (by decide) (by decide) (by decide)]; rw [am_117_2_18]; exact f241_c113_2
        have f281_c117_2 : C_117_2 (28 + 1) = some (.inl (E.2.1 4, 11, .inr (.inr (.inr (.inr (fun _ => none)))))) := by rw [hfr_117_2 (28 + 1) (by decide) (by decide) (by decide)]; exact f281_c113_2
        have f202_c117_2 : C_117_2 (20 + 2) = some (.inr (0, [.ref (A_117_2 (24 + 2)), .int 0, .int ((-2)), .int ((-2))])) := n0
        have f242_c117_2 : C_117_2 (24 + 2) = some (.inr (3, [.ref (A_117_2 (28 + 2)), .int 0])) := n1
        have f282_c117_2 : C_117_2 (28 + 2) = some (.inl (E.2.1 4, 11, .inr (.inr (.inr (.inr (fun _ => none)))))) := n2
        have hl : lv_has ls 2 [(1, .int 2), (0, .ref (A_117_2 0))] := by rw [am_117_2_0]; exact hl
        refine W.eq (g2 := F0 m 120 ls [.ref (A_117_2 (20 + 2)), .int 2, .ref (A_117_2 5)]) (by rw [am_117_2_1, am_117_2_2]) ?_
        clear am_117_2_0 am_117_2_1 am_117_2_2 am_117_2_3 am_117_2_4 am_117_2_5 am_117_2_6 am_117_2_7 am_117_2_8 am_117_2_9 am_117_2_10 am_117_2_11 am_117_2_12 am_117_2_13 am_117_2_14 am_117_2_15 am_117_2_16 am_117_2_17 am_117_2_18
        refine wg_qst F hP hS 5 rfl f5_c117_2 f202_c117_2 rfl (vp_in_nI (n := 2) (by decide) (by decide)) dX7_init_120 (fun H locs hP hS => ?_)
        obtain ⟨C_120_2, hC_120_2⟩ : ∃ z : wg_C, z = va_up C_117_2 5 (some (.inl (E.2.1 5, 4, .inr (.inr (.inr (.inr (va_up (va_up (va_up (fun _ => none) (0 : Int32).toNatClampNeg (some (A_117 (20 + 0)))) (1 : Int32).toNatClampNeg (some (A_117_1 (20 + 1)))) (2 : Int32).toNatClampNeg (some (A_117_2 (20 + 2)))))))))) := ⟨_, rfl⟩
        have hP : wg_P E A_117_2 C_120_2 H := by rw [hC_120_2]; exact hP
        have f0_c120_2 : C_120_2 0 = some (.inr (7, [.ref (A_117_2 1), .int 0, .ref (A_117_2 2), .ref (A_117_2 4), .ref (A_117_2 5), .ref (A_117_2 6), .ref (A_117_2 7), .ref (A_117_2 8), .ref (A_117_2 11)])) := by rw [hC_120_2]; rw [va_up_ne _ _ (by decide)]; exact f0_c117_2
        have f1_c120_2 : C_120_2 1 = some (.inl (E.2.1 3, 16, .inr (.inr (.inr (.inr (fun _ => none)))))) := by rw [hC_120_2]; rw [va_up_ne _ _ (by decide)]; exact f1_c117_2
        have f2_c120_2 : C_120_2 2 = some (.inr (3, [.ref (A_117_2 3), .int 0])) := by rw [hC_120_2]; rw [va_up_ne _ _ (by decide)]; exact f2_c117_2
        have f3_c120_2 : C_120_2 3 = some (.inl (E.2.1 4, 60, .inr (.inr (.inr (.inr (fun _ => none)))))) := by rw [hC_120_2]; rw [va_up_ne _ _ (by decide)]; exact f3_c117_2
        have f4_c120_2 : C_120_2 4 = some (.inl (E.2.1 0, 4, .inl (upd (upd (upd (upd (fun _ => 0) (0 : Int32).toNatClampNeg 1) (1 : Int32).toNatClampNeg 3) (2 : Int32).toNatClampNeg 50) (3 : Int32).toNatClampNeg 4))) := by rw [hC_120_2]; rw [va_up_ne _ _ (by decide)]; exact f4_c117_2
        have f5_c120_2 : C_120_2 5 = some (.inl (E.2.1 5, 4, .inr (.inr (.inr (.inr (va_up (va_up (va_up (fun _ => none) (0 : Int32).toNatClampNeg (some (A_117 (20 + 0)))) (1 : Int32).toNatClampNeg (some (A_117_1 (20 + 1)))) (2 : Int32).toNatClampNeg (some (A_117_2 (20 + 2))))))))) := by rw [hC_120_2]; exact va_up_self _ _ _
        have f6_c120_2 : C_120_2 6 = some (.inl (E.2.1 6, 4, .inr (.inr (.inr (.inr (fun _ => none)))))) := by rw [hC_120_2]; rw [va_up_ne _ _ (by decide)]; exact f6_c117_2
        have f7_c120_2 : C_120_2 7 = some (.inl (E.2.1 0, 32, .inl (fun _ => 0))) := by rw [hC_120_2]; rw [va_up_ne _ _ (by decide)]; exact f7_c117_2
        have f8_c120_2 : C_120_2 8 = some (.inr (5, [.ref (A_117_2 9), .ref (A_117_2 10)])) := by rw [hC_120_2]; rw [va_up_ne _ _ (by decide)]; exact f8_c117_2
        have f9_c120_2 : C_120_2 9 = some (.inl (E.2.1 1, 8, .inr (.inl (fun _ => 0)))) := by rw [hC_120_2]; rw [va_up_ne _ _ (by decide)]; exact f9_c117_2
        have f10_c120_2 : C_120_2 10 = some (.inl (E.2.1 1, 16, .inr (.inl nd))) := by rw [hC_120_2]; rw [va_up_ne _ _ (by decide)]; exact f10_c117_2
        have f11_c120_2 : C_120_2 11 = some (.inr (4, [.int 0, .int 0, .long 0, .long 0, .ref (A_117_2 12), .int 0, .ref (A_117_2 13)])) := by rw [hC_120_2]; rw [va_up_ne _ _ (by decide)]; exact f11_c117_2
        have f12_c120_2 : C_120_2 12 = some (.inl (E.2.1 1, 4, .inr (.inl (fun _ => 0)))) := by rw [hC_120_2]; rw [va_up_ne _ _ (by decide)]; exact f12_c117_2
        have f13_c120_2 : C_120_2 13 = some (.inl (E.2.1 1, 16, .inr (.inl (fun _ => 0)))) := by rw [hC_120_2]; rw [va_up_ne _ _ (by decide)]; exact f13_c117_2
        have f200_c120_2 : C_120_2 (20 + 0) = some (.inr (0, [.ref (A_117_2 (24 + 0)), .int 0, .int ((-2)), .int ((-2))])) := by rw [hC_120_2]; rw [va_up_ne _ _ (by decide)]; exact f200_c117_2
        have f240_c120_2 : C_120_2 (24 + 0) = some (.inr (3, [.ref (A_117_2 (28 + 0)), .int 0])) := by rw [hC_120_2]; rw [va_up_ne _ _ (by decide)]; exact f240_c117_2
        have f280_c120_2 : C_120_2 (28 + 0) = some (.inl (E.2.1 4, 11, .inr (.inr (.inr (.inr (fun _ => none)))))) := by rw [hC_120_2]; rw [va_up_ne _ _ (by decide)]; exact f280_c117_2
        have f201_c120_2 : C_120_2 (20 + 1) = some (.inr (0, [.ref (A_117_2 (24 + 1)), .int 0, .int ((-2)), .int ((-2))])) := by rw [hC_120_2]; rw [va_up_ne _ _ (by decide)]; exact f201_c117_2
        have f241_c120_2 : C_120_2 (24 + 1) = some (.inr (3, [.ref (A_117_2 (28 + 1)), .int 0])) := by rw [hC_120_2]; rw [va_up_ne _ _ (by decide)]; exact f241_c117_2
        have f281_c120_2 : C_120_2 (28 + 1) = some (.inl (E.2.1 4, 11, .inr (.inr (.inr (.inr (fun _ => none)))))) := by rw [hC_120_2]; rw [va_up_ne _ _ (by decide)]; exact f281_c117_2
        have f202_c120_2 : C_120_2 (20 + 2) = some (.inr (0, [.ref (A_117_2 (24 + 2)), .int 0, .int ((-2)), .int ((-2))])) := by rw [hC_120_2]; rw [va_up_ne _ _ (by decide)]; exact f202_c117_2
        have f242_c120_2 : C_120_2 (24 + 2) = some (.inr (3, [.ref (A_117_2 (28 + 2)), .int 0])) := by rw [hC_120_2]; rw [va_up_ne _ _ (by decide)]; exact f242_c117_2
        have f282_c120_2 : C_120_2 (28 + 2) = some (.inl (E.2.1 4, 11, .inr (.inr (.inr (.inr (fun _ => none)))))) := by rw [hC_120_2]; rw [va_up_ne _ _ (by decide)]; exact f282_c117_2
        refine lv_iinc (v := 3) (lv' := [(1, .int 3), (0, .ref (A_117_2 0))]) hx hb dX7_init_121 hl (k := 0) rfl (by decide) (by decide) rfl (fun ls hl => ?_)
        refine lv_goto (tgt := 103) hx hb dX7_init_124 (by decide) ?_
        refine lv_iload_n hx hb dX7_init_103 rfl (lv_at hl 0 rfl) ?_
        refine lv_iconst (v := 4) hx hb dX7_init_104 (by decide) ?_
        refine lv_icmp_ge (tgt := 127) hx hb dX7_init_105 (by decide) (fun c_105 => ?_) (fun c_105 => ?_)
        · exact absurd c_105 (by decide)
        · refine lv_aload_n hx hb dX7_init_108 rfl (lv_at hl 1 rfl) ?_
          refine wg_get F hP f0_c120_2 rfl iw_X7 4 (by decide) tb_167 rfl rfl dX7_init_109 ?_
          refine lv_iload_n hx hb dX7_init_112 rfl (lv_at hl 0 rfl) ?_
          refine wg_newF (ci := 0) F hP hS (20 + 3) [.null, .int 0, .int 0, .int 0] rfl iw_X0 tyX0_ok tb_42 tb_105 tb_6 (fun j hj => by rcases (show j = 0 ∨ j = 1 ∨ j = 2 ∨ j = 3 by omega) with rfl | rfl | rfl | rfl <;> rfl) (Nat.le_of_ble_eq_true rfl) (Nat.le_of_ble_eq_true rfl) dX7_init_113 (fun q_113_3 H hP hS => ?_)
          obtain ⟨A_113_3, hA_113_3⟩ : ∃ z : Nat → Nat, z = va_up A_117_2 (20 + 3) q_113_3 := ⟨_, rfl⟩
          obtain ⟨C_113_3, hC_113_3⟩ : ∃ z : wg_C, z = va_up C_120_2 (20 + 3) (some (.inr (0, [.null, .int 0, .int 0, .int 0]))) := ⟨_, rfl⟩
          have hP : wg_P E A_113_3 C_113_3 H := by rw [hA_113_3, hC_113_3]; exact hP
          have an_113_3 : q_113_3 = A_113_3 (20 + 3) := by rw [hA_113_3]; exact (va_up_self _ _ _).symm
          have am_113_3_0 : A_113_3 0 = A_117_2 0 := by rw [hA_113_3]; rw [va_up_ne _ _ (by decide)]
          have am_113_3_1 : A_113_3 5 = A_117_2 5 := by rw [hA_113_3]; rw [va_up_ne _ _ (by decide)]
          have am_113_3_2 : A_113_3 1 = A_117_2 1 := by rw [hA_113_3]; rw [va_up_ne _ _ (by decide)]
          have am_113_3_3 : A_113_3 2 = A_117_2 2 := by rw [hA_113_3]; rw [va_up_ne _ _ (by decide)]
          have am_113_3_4 : A_113_3 4 = A_117_2 4 := by rw [hA_113_3]; rw [va_up_ne _ _ (by decide)]
          have am_113_3_5 : A_113_3 6 = A_117_2 6 := by rw [hA_113_3]; rw [va_up_ne _ _ (by decide)]
          have am_113_3_6 : A_113_3 7 = A_117_2 7 := by rw [hA_113_3]; rw [va_up_ne _ _ (by decide)]
          have am_113_3_7 : A_113_3 8 = A_117_2 8 := by rw [hA_113_3]; rw [va_up_ne _ _ (by decide)]
          have am_113_3_8 : A_113_3 11 = A_117_2 11 := by rw [hA_113_3]; rw [va_up_ne _ _ (by decide)]
          have am_113_3_9 : A_113_3 3 = A_117_2 3 := by rw [hA_113_3]; rw [va_up_ne _ _ (by decide)]
          have am_113_3_10 : A_113_3 9 = A_117_2 9 := by rw [hA_113_3]; rw [va_up_ne _ _ (by decide)]
          have am_113_3_11 : A_113_3 10 = A_117_2 10 := by rw [hA_113_3]; rw [va_up_ne _ _ (by decide)]
          have am_113_3_12 : A_113_3 12 = A_117_2 12 := by rw [hA_113_3]; rw [va_up_ne _ _ (by decide)]
          have am_113_3_13 : A_113_3 13 = A_117_2 13 := by rw [hA_113_3]; rw [va_up_ne _ _ (by decide)]
          have am_113_3_14 : A_113_3 (24 + 0) = A_117_2 (24 + 0) := by rw [hA_113_3]; rw [va_up_ne _ _ (by decide)]
          have am_113_3_15 : A_113_3 (28 + 0) = A_117_2 (28 + 0) := by rw [hA_113_3]; rw [va_up_ne _ _ (by decide)]
          have am_113_3_16 : A_113_3 (24 + 1) = A_117_2 (24 + 1) := by rw [hA_113_3]; rw [va_up_ne _ _ (by decide)]
          have am_113_3_17 : A_113_3 (28 + 1) = A_117_2 (28 + 1) := by rw [hA_113_3]; rw [va_up_ne _ _ (by decide)]
          have am_113_3_18 : A_113_3 (24 + 2) = A_117_2 (24 + 2) := by rw [hA_113_3]; rw [va_up_ne _ _ (by decide)]
          have am_113_3_19 : A_113_3 (28 + 2) = A_117_2 (28 + 2) := by rw [hA_113_3]; rw [va_up_ne _ _ (by decide)]
          have f0_c113_3 : C_113_3 0 = some (.inr (7, [.ref (A_113_3 1), .int 0, .ref (A_113_3 2), .ref (A_113_3 4), .ref (A_113_3 5), .ref (A_113_3 6), .ref (A_113_3 7), .ref (A_113_3 8), .ref (A_113_3 11)])) := by rw [hC_113_3]; rw [va_up_ne _ _ (by decide)]; rw [am_113_3_2, am_113_3_3, am_113_3_4, am_113_3_1, am_113_3_5, am_113_3_6, am_113_3_7, am_113_3_8]; exact f0_c120_2
          have f1_c113_3 : C_113_3 1 = some (.inl (E.2.1 3, 16, .inr (.inr (.inr (.inr (fun _ => none)))))) := by rw [hC_113_3]; rw [va_up_ne _ _ (by decide)]; exact f1_c120_2
          have f2_c113_3 : C_113_3 2 = some (.inr (3, [.ref (A_113_3 3), .int 0])) := by rw [hC_113_3]; rw [va_up_ne _ _ (by decide)]; rw [am_113_3_9]; exact f2_c120_2
          have f3_c113_3 : C_113_3 3 = some (.inl (E.2.1 4, 60, .inr (.inr (.inr (.inr (fun _ => none)))))) := by rw [hC_113_3]; rw [va_up_ne _ _ (by decide)]; exact f3_c120_2
          have f4_c113_3 : C_113_3 4 = some (.inl (E.2.1 0, 4, .inl (upd (upd (upd (upd (fun _ => 0) (0 : Int32).toNatClampNeg 1) (1 : Int32).toNatClampNeg 3) (2 : Int32).toNatClampNeg 50) (3 : Int32).toNatClampNeg 4))) := by rw [hC_113_3]; rw [va_up_ne _ _ (by decide)]; exact f4_c120_2
          have f5_c113_3 : C_113_3 5 = some (.inl (E.2.1 5, 4, .inr (.inr (.inr (.inr (va_up (va_up (va_up (fun _ => none) (0 : Int32).toNatClampNeg (some (A_117 (20 + 0)))) (1 : Int32).toNatClampNeg (some (A_117_1 (20 + 1)))) (2 : Int32).toNatClampNeg (some (A_117_2 (20 + 2))))))))) := by rw [hC_113_3]; rw [va_up_ne _ _ (by decide)]; exact f5_c120_2
          have f6_c113_3 : C_113_3 6 = some (.inl (E.2.1 6, 4, .inr (.inr (.inr (.inr (fun _ => none)))))) := by rw [hC_113_3]; rw [va_up_ne _ _ (by decide)]; exact f6_c120_2
          have f7_c113_3 : C_113_3 7 = some (.inl (E.2.1 0, 32, .inl (fun _ => 0))) := by rw [hC_113_3]; rw [va_up_ne _ _ (by decide)]; exact f7_c120_2
          have f8_c113_3 : C_113_3 8 = some (.inr (5, [.ref (A_113_3 9), .ref (A_113_3 10)])) := by rw [hC_113_3]; rw [va_up_ne _ _ (by decide)]; rw [am_113_3_10, am_113_3_11]; exact f8_c120_2
          have f9_c113_3 : C_113_3 9 = some (.inl (E.2.1 1, 8, .inr (.inl (fun _ => 0)))) := by rw [hC_113_3]; rw [va_up_ne _ _ (by decide)]; exact f9_c120_2
          have f10_c113_3 : C_113_3 10 = some (.inl (E.2.1 1, 16, .inr (.inl nd))) := by rw [hC_113_3]; rw [va_up_ne _ _ (by decide)]; exact f10_c120_2
          have f11_c113_3 : C_113_3 11 = some (.inr (4, [.int 0, .int 0, .long 0, .long 0, .ref (A_113_3 12), .int 0, .ref (A_113_3 13)])) := by rw [hC_113_3]; rw [va_up_ne _ _ (by decide)]; rw [am_113_3_12, am_113_3_13]; exact f11_c120_2
          have f12_c113_3 : C_113_3 12 = some (.inl (E.2.1 1, 4, .inr (.inl (fun _ => 0)))) := by rw [hC_113_3]; rw [va_up_ne _ _ (by decide)]; exact f12_c120_2
          have f13_c113_3 : C_113_3 13 = some (.inl (E.2.1 1, 16, .inr (.inl (fun _ => 0)))) := by rw [hC_113_3]; rw [va_up_ne _ _ (by decide)]; exact f13_c120_2
          have f200_c113_3 : C_113_3 (20 + 0) = some (.inr (0, [.ref (A_113_3 (24 + 0)), .int 0, .int ((-2)), .int ((-2))])) := by rw [hC_113_3]; rw [va_up_ne _ _ (by decide)]; rw [am_113_3_14]; exact f200_c120_2
          have f240_c113_3 : C_113_3 (24 + 0) = some (.inr (3, [.ref (A_113_3 (28 + 0)), .int 0])) := by rw [hC_113_3]; rw [va_up_ne _ _ (by decide)]; rw [am_113_3_15]; exact f240_c120_2
          have f280_c113_3 : C_113_3 (28 + 0) = some (.inl (E.2.1 4, 11, .inr (.inr (.inr (.inr (fun _ => none)))))) := by rw [hC_113_3]; rw [va_up_ne _ _ (by decide)]; exact f280_c120_2
          have f201_c113_3 : C_113_3 (20 + 1) = some (.inr (0, [.ref (A_113_3 (24 + 1)), .int 0, .int ((-2)), .int ((-2))])) := by rw [hC_113_3]; rw [va_up_ne _ _ (by decide)]; rw [am_113_3_16]; exact f201_c120_2
          have f241_c113_3 : C_113_3 (24 + 1) = some (.inr (3, [.ref (A_113_3 (28 + 1)), .int 0])) := by rw [hC_113_3]; rw [va_up_ne _ _ (by decide)]; rw [am_113_3_17]; exact f241_c120_2
          have f281_c113_3 : C_113_3 (28 + 1) = some (.inl (E.2.1 4, 11, .inr (.inr (.inr (.inr (fun _ => none)))))) := by rw [hC_113_3]; rw [va_up_ne _ _ (by decide)]; exact f281_c120_2
          have f202_c113_3 : C_113_3 (20 + 2) = some (.inr (0, [.ref (A_113_3 (24 + 2)), .int 0, .int ((-2)), .int ((-2))])) := by rw [hC_113_3]; rw [va_up_ne _ _ (by decide)]; rw [am_113_3_18]; exact f202_c120_2
          have f242_c113_3 : C_113_3 (24 + 2) = some (.inr (3, [.ref (A_113_3 (28 + 2)), .int 0])) := by rw [hC_113_3]; rw [va_up_ne _ _ (by decide)]; rw [am_113_3_19]; exact f242_c120_2
          have f282_c113_3 : C_113_3 (28 + 2) = some (.inl (E.2.1 4, 11, .inr (.inr (.inr (.inr (fun _ => none)))))) := by rw [hC_113_3]; rw [va_up_ne _ _ (by decide)]; exact f282_c120_2
          have f203_c113_3 : C_113_3 (20 + 3) = some (.inr (0, [.null, .int 0, .int 0, .int 0])) := by rw [hC_113_3]; exact va_up_self _ _ _
          have hl : lv_has ls 2 [(1, .int 3), (0, .ref (A_113_3 0))] := by rw [am_113_3_0]; exact hl
          refine W.eq (g2 := F0 m 116 ls [.ref (A_113_3 (20 + 3)), .int 3, .ref (A_113_3 5)]) (by rw [← an_113_3, am_113_3_1]) ?_
          clear am_113_3_0 am_113_3_1 am_113_3_2 am_113_3_3 am_113_3_4 am_113_3_5 am_113_3_6 am_113_3_7 am_113_3_8 am_113_3_9 am_113_3_10 am_113_3_11 am_113_3_12 am_113_3_13 am_113_3_14 am_113_3_15 am_113_3_16 am_113_3_17 am_113_3_18 am_113_3_19 an_113_3
          refine lv_dup hx hb dX7_init_116 rfl ?_
          refine wg_cv hS (wg_rIN (As := []) (rest := [.ref (A_113_3 (20 + 3)), .int 3, .ref (A_113_3 5)]) F hP hS (c_X0_init l E A_113_3 C_113_3 3 (by decide) f203_c113_3) ok_X0_init nb_106 rfl rfl ⟨Nat.le_of_ble_eq_true rfl, Nat.le_of_ble_eq_true rfl⟩ rfl hl.1 rfl (Nat.le_of_ble_eq_true rfl) dX7_init_117 ⟨Nat.le_of_ble_eq_true rfl, Nat.le_of_ble_eq_true rfl⟩) (fun A_117_3 C_117_3 H locs w_117_3 hP hS => ?_)
          obtain ⟨hAf_117_3, hfr_117_3, n0, n1, n2⟩ := w_117_3
          have am_117_3_0 : A_117_3 0 = A_113_3 0 := hAf_117_3 0 (by decide) (by decide)
          have am_117_3_1 : A_117_3 (20 + 3) = A_113_3 (20 + 3) := hAf_117_3 (20 + 3) (by decide) (by decide)
          have am_117_3_2 : A_117_3 5 = A_113_3 5 := hAf_117_3 5 (by decide) (by decide)
          have am_117_3_3 : A_117_3 1 = A_113_3 1 := hAf_117_3 1 (by decide) (by decide)
          have am_117_3_4 : A_117_3 2 = A_113_3 2 := hAf_117_3 2 (by decide) (by decide)
          have am_117_3_5 : A_117_3 4 = A_113_3 4 := hAf_117_3 4 (by decide) (by decide)
          have am_117_3_6 : A_117_3 6 = A_113_3 6 := hAf_117_3 6 (by decide) (by decide)
          have am_117_3_7 : A_117_3 7 = A_113_3 7 := hAf_117_3 7 (by decide) (by decide)
          have am_117_3_8 : A_117_3 8 = A_113_3 8 := hAf_117_3 8 (by decide) (by decide)
          have am_117_3_9 : A_117_3 11 = A_113_3 11 := hAf_117_3 11 (by decide) (by decide)
          have am_117_3_10 : A_117_3 3 = A_113_3 3 := hAf_117_3 3 (by decide) (by decide)
          have am_117_3_11 : A_117_3 9 = A_113_3 9 := hAf_117_3 9 (by decide) (by decide)
          have am_117_3_12 : A_117_3 10 = A_113_3 10 := hAf_117_3 10 (by decide) (by decide)
          have am_117_3_13 : A_117_3 12 = A_113_3 12 := hAf_117_3 12 (by decide) (by decide)
          have am_117_3_14 : A_117_3 13 = A_113_3 13 := hAf_117_3 13 (by decide) (by decide)
          have am_117_3_15 : A_117_3 (24 + 0) = A_113_3 (24 + 0) := hAf_117_3 (24 + 0) (by decide) (by decide)
          have am_117_3_16 : A_117_3 (28 + 0) = A_113_3 (28 + 0) := hAf_117_3 (28 + 0) (by decide) (by decide)
          have am_117_3_17 : A_117_3 (24 + 1) = A_113_3 (24 + 1) := hAf_117_3 (24 + 1) (by decide) (by decide)
          have am_117_3_18 : A_117_3 (28 + 1) = A_113_3 (28 + 1) := hAf_117_3 (28 + 1) (by decide) (by decide)
          have am_117_3_19 : A_117_3 (24 + 2) = A_113_3 (24 + 2) := hAf_117_3 (24 + 2) (by decide) (by decide)
          have am_117_3_20 : A_117_3 (28 + 2) = A_113_3 (28 + 2) := hAf_117_3 (28 + 2) (by decide) (by decide)
          have f0_c117_3 : C_117_3 0 = some (.inr (7, [.ref (A_117_3 1), .int 0, .ref (A_117_3 2), .ref (A_117_3 4), .ref (A_117_3 5), .ref (A_117_3 6), .ref (A_117_3 7), .ref (A_117_3 8), .ref (A_117_3 11)])) := by rw [hfr_117_3 0 (by decide) (by decide) (by decide)]; rw [am_117_3_3, am_117_3_4, am_117_3_5, am_117_3_2, am_117_3_6, am_117_3_7, am_117_3_8, am_117_3_9]; exact f0_c113_3
          have f1_c117_3 : C_117_3 1 = some (.inl (E.2.1 3, 16, .inr (.inr (.inr (.inr (fun _ => none)))))) := by rw [hfr_117_3 1 (by decide) (by decide) (by decide)]; exact f1_c113_3
          have f2_c117_3 : C_117_3 2 = some (.inr (3, [.ref (A_117_3 3), .int 0])) := by rw [hfr_117_3 2 (by decide) (by decide) (by decide)]; rw [am_117_3_10]; exact f2_c113_3
          have f3_c117_3 : C_117_3 3 = some (.inl (E.2.1 4, 60, .inr (.inr (.inr (.inr (fun _ => none)))))) := by rw [hfr_117_3 3 (by decide) (by decide) (by decide)]; exact f3_c113_3
          have f4_c117_3 : C_117_3 4 = some (.inl (E.2.1 0, 4, .inl (upd (upd (upd (upd (fun _ => 0) (0 : Int32).toNatClampNeg 1) (1 : Int32).toNatClampNeg 3) (2 : Int32).toNatClampNeg 50) (3 : Int32).toNatClampNeg 4))) := by rw [hfr_117_3 4 (by decide) (by decide) (by decide)]; exact f4_c113_3
          have f5_c117_3 : C_117_3 5 = some (.inl (E.2.1 5, 4, .inr (.inr (.inr (.inr (va_up (va_up (va_up (fun _ => none) (0 : Int32).toNatClampNeg (some (A_117 (20 + 0)))) (1 : Int32).toNatClampNeg (some (A_117_1 (20 + 1)))) (2 : Int32).toNatClampNeg (some (A_117_2 (20 + 2))))))))) := by rw [hfr_117_3 5 (by decide) (by decide) (by decide)]; exact f5_c113_3
          have f6_c117_3 : C_117_3 6 = some (.inl (E.2.1 6, 4, .inr (.inr (.inr (.inr (fun _ => none)))))) := by rw [hfr_117_3 6 (by decide) (by decide) (by decide)]; exact f6_c113_3
          have f7_c117_3 : C_117_3 7 = some (.inl (E.2.1 0, 32, .inl (fun _ => 0))) := by rw [hfr_117_3 7 (by decide) (by decide) (by decide)]; exact f7_c113_3
          have f8_c117_3 : C_117_3 8 = some (.inr (5, [.ref (A_117_3 9), .ref (A_117_3 10)])) := by rw [hfr_117_3 8 (by decide) (by decide) (by decide)]; rw [am_117_3_11, am_117_3_12]; exact f8_c113_3
          have f9_c117_3 : C_117_3 9 = some (.inl (E.2.1 1, 8, .inr (.inl (fun _ => 0)))) := by rw [hfr_117_3 9 (by decide) (by decide) (by decide)]; exact f9_c113_3
          have f10_c117_3 : C_117_3 10 = some (.inl (E.2.1 1, 16, .inr (.inl nd))) := by rw [hfr_117_3 10 (by decide) (by decide) (by decide)]; exact f10_c113_3
          have f11_c117_3 : C_117_3 11 = some (.inr (4, [.int 0, .int 0, .long 0, .long 0, .ref (A_117_3 12), .int 0, .ref (A_117_3 13)])) := by rw [hfr_117_3 11 (by decide) (by decide) (by decide)]; rw [am_117_3_13, am_117_3_14]; exact f11_c113_3
          have f12_c117_3 : C_117_3 12 = some (.inl (E.2.1 1, 4, .inr (.inl (fun _ => 0)))) := by rw [hfr_117_3 12 (by decide) (by decide) (by decide)]; exact f12_c113_3
          have f13_c117_3 : C_117_3 13 = some (.inl (E.2.1 1, 16, .inr (.inl (fun _ => 0)))) := by rw [hfr_117_3 13 (by decide) (by decide) (by decide)]; exact f13_c113_3
          have f200_c117_3 : C_117_3 (20 + 0) = some (.inr (0, [.ref (A_117_3 (24 + 0)), .int 0, .int ((-2)), .int ((-2))])) := by rw [hfr_117_3 (20 + 0) (by decide) (by decide) (by decide)]; rw [am_117_3_15]; exact f200_c113_3
          have f240_c117_3 : C_117_3 (24 + 0) = some (.inr (3, [.ref (A_117_3 (28 + 0)), .int 0])) := by rw [hfr_117_3 (24 + 0) (by decide) (by decide) (by decide)]; rw [am_117_3_16]; exact f240_c113_3
          have f280_c117_3 : C_117_3 (28 + 0) = some (.inl (E.2.1 4, 11, .inr (.inr (.inr (.inr (fun _ => none)))))) := by rw [hfr_117_3 (28 + 0) (by decide) (by decide) (by decide)]; exact f280_c113_3
          have f201_c117_3 : C_117_3 (20 + 1) = some (.inr (0, [.ref (A_117_3 (24 + 1)), .int 0, .int ((-2)), .int ((-2))])) := by rw [hfr_117_3 (20 + 1) (by decide) (by decide) (by decide)]; rw [am_117_3_17]; exact f201_c113_3
          have f241_c117_3 : C_117_3 (24 + 1) = some (.inr (3, [.ref (A_117_3 (28 + 1)), .int 0])) := by rw [hfr_117_3 (24 + 1) (by decide) (by decide) (by decide)]; rw [am_117_3_18]; exact f241_c113_3
          have f281_c117_3 : C_117_3 (28 + 1) = some (.inl (E.2.1 4, 11, .inr (.inr (.inr (.inr (fun _ => none)))))) := by rw [hfr_117_3 (28 + 1) (by decide) (by decide) (by decide)]; exact f281_c113_3
          have f202_c117_3 : C_117_3 (20 + 2) = some (.inr (0, [.ref (A_117_3 (24 + 2)), .int 0, .int ((-2)), .int ((-2))])) := by rw [hfr_117_3 (20 + 2) (by decide) (by decide) (by decide)]; rw [am_117_3_19]; exact f202_c113_3
          have f242_c117_3 : C_117_3 (24 + 2) = some (.inr (3, [.ref (A_117_3 (28 + 2)), .int 0])) := by rw [hfr_117_3 (24 + 2) (by decide) (by decide) (by decide)]; rw [am_117_3_20]; exact f242_c113_3
          have f282_c117_3 : C_117_3 (28 + 2) = some (.inl (E.2.1 4, 11, .inr (.inr (.inr (.inr (fun _ => none)))))) := by rw [hfr_117_3 (28 + 2) (by decide) (by decide) (by decide)]; exact f282_c113_3
          have f203_c117_3 : C_117_3 (20 + 3) = some (.inr (0, [.ref (A_117_3 (24 + 3)), .int 0, .int ((-2)), .int ((-2))])) := n0
          have f243_c117_3 : C_117_3 (24 + 3) = some (.inr (3, [.ref (A_117_3 (28 + 3)), .int 0])) := n1
          have f283_c117_3 : C_117_3 (28 + 3) = some (.inl (E.2.1 4, 11, .inr (.inr (.inr (.inr (fun _ => none)))))) := n2
          have hl : lv_has ls 2 [(1, .int 3), (0, .ref (A_117_3 0))] := by rw [am_117_3_0]; exact hl
          refine W.eq (g2 := F0 m 120 ls [.ref (A_117_3 (20 + 3)), .int 3, .ref (A_117_3 5)]) (by rw [am_117_3_1, am_117_3_2]) ?_
          clear am_117_3_0 am_117_3_1 am_117_3_2 am_117_3_3 am_117_3_4 am_117_3_5 am_117_3_6 am_117_3_7 am_117_3_8 am_117_3_9 am_117_3_10 am_117_3_11 am_117_3_12 am_117_3_13 am_117_3_14 am_117_3_15 am_117_3_16 am_117_3_17 am_117_3_18 am_117_3_19 am_117_3_20
          refine wg_qst F hP hS 5 rfl f5_c117_3 f203_c117_3 rfl (vp_in_nI (n := 3) (by decide) (by decide)) dX7_init_120 (fun H locs hP hS => ?_)
          obtain ⟨C_120_3, hC_120_3⟩ : ∃ z : wg_C, z = va_up C_117_3 5 (some (.inl (E.2.1 5, 4, .inr (.inr (.inr (.inr (va_up (va_up (va_up (va_up (fun _ => none) (0 : Int32).toNatClampNeg (some (A_117 (20 + 0)))) (1 : Int32).toNatClampNeg (some (A_117_1 (20 + 1)))) (2 : Int32).toNatClampNeg (some (A_117_2 (20 + 2)))) (3 : Int32).toNatClampNeg (some (A_117_3 (20 + 3)))))))))) := ⟨_, rfl⟩
          have hP : wg_P E A_117_3 C_120_3 H := by rw [hC_120_3]; exact hP
          have f0_c120_3 : C_120_3 0 = some (.inr (7, [.ref (A_117_3 1), .int 0, .ref (A_117_3 2), .ref (A_117_3 4), .ref (A_117_3 5), .ref (A_117_3 6), .ref (A_117_3 7), .ref (A_117_3 8), .ref (A_117_3 11)])) := by rw [hC_120_3]; rw [va_up_ne _ _ (by decide)]; exact f0_c117_3
          have f1_c120_3 : C_120_3 1 = some (.inl (E.2.1 3, 16, .inr (.inr (.inr (.inr (fun _ => none)))))) := by rw [hC_120_3]; rw [va_up_ne _ _ (by decide)]; exact f1_c117_3
          have f2_c120_3 : C_120_3 2 = some (.inr (3, [.ref (A_117_3 3), .int 0])) := by rw [hC_120_3]; rw [va_up_ne _ _ (by decide)]; exact f2_c117_3
          have f3_c120_3 : C_120_3 3 = some (.inl (E.2.1 4, 60, .inr (.inr (.inr (.inr (fun _ => none)))))) := by rw [hC_120_3]; rw [va_up_ne _ _ (by decide)]; exact f3_c117_3
          have f4_c120_3 : C_120_3 4 = some (.inl (E.2.1 0, 4, .inl (upd (upd (upd (upd (fun _ => 0) (0 : Int32).toNatClampNeg 1) (1 : Int32).toNatClampNeg 3) (2 : Int32).toNatClampNeg 50) (3 : Int32).toNatClampNeg 4))) := by rw [hC_120_3]; rw [va_up_ne _ _ (by decide)]; exact f4_c117_3
          have f5_c120_3 : C_120_3 5 = some (.inl (E.2.1 5, 4, .inr (.inr (.inr (.inr (va_up (va_up (va_up (va_up (fun _ => none) (0 : Int32).toNatClampNeg (some (A_117 (20 + 0)))) (1 : Int32).toNatClampNeg (some (A_117_1 (20 + 1)))) (2 : Int32).toNatClampNeg (some (A_117_2 (20 + 2)))) (3 : Int32).toNatClampNeg (some (A_117_3 (20 + 3))))))))) := by rw [hC_120_3]; exact va_up_self _ _ _
          have f6_c120_3 : C_120_3 6 = some (.inl (E.2.1 6, 4, .inr (.inr (.inr (.inr (fun _ => none)))))) := by rw [hC_120_3]; rw [va_up_ne _ _ (by decide)]; exact f6_c117_3
          have f7_c120_3 : C_120_3 7 = some (.inl (E.2.1 0, 32, .inl (fun _ => 0))) := by rw [hC_120_3]; rw [va_up_ne _ _ (by decide)]; exact f7_c117_3
          have f8_c120_3 : C_120_3 8 = some (.inr (5, [.ref (A_117_3 9), .ref (A_117_3 10)])) := by rw [hC_120_3]; rw [va_up_ne _ _ (by decide)]; exact f8_c117_3
          have f9_c120_3 : C_120_3 9 = some (.inl (E.2.1 1, 8, .inr (.inl (fun _ => 0)))) := by rw [hC_120_3]; rw [va_up_ne _ _ (by decide)]; exact f9_c117_3
          have f10_c120_3 : C_120_3 10 = some (.inl (E.2.1 1, 16, .inr (.inl nd))) := by rw [hC_120_3]; rw [va_up_ne _ _ (by decide)]; exact f10_c117_3
          have f11_c120_3 : C_120_3 11 = some (.inr (4, [.int 0, .int 0, .long 0, .long 0, .ref (A_117_3 12), .int 0, .ref (A_117_3 13)])) := by rw [hC_120_3]; rw [va_up_ne _ _ (by decide)]; exact f11_c117_3
          have f12_c120_3 : C_120_3 12 = some (.inl (E.2.1 1, 4, .inr (.inl (fun _ => 0)))) := by rw [hC_120_3]; rw [va_up_ne _ _ (by decide)]; exact f12_c117_3
          have f13_c120_3 : C_120_3 13 = some (.inl (E.2.1 1, 16, .inr (.inl (fun _ => 0)))) := by rw [hC_120_3]; rw [va_up_ne _ _ (by decide)]; exact f13_c117_3
          have f200_c120_3 : C_120_3 (20 + 0) = some (.inr (0, [.ref (A_117_3 (24 + 0)), .int 0, .int ((-2)), .int ((-2))])) := by rw [hC_120_3]; rw [va_up_ne _ _ (by decide)]; exact f200_c117_3
          have f240_c120_3 : C_120_3 (24 + 0) = some (.inr (3, [.ref (A_117_3 (28 + 0)), .int 0])) := by rw [hC_120_3]; rw [va_up_ne _ _ (by decide)]; exact f240_c117_3
          have f280_c120_3 : C_120_3 (28 + 0) = some (.inl (E.2.1 4, 11, .inr (.inr (.inr (.inr (fun _ => none)))))) := by rw [hC_120_3]; rw [va_up_ne _ _ (by decide)]; exact f280_c117_3
          have f201_c120_3 : C_120_3 (20 + 1) = some (.inr (0, [.ref (A_117_3 (24 + 1)), .int 0, .int ((-2)), .int ((-2))])) := by rw [hC_120_3]; rw [va_up_ne _ _ (by decide)]; exact f201_c117_3
          have f241_c120_3 : C_120_3 (24 + 1) = some (.inr (3, [.ref (A_117_3 (28 + 1)), .int 0])) := by rw [hC_120_3]; rw [va_up_ne _ _ (by decide)]; exact f241_c117_3
          have f281_c120_3 : C_120_3 (28 + 1) = some (.inl (E.2.1 4, 11, .inr (.inr (.inr (.inr (fun _ => none)))))) := by rw [hC_120_3]; rw [va_up_ne _ _ (by decide)]; exact f281_c117_3
          have f202_c120_3 : C_120_3 (20 + 2) = some (.inr (0, [.ref (A_117_3 (24 + 2)), .int 0, .int ((-2)), .int ((-2))])) := by rw [hC_120_3]; rw [va_up_ne _ _ (by decide)]; exact f202_c117_3
          have f242_c120_3 : C_120_3 (24 + 2) = some (.inr (3, [.ref (A_117_3 (28 + 2)), .int 0])) := by rw [hC_120_3]; rw [va_up_ne _ _ (by decide)]; exact f242_c117_3
          have f282_c120_3 : C_120_3 (28 + 2) = some (.inl (E.2.1 4, 11, .inr (.inr (.inr (.inr (fun _ => none)))))) := by rw [hC_120_3]; rw [va_up_ne _ _ (by decide)]; exact f282_c117_3
          have f203_c120_3 : C_120_3 (20 + 3) = some (.inr (0, [.ref (A_117_3 (24 + 3)), .int 0, .int ((-2)), .int ((-2))])) := by rw [hC_120_3]; rw [va_up_ne _ _ (by decide)]; exact f203_c117_3
          have f243_c120_3 : C_120_3 (24 + 3) = some (.inr (3, [.ref (A_117_3 (28 + 3)), .int 0])) := by rw [hC_120_3]; rw [va_up_ne _ _ (by decide)]; exact f243_c117_3
          have f283_c120_3 : C_120_3 (28 + 3) = some (.inl (E.2.1 4, 11, .inr (.inr (.inr (.inr (fun _ => none)))))) := by rw [hC_120_3]; rw [va_up_ne _ _ (by decide)]; exact f283_c117_3
          refine lv_iinc (v := 4) (lv' := [(1, .int 4), (0, .ref (A_117_3 0))]) hx hb dX7_init_121 hl (k := 0) rfl (by decide) (by decide) rfl (fun ls hl => ?_)
          refine lv_goto (tgt := 103) hx hb dX7_init_124 (by decide) ?_
          refine lv_iload_n hx hb dX7_init_103 rfl (lv_at hl 0 rfl) ?_
          refine lv_iconst (v := 4) hx hb dX7_init_104 (by decide) ?_
          refine lv_icmp_ge (tgt := 127) hx hb dX7_init_105 (by decide) (fun c_105 => ?_) (fun c_105 => ?_)
          · refine lv_iconst (v := 0) hx hb dX7_init_127 (by decide) ?_
            refine lv_istore_n (lv' := [(1, .int 0), (0, .ref (A_117_3 0))]) hx hb dX7_init_128 rfl hl (by decide) rfl (fun ls hl => ?_)
            refine lv_iload_n hx hb dX7_init_129 rfl (lv_at hl 0 rfl) ?_
            refine lv_iconst (v := 4) hx hb dX7_init_130 (by decide) ?_
            refine lv_icmp_ge (tgt := 153) hx hb dX7_init_131 (by decide) (fun c_131 => ?_) (fun c_131 => ?_)
            · exact absurd c_131 (by decide)
            · refine lv_aload_n hx hb dX7_init_134 rfl (lv_at hl 1 rfl) ?_
              refine wg_get F hP f0_c120_3 rfl iw_X7 5 (by decide) tb_168 rfl rfl dX7_init_135 ?_
              refine lv_iload_n hx hb dX7_init_138 rfl (lv_at hl 0 rfl) ?_
              refine wg_newF (ci := 1) F hP hS (32 + 0) [.null] rfl iw_X1 tyX1_ok tb_44 tb_129 tb_7 (fun j hj => by rcases (show j = 0 by omega) with rfl <;> rfl) (Nat.le_of_ble_eq_true rfl) (Nat.le_of_ble_eq_true rfl) dX7_init_139 (fun q_139 H hP hS => ?_)
              obtain ⟨A_139, hA_139⟩ : ∃ z : Nat → Nat, z = va_up A_117_3 (32 + 0) q_139 := ⟨_, rfl⟩
              obtain ⟨C_139, hC_139⟩ : ∃ z : wg_C, z = va_up C_120_3 (32 + 0) (some (.inr (1, [.null]))) := ⟨_, rfl⟩
              have hP : wg_P E A_139 C_139 H := by rw [hA_139, hC_139]; exact hP
              have an_139 : q_139 = A_139 (32 + 0) := by rw [hA_139]; exact (va_up_self _ _ _).symm
              have am_139_0 : A_139 0 = A_117_3 0 := by rw [hA_139]; rw [va_up_ne _ _ (by decide)]
              have am_139_1 : A_139 6 = A_117_3 6 := by rw [hA_139]; rw [va_up_ne _ _ (by decide)]
              have am_139_2 : A_139 1 = A_117_3 1 := by rw [hA_139]; rw [va_up_ne _ _ (by decide)]
              have am_139_3 : A_139 2 = A_117_3 2 := by rw [hA_139]; rw [va_up_ne _ _ (by decide)]
              have am_139_4 : A_139 4 = A_117_3 4 := by rw [hA_139]; rw [va_up_ne _ _ (by decide)]
              have am_139_5 : A_139 5 = A_117_3 5 := by rw [hA_139]; rw [va_up_ne _ _ (by decide)]
              have am_139_6 : A_139 7 = A_117_3 7 := by rw [hA_139]; rw [va_up_ne _ _ (by decide)]
              have am_139_7 : A_139 8 = A_117_3 8 := by rw [hA_139]; rw [va_up_ne _ _ (by decide)]
              have am_139_8 : A_139 11 = A_117_3 11 := by rw [hA_139]; rw [va_up_ne _ _ (by decide)]
              have am_139_9 : A_139 3 = A_117_3 3 := by rw [hA_139]; rw [va_up_ne _ _ (by decide)]
              have am_139_10 : A_139 9 = A_117_3 9 := by rw [hA_139]; rw [va_up_ne _ _ (by decide)]
              have am_139_11 : A_139 10 = A_117_3 10 := by rw [hA_139]; rw [va_up_ne _ _ (by decide)]
              have am_139_12 : A_139 12 = A_117_3 12 := by rw [hA_139]; rw [va_up_ne _ _ (by decide)]
              have am_139_13 : A_139 13 = A_117_3 13 := by rw [hA_139]; rw [va_up_ne _ _ (by decide)]
              have am_139_14 : A_139 (24 + 0) = A_117_3 (24 + 0) := by rw [hA_139]; rw [va_up_ne _ _ (by decide)]
              have am_139_15 : A_139 (28 + 0) = A_117_3 (28 + 0) := by rw [hA_139]; rw [va_up_ne _ _ (by decide)]
              have am_139_16 : A_139 (24 + 1) = A_117_3 (24 + 1) := by rw [hA_139]; rw [va_up_ne _ _ (by decide)]
              have am_139_17 : A_139 (28 + 1) = A_117_3 (28 + 1) := by rw [hA_139]; rw [va_up_ne _ _ (by decide)]
              have am_139_18 : A_139 (24 + 2) = A_117_3 (24 + 2) := by rw [hA_139]; rw [va_up_ne _ _ (by decide)]
              have am_139_19 : A_139 (28 + 2) = A_117_3 (28 + 2) := by rw [hA_139]; rw [va_up_ne _ _ (by decide)]
              have am_139_20 : A_139 (24 + 3) = A_117_3 (24 + 3) := by rw [hA_139]; rw [va_up_ne _ _ (by decide)]
              have am_139_21 : A_139 (28 + 3) = A_117_3 (28 + 3) := by rw [hA_139]; rw [va_up_ne _ _ (by decide)]
              have f0_c139 : C_139 0 = some (.inr (7, [.ref (A_139 1), .int 0, .ref (A_139 2), .ref (A_139 4), .ref (A_139 5), .ref (A_139 6), .ref (A_139 7), .ref (A_139 8), .ref (A_139 11)])) := by rw [hC_139]; rw [va_up_ne _ _ (by decide)]; rw [am_139_2, am_139_3, am_139_4, am_139_5, am_139_1, am_139_6, am_139_7, am_139_8]; exact f0_c120_3
              have f1_c139 : C_139 1 = some (.inl (E.2.1 3, 16, .inr (.inr (.inr (.inr (fun _ => none)))))) := by rw [hC_139]; rw [va_up_ne _ _ (by decide)]; exact f1_c120_3
              have f2_c139 : C_139 2 = some (.inr (3, [.ref (A_139 3), .int 0])) := by rw [hC_139]; rw [va_up_ne _ _ (by decide)]; rw [am_139_9]; exact f2_c120_3
              have f3_c139 : C_139 3 = some (.inl (E.2.1 4, 60, .inr (.inr (.inr (.inr (fun _ => none)))))) := by rw [hC_139]; rw [va_up_ne _ _ (by decide)]; exact f3_c120_3
              have f4_c139 : C_139 4 = some (.inl (E.2.1 0, 4, .inl (upd (upd (upd (upd (fun _ => 0) (0 : Int32).toNatClampNeg 1) (1 : Int32).toNatClampNeg 3) (2 : Int32).toNatClampNeg 50) (3 : Int32).toNatClampNeg 4))) := by rw [hC_139]; rw [va_up_ne _ _ (by decide)]; exact f4_c120_3
              have f5_c139 : C_139 5 = some (.inl (E.2.1 5, 4, .inr (.inr (.inr (.inr (va_up (va_up (va_up (va_up (fun _ => none) (0 : Int32).toNatClampNeg (some (A_117 (20 + 0)))) (1 : Int32).toNatClampNeg (some (A_117_1 (20 + 1)))) (2 : Int32).toNatClampNeg (some (A_117_2 (20 + 2)))) (3 : Int32).toNatClampNeg (some (A_117_3 (20 + 3))))))))) := by rw [hC_139]; rw [va_up_ne _ _ (by decide)]; exact f5_c120_3
              have f6_c139 : C_139 6 = some (.inl (E.2.1 6, 4, .inr (.inr (.inr (.inr (fun _ => none)))))) := by rw [hC_139]; rw [va_up_ne _ _ (by decide)]; exact f6_c120_3
              have f7_c139 : C_139 7 = some (.inl (E.2.1 0, 32, .inl (fun _ => 0))) := by rw [hC_139]; rw [va_up_ne _ _ (by decide)]; exact f7_c120_3
              have f8_c139 : C_139 8 = some (.inr (5, [.ref (A_139 9), .ref (A_139 10)])) := by rw [hC_139]; rw [va_up_ne _ _ (by decide)]; rw [am_139_10, am_139_11]; exact f8_c120_3
              have f9_c139 : C_139 9 = some (.inl (E.2.1 1, 8, .inr (.inl (fun _ => 0)))) := by rw [hC_139]; rw [va_up_ne _ _ (by decide)]; exact f9_c120_3
              have f10_c139 : C_139 10 = some (.inl (E.2.1 1, 16, .inr (.inl nd))) := by rw [hC_139]; rw [va_up_ne _ _ (by decide)]; exact f10_c120_3
              have f11_c139 : C_139 11 = some (.inr (4, [.int 0, .int 0, .long 0, .long 0, .ref (A_139 12), .int 0, .ref (A_139 13)])) := by rw [hC_139]; rw [va_up_ne _ _ (by decide)]; rw [am_139_12, am_139_13]; exact f11_c120_3
              have f12_c139 : C_139 12 = some (.inl (E.2.1 1, 4, .inr (.inl (fun _ => 0)))) := by rw [hC_139]; rw [va_up_ne _ _ (by decide)]; exact f12_c120_3
              have f13_c139 : C_139 13 = some (.inl (E.2.1 1, 16, .inr (.inl (fun _ => 0)))) := by rw [hC_139]; rw [va_up_ne _ _ (by decide)]; exact f13_c120_3
              have f200_c139 : C_139 (20 + 0) = some (.inr (0, [.ref (A_139 (24 + 0)), .int 0, .int ((-2)), .int ((-2))])) := by rw [hC_139]; rw [va_up_ne _ _ (by decide)]; rw [am_139_14]; exact f200_c120_3
              have f240_c139 : C_139 (24 + 0) = some (.inr (3, [.ref (A_139 (28 + 0)), .int 0])) := by rw [hC_139]; rw [va_up_ne _ _ (by decide)]; rw [am_139_15]; exact f240_c120_3
              have f280_c139 : C_139 (28 + 0) = some (.inl (E.2.1 4, 11, .inr (.inr (.inr (.inr (fun _ => none)))))) := by rw [hC_139]; rw [va_up_ne _ _ (by decide)]; exact f280_c120_3
              have f201_c139 : C_139 (20 + 1) = some (.inr (0, [.ref (A_139 (24 + 1)), .int 0, .int ((-2)), .int ((-2))])) := by rw [hC_139]; rw [va_up_ne _ _ (by decide)]; rw [am_139_16]; exact f201_c120_3
              have f241_c139 : C_139 (24 + 1) = some (.inr (3, [.ref (A_139 (28 + 1)), .int 0])) := by rw [hC_139]; rw [va_up_ne _ _ (by decide)]; rw [am_139_17]; exact f241_c120_3
              have f281_c139 : C_139 (28 + 1) = some (.inl (E.2.1 4, 11, .inr (.inr (.inr (.inr (fun _ => none)))))) := by rw [hC_139]; rw [va_up_ne _ _ (by decide)]; exact f281_c120_3
              have f202_c139 : C_139 (20 + 2) = some (.inr (0, [.ref (A_139 (24 + 2)), .int 0, .int ((-2)), .int ((-2))])) := by rw [hC_139]; rw [va_up_ne _ _ (by decide)]; rw [am_139_18]; exact f202_c120_3
              have f242_c139 : C_139 (24 + 2) = some (.inr (3, [.ref (A_139 (28 + 2)), .int 0])) := by rw [hC_139]; rw [va_up_ne _ _ (by decide)]; rw [am_139_19]; exact f242_c120_3
              have f282_c139 : C_139 (28 + 2) = some (.inl (E.2.1 4, 11, .inr (.inr (.inr (.inr (fun _ => none)))))) := by rw [hC_139]; rw [va_up_ne _ _ (by decide)]; exact f282_c120_3
              have f203_c139 : C_139 (20 + 3) = some (.inr (0, [.ref (A_139 (24 + 3)), .int 0, .int ((-2)), .int ((-2))])) := by rw [hC_139]; rw [va_up_ne _ _ (by decide)]; rw [am_139_20]; exact f203_c120_3
              have f243_c139 : C_139 (24 + 3) = some (.inr (3, [.ref (A_139 (28 + 3)), .int 0])) := by rw [hC_139]; rw [va_up_ne _ _ (by decide)]; rw [am_139_21]; exact f243_c120_3
              have f283_c139 : C_139 (28 + 3) = some (.inl (E.2.1 4, 11, .inr (.inr (.inr (.inr (fun _ => none)))))) := by rw [hC_139]; rw [va_up_ne _ _ (by decide)]; exact f283_c120_3
              have f320_c139 : C_139 (32 + 0) = some (.inr (1, [.null])) := by rw [hC_139]; exact va_up_self _ _ _
              have hl : lv_has ls 2 [(1, .int 0), (0, .ref (A_139 0))] := by rw [am_139_0]; exact hl
              refine W.eq (g2 := F0 m 142 ls [.ref (A_139 (32 + 0)), .int 0, .ref (A_139 6)]) (by rw [← an_139, am_139_1]) ?_
              clear am_139_0 am_139_1 am_139_2 am_139_3 am_139_4 am_139_5 am_139_6 am_139_7 am_139_8 am_139_9 am_139_10 am_139_11 am_139_12 am_139_13 am_139_14 am_139_15 am_139_16 am_139_17 am_139_18 am_139_19 am_139_20 am_139_21 an_139
              refine lv_dup hx hb dX7_init_142 rfl ?_
              refine wg_cv hS (wg_rIN (As := []) (rest := [.ref (A_139 (32 + 0)), .int 0, .ref (A_139 6)]) F hP hS (c_X1_init l E A_139 C_139 0 (by decide) f320_c139) ok_X1_init nb_130 rfl rfl ⟨Nat.le_of_ble_eq_true rfl, Nat.le_of_ble_eq_true rfl⟩ rfl hl.1 rfl (Nat.le_of_ble_eq_true rfl) dX7_init_143 ⟨Nat.le_of_ble_eq_true rfl, Nat.le_of_ble_eq_true rfl⟩) (fun A_143 C_143 H locs w_143 hP hS => ?_)
              obtain ⟨hAf_143, hfr_143, n0, n1, n2⟩ := w_143
              have am_143_0 : A_143 0 = A_139 0 := hAf_143 0 (by decide) (by decide)
              have am_143_1 : A_143 (32 + 0) = A_139 (32 + 0) := hAf_143 (32 + 0) (by decide) (by decide)
              have am_143_2 : A_143 6 = A_139 6 := hAf_143 6 (by decide) (by decide)
              have am_143_3 : A_143 1 = A_139 1 := hAf_143 1 (by decide) (by decide)
              have am_143_4 : A_143 2 = A_139 2 := hAf_143 2 (by decide) (by decide)
              have am_143_5 : A_143 4 = A_139 4 := hAf_143 4 (by decide) (by decide)
              have am_143_6 : A_143 5 = A_139 5 := hAf_143 5 (by decide) (by decide)
              have am_143_7 : A_143 7 = A_139 7 := hAf_143 7 (by decide) (by decide)
              have am_143_8 : A_143 8 = A_139 8 := hAf_143 8 (by decide) (by decide)
              have am_143_9 : A_143 11 = A_139 11 := hAf_143 11 (by decide) (by decide)
              have am_143_10 : A_143 3 = A_139 3 := hAf_143 3 (by decide) (by decide)
              have am_143_11 : A_143 9 = A_139 9 := hAf_143 9 (by decide) (by decide)
              have am_143_12 : A_143 10 = A_139 10 := hAf_143 10 (by decide) (by decide)
              have am_143_13 : A_143 12 = A_139 12 := hAf_143 12 (by decide) (by decide)
              have am_143_14 : A_143 13 = A_139 13 := hAf_143 13 (by decide) (by decide)
              have am_143_15 : A_143 (24 + 0) = A_139 (24 + 0) := hAf_143 (24 + 0) (by decide) (by decide)
              have am_143_16 : A_143 (28 + 0) = A_139 (28 + 0) := hAf_143 (28 + 0) (by decide) (by decide)
              have am_143_17 : A_143 (24 + 1) = A_139 (24 + 1) := hAf_143 (24 + 1) (by decide) (by decide)
              have am_143_18 : A_143 (28 + 1) = A_139 (28 + 1) := hAf_143 (28 + 1) (by decide) (by decide)
              have am_143_19 : A_143 (24 + 2) = A_139 (24 + 2) := hAf_143 (24 + 2) (by decide) (by decide)
              have am_143_20 : A_143 (28 + 2) = A_139 (28 + 2) := hAf_143 (28 + 2) (by decide) (by decide)
              have am_143_21 : A_143 (24 + 3) = A_139 (24 + 3) := hAf_143 (24 + 3) (by decide) (by decide)
              have am_143_22 : A_143 (28 + 3) = A_139 (28 + 3) := hAf_143 (28 + 3) (by decide) (by decide)
              have f0_c143 : C_143 0 = some (.inr (7, [.ref (A_143 1), .int 0, .ref (A_143 2), .ref (A_143 4), .ref (A_143 5), .ref (A_143 6), .ref (A_143 7), .ref (A_143 8), .ref (A_143 11)])) := by rw [hfr_143 0 (by decide) (by decide) (by decide)]; rw [am_143_3, am_143_4, am_143_5, am_143_6, am_143_2, am_143_7, am_143_8, am_143_9]; exact f0_c139
              have f1_c143 : C_143 1 = some (.inl (E.2.1 3, 16, .inr (.inr (.inr (.inr (fun _ => none)))))) := by rw [hfr_143 1 (by decide) (by decide) (by decide)]; exact f1_c139
              have f2_c143 : C_143 2 = some (.inr (3, [.ref (A_143 3), .int 0])) := by rw [hfr_143 2 (by decide) (by decide) (by decide)]; rw [am_143_10]; exact f2_c139
              have f3_c143 : C_143 3 = some (.inl (E.2.1 4, 60, .inr (.inr (.inr (.inr (fun _ => none)))))) := by rw [hfr_143 3 (by decide) (by decide) (by decide)]; exact f3_c139
              have f4_c143 : C_143 4 = some (.inl (E.2.1 0, 4, .inl (upd (upd (upd (upd (fun _ => 0) (0 : Int32).toNatClampNeg 1) (1 : Int32).toNatClampNeg 3) (2 : Int32).toNatClampNeg 50) (3 : Int32).toNatClampNeg 4))) := by rw [hfr_143 4 (by decide) (by decide) (by decide)]; exact f4_c139
              have f5_c143 : C_143 5 = some (.inl (E.2.1 5, 4, .inr (.inr (.inr (.inr (va_up (va_up (va_up (va_up (fun _ => none) (0 : Int32).toNatClampNeg (some (A_117 (20 + 0)))) (1 : Int32).toNatClampNeg (some (A_117_1 (20 + 1)))) (2 : Int32).toNatClampNeg (some (A_117_2 (20 + 2)))) (3 : Int32).toNatClampNeg (some (A_117_3 (20 + 3))))))))) := by rw [hfr_143 5 (by decide) (by decide) (by decide)]; exact f5_c139
              have f6_c143 : C_143 6 = some (.inl (E.2.1 6, 4, .inr (.inr (.inr (.inr (fun _ => none)))))) := by rw [hfr_143 6 (by decide) (by decide) (by decide)]; exact f6_c139
              have f7_c143 : C_143 7 = some (.inl (E.2.1 0, 32, .inl (fun _ => 0))) := by rw [hfr_143 7 (by decide) (by decide) (by decide)]; exact f7_c139
              have f8_c143 : C_143 8 = some (.inr (5, [.ref (A_143 9), .ref (A_143 10)])) := by rw [hfr_143 8 (by decide) (by decide) (by decide)]; rw [am_143_11, am_143_12]; exact f8_c139
              have f9_c143 : C_143 9 = some (.inl (E.2.1 1, 8, .inr (.inl (fun _ => 0)))) := by rw [hfr_143 9 (by decide) (by decide) (by decide)]; exact f9_c139
              have f10_c143 : C_143 10 = some (.inl (E.2.1 1, 16, .inr (.inl nd))) := by rw [hfr_143 10 (by decide) (by decide) (by decide)]; exact f10_c139
              have f11_c143 : C_143 11 = some (.inr (4, [.int 0, .int 0, .long 0, .long 0, .ref (A_143 12), .int 0, .ref (A_143 13)])) := by rw [hfr_143 11 (by decide) (by decide) (by decide)]; rw [am_143_13, am_143_14]; exact f11_c139
              have f12_c143 : C_143 12 = some (.inl (E.2.1 1, 4, .inr (.inl (fun _ => 0)))) := by rw [hfr_143 12 (by decide) (by decide) (by decide)]; exact f12_c139
              have f13_c143 : C_143 13 = some (.inl (E.2.1 1, 16, .inr (.inl (fun _ => 0)))) := by rw [hfr_143 13 (by decide) (by decide) (by decide)]; exact f13_c139
              have f200_c143 : C_143 (20 + 0) = some (.inr (0, [.ref (A_143 (24 + 0)), .int 0, .int ((-2)), .int ((-2))])) := by rw [hfr_143 (20 + 0) (by decide) (by decide) (by decide)]; rw [am_143_15]; exact f200_c139
              have f240_c143 : C_143 (24 + 0) = some (.inr (3, [.ref (A_143 (28 + 0)), .int 0])) := by rw [hfr_143 (24 + 0) (by decide) (by decide) (by decide)]; rw [am_143_16]; exact f240_c139
              have f280_c143 : C_143 (28 + 0) = some (.inl (E.2.1 4, 11, .inr (.inr (.inr (.inr (fun _ => none)))))) := by rw [hfr_143 (28 + 0) (by decide) (by decide) (by decide)]; exact f280_c139
              have f201_c143 : C_143 (20 + 1) = some (.inr (0, [.ref (A_143 (24 + 1)), .int 0, .int ((-2)), .int ((-2))])) := by rw [hfr_143 (20 + 1) (by decide) (by decide) (by decide)]; rw [am_143_17]; exact f201_c139
              have f241_c143 : C_143 (24 + 1) = some (.inr (3, [.ref (A_143 (28 + 1)), .int 0])) := by rw [hfr_143 (24 + 1) (by decide) (by decide) (by decide)]; rw [am_143_18]; exact f241_c139
              have f281_c143 : C_143 (28 + 1) = some (.inl (E.2.1 4, 11, .inr (.inr (.inr (.inr (fun _ => none)))))) := by rw [hfr_143 (28 + 1) (by decide) (by decide) (by decide)]; exact f281_c139
              have f202_c143 : C_143 (20 + 2) = some (.inr (0, [.ref (A_143 (24 + 2)), .int 0, .int ((-2)), .int ((-2))])) := by rw [hfr_143 (20 + 2) (by decide) (by decide) (by decide)]; rw [am_143_19]; exact f202_c139
              have f242_c143 : C_143 (24 + 2) = some (.inr (3, [.ref (A_143 (28 + 2)), .int 0])) := by rw [hfr_143 (24 + 2) (by decide) (by decide) (by decide)]; rw [am_143_20]; exact f242_c139
              have f282_c143 : C_143 (28 + 2) = some (.inl (E.2.1 4, 11, .inr (.inr (.inr (.inr (fun _ => none)))))) := by rw [hfr_143 (28 + 2) (by decide) (by decide) (by decide)]; exact f282_c139
              have f203_c143 : C_143 (20 + 3) = some (.inr (0, [.ref (A_143 (24 + 3)), .int 0, .int ((-2)), .int ((-2))])) := by rw [hfr_143 (20 + 3) (by decide) (by decide) (by decide)]; rw [am_143_21]; exact f203_c139
              have f243_c143 : C_143 (24 + 3) = some (.inr (3, [.ref (A_143 (28 + 3)), .int 0])) := by rw [hfr_143 (24 + 3) (by decide) (by decide) (by decide)]; rw [am_143_22]; exact f243_c139
              have f283_c143 : C_143 (28 + 3) = some (.inl (E.2.1 4, 11, .inr (.inr (.inr (.inr (fun _ => none)))))) := by rw [hfr_143 (28 + 3) (by decide) (by decide) (by decide)]; exact f283_c139
              have f320_c143 : C_143 (32 + 0) = some (.inr (1, [.ref (A_143 (36 + 0))])) := n0
              have f360_c143 : C_143 (36 + 0) = some (.inr (3, [.ref (A_143 (40 + 0)), .int 0])) := n1
              have f400_c143 : C_143 (40 + 0) = some (.inl (E.2.1 4, 60, .inr (.inr (.inr (.inr (fun _ => none)))))) := n2
              have hl : lv_has ls 2 [(1, .int 0), (0, .ref (A_143 0))] := by rw [am_143_0]; exact hl
              refine W.eq (g2 := F0 m 146 ls [.ref (A_143 (32 + 0)), .int 0, .ref (A_143 6)]) (by rw [am_143_1, am_143_2]) ?_
              clear am_143_0 am_143_1 am_143_2 am_143_3 am_143_4 am_143_5 am_143_6 am_143_7 am_143_8 am_143_9 am_143_10 am_143_11 am_143_12 am_143_13 am_143_14 am_143_15 am_143_16 am_143_17 am_143_18 am_143_19 am_143_20 am_143_21 am_143_22
              refine wg_qst F hP hS 6 rfl f6_c143 f320_c143 rfl (vp_in_nI (n := 0) (by decide) (by decide)) dX7_init_146 (fun H locs hP hS => ?_)
              obtain ⟨C_146, hC_146⟩ : ∃ z : wg_C, z = va_up C_143 6 (some (.inl (E.2.1 6, 4, .inr (.inr (.inr (.inr (va_up (fun _ => none) (0 : Int32).toNatClampNeg (some (A_143 (32 + 0)))))))))) := ⟨_, rfl⟩
              have hP : wg_P E A_143 C_146 H := by rw [hC_146]; exact hP
              have f0_c146 : C_146 0 = some (.inr (7, [.ref (A_143 1), .int 0, .ref (A_143 2), .ref (A_143 4), .ref (A_143 5), .ref (A_143 6), .ref (A_143 7), .ref (A_143 8), .ref (A_143 11)])) := by rw [hC_146]; rw [va_up_ne _ _ (by decide)]; exact f0_c143
              have f1_c146 : C_146 1 = some (.inl (E.2.1 3, 16, .inr (.inr (.inr (.inr (fun _ => none)))))) := by rw [hC_146]; rw [va_up_ne _ _ (by decide)]; exact f1_c143
              have f2_c146 : C_146 2 = some (.inr (3, [.ref (A_143 3), .int 0])) := by rw [hC_146]; rw [va_up_ne _ _ (by decide)]; exact f2_c143
              have f3_c146 : C_146 3 = some (.inl (E.2.1 4, 60, .inr (.inr (.inr (.inr (fun _ => none)))))) := by rw [hC_146]; rw [va_up_ne _ _ (by decide)]; exact f3_c143
              have f4_c146 : C_146 4 = some (.inl (E.2.1 0, 4, .inl (upd (upd (upd (upd (fun _ => 0) (0 : Int32).toNatClampNeg 1) (1 : Int32).toNatClampNeg 3) (2 : Int32).toNatClampNeg 50) (3 : Int32).toNatClampNeg 4))) := by rw [hC_146]; rw [va_up_ne _ _ (by decide)]; exact f4_c143
              have f5_c146 : C_146 5 = some (.inl (E.2.1 5, 4, .inr (.inr (.inr (.inr (va_up (va_up (va_up (va_up (fun _ => none) (0 : Int32).toNatClampNeg (some (A_117 (20 + 0)))) (1 : Int32).toNatClampNeg (some (A_117_1 (20 + 1)))) (2 : Int32).toNatClampNeg (some (A_117_2 (20 + 2)))) (3 : Int32).toNatClampNeg (some (A_117_3 (20 + 3))))))))) := by rw [hC_146]; rw [va_up_ne _ _ (by decide)]; exact f5_c143
              have f6_c146 : C_146 6 = some (.inl (E.2.1 6, 4, .inr (.inr (.inr (.inr (va_up (fun _ => none) (0 : Int32).toNatClampNeg (some (A_143 (32 + 0))))))))) := by rw [hC_146]; exact va_up_self _ _ _
              have f7_c146 : C_146 7 = some (.inl (E.2.1 0, 32, .inl (fun _ => 0))) := by rw [hC_146]; rw [va_up_ne _ _ (by decide)]; exact f7_c143
              have f8_c146 : C_146 8 = some (.inr (5, [.ref (A_143 9), .ref (A_143 10)])) := by rw [hC_146]; rw [va_up_ne _ _ (by decide)]; exact f8_c143
              have f9_c146 : C_146 9 = some (.inl (E.2.1 1, 8, .inr (.inl (fun _ => 0)))) := by rw [hC_146]; rw [va_up_ne _ _ (by decide)]; exact f9_c143
              have f10_c146 : C_146 10 = some (.inl (E.2.1 1, 16, .inr (.inl nd))) := by rw [hC_146]; rw [va_up_ne _ _ (by decide)]; exact f10_c143
              have f11_c146 : C_146 11 = some (.inr (4, [.int 0, .int 0, .long 0, .long 0, .ref (A_143 12), .int 0, .ref (A_143 13)])) := by rw [hC_146]; rw [va_up_ne _ _ (by decide)]; exact f11_c143
              have f12_c146 : C_146 12 = some (.inl (E.2.1 1, 4, .inr (.inl (fun _ => 0)))) := by rw [hC_146]; rw [va_up_ne _ _ (by decide)]; exact f12_c143
              have f13_c146 : C_146 13 = some (.inl (E.2.1 1, 16, .inr (.inl (fun _ => 0)))) := by rw [hC_146]; rw [va_up_ne _ _ (by decide)]; exact f13_c143
              have f200_c146 : C_146 (20 + 0) = some (.inr (0, [.ref (A_143 (24 + 0)), .int 0, .int ((-2)), .int ((-2))])) := by rw [hC_146]; rw [va_up_ne _ _ (by decide)]; exact f200_c143
              have f240_c146 : C_146 (24 + 0) = some (.inr (3, [.ref (A_143 (28 + 0)), .int 0])) := by rw [hC_146]; rw [va_up_ne _ _ (by decide)]; exact f240_c143
              have f280_c146 : C_146 (28 + 0) = some (.inl (E.2.1 4, 11, .inr (.inr (.inr (.inr (fun _ => none)))))) := by rw [hC_146]; rw [va_up_ne _ _ (by decide)]; exact f280_c143
              have f201_c146 : C_146 (20 + 1) = some (.inr (0, [.ref (A_143 (24 + 1)), .int 0, .int ((-2)), .int ((-2))])) := by rw [hC_146]; rw [va_up_ne _ _ (by decide)]; exact f201_c143
              have f241_c146 : C_146 (24 + 1) = some (.inr (3, [.ref (A_143 (28 + 1)), .int 0])) := by rw [hC_146]; rw [va_up_ne _ _ (by decide)]; exact f241_c143
              have f281_c146 : C_146 (28 + 1) = some (.inl (E.2.1 4, 11, .inr (.inr (.inr (.inr (fun _ => none)))))) := by rw [hC_146]; rw [va_up_ne _ _ (by decide)]; exact f281_c143
              have f202_c146 : C_146 (20 + 2) = some (.inr (0, [.ref (A_143 (24 + 2)), .int 0, .int ((-2)), .int ((-2))])) := by rw [hC_146]; rw [va_up_ne _ _ (by decide)]; exact f202_c143
              have f242_c146 : C_146 (24 + 2) = some (.inr (3, [.ref (A_143 (28 + 2)), .int 0])) := by rw [hC_146]; rw [va_up_ne _ _ (by decide)]; exact f242_c143
              have f282_c146 : C_146 (28 + 2) = some (.inl (E.2.1 4, 11, .inr (.inr (.inr (.inr (fun _ => none)))))) := by rw [hC_146]; rw [va_up_ne _ _ (by decide)]; exact f282_c143
              have f203_c146 : C_146 (20 + 3) = some (.inr (0, [.ref (A_143 (24 + 3)), .int 0, .int ((-2)), .int ((-2))])) := by rw [hC_146]; rw [va_up_ne _ _ (by decide)]; exact f203_c143
              have f243_c146 : C_146 (24 + 3) = some (.inr (3, [.ref (A_143 (28 + 3)), .int 0])) := by rw [hC_146]; rw [va_up_ne _ _ (by decide)]; exact f243_c143
              have f283_c146 : C_146 (28 + 3) = some (.inl (E.2.1 4, 11, .inr (.inr (.inr (.inr (fun _ => none)))))) := by rw [hC_146]; rw [va_up_ne _ _ (by decide)]; exact f283_c143
              have f320_c146 : C_146 (32 + 0) = some (.inr (1, [.ref (A_143 (36 + 0))])) := by rw [hC_146]; rw [va_up_ne _ _ (by decide)]; exact f320_c143
              have f360_c146 : C_146 (36 + 0) = some (.inr (3, [.ref (A_143 (40 + 0)), .int 0])) := by rw [hC_146]; rw [va_up_ne _ _ (by decide)]; exact f360_c143
              have f400_c146 : C_146 (40 + 0) = some (.inl (E.2.1 4, 60, .inr (.inr (.inr (.inr (fun _ => none)))))) := by rw [hC_146]; rw [va_up_ne _ _ (by decide)]; exact f400_c143
              refine lv_iinc (v := 1) (lv' := [(1, .int 1), (0, .ref (A_143 0))]) hx hb dX7_init_147 hl (k := 0) rfl (by decide) (by decide) rfl (fun ls hl => ?_)
              refine lv_goto (tgt := 129) hx hb dX7_init_150 (by decide) ?_
              refine lv_iload_n hx hb dX7_init_129 rfl (lv_at hl 0 rfl) ?_
              refine lv_iconst (v := 4) hx hb dX7_init_130 (by decide) ?_
              refine lv_icmp_ge (tgt := 153) hx hb dX7_init_131 (by decide) (fun c_131 => ?_) (fun c_131 => ?_)
              · exact absurd c_131 (by decide)
              · refine lv_aload_n hx hb dX7_init_134 rfl (lv_at hl 1 rfl) ?_
                refine wg_get F hP f0_c146 rfl iw_X7 5 (by decide) tb_168 rfl rfl dX7_init_135 ?_
                refine lv_iload_n hx hb dX7_init_138 rfl (lv_at hl 0 rfl) ?_
                refine wg_newF (ci := 1) F hP hS (32 + 1) [.null] rfl iw_X1 tyX1_ok tb_44 tb_129 tb_7 (fun j hj => by rcases (show j = 0 by omega) with rfl <;> rfl) (Nat.le_of_ble_eq_true rfl) (Nat.le_of_ble_eq_true rfl) dX7_init_139 (fun q_139_1 H hP hS => ?_)
                obtain ⟨A_139_1, hA_139_1⟩ : ∃ z : Nat → Nat, z = va_up A_143 (32 + 1) q_139_1 := ⟨_, rfl⟩
                obtain ⟨C_139_1, hC_139_1⟩ : ∃ z : wg_C, z = va_up C_146 (32 + 1) (some (.inr (1, [.null]))) := ⟨_, rfl⟩
                have hP : wg_P E A_139_1 C_139_1 H := by rw [hA_139_1, hC_139_1]; exact hP
                have an_139_1 : q_139_1 = A_139_1 (32 + 1) := by rw [hA_139_1]; exact (va_up_self _ _ _).symm
                have am_139_1_0 : A_139_1 0 = A_143 0 := by rw [hA_139_1]; rw [va_up_ne _ _ (by decide)]
                have am_139_1_1 : A_139_1 6 = A_143 6 := by rw [hA_139_1]; rw [va_up_ne _ _ (by decide)]
                have am_139_1_2 : A_139_1 1 = A_143 1 := by rw [hA_139_1]; rw [va_up_ne _ _ (by decide)]
                have am_139_1_3 : A_139_1 2 = A_143 2 := by rw [hA_139_1]; rw [va_up_ne _ _ (by decide)]
                have am_139_1_4 : A_139_1 4 = A_143 4 := by rw [hA_139_1]; rw [va_up_ne _ _ (by decide)]
                have am_139_1_5 : A_139_1 5 = A_143 5 := by rw [hA_139_1]; rw [va_up_ne _ _ (by decide)]
                have am_139_1_6 : A_139_1 7 = A_143 7 := by rw [hA_139_1]; rw [va_up_ne _ _ (by decide)]
                have am_139_1_7 : A_139_1 8 = A_143 8 := by rw [hA_139_1]; rw [va_up_ne _ _ (by decide)]
                have am_139_1_8 : A_139_1 11 = A_143 11 := by rw [hA_139_1]; rw [va_up_ne _ _ (by decide)]
                have am_139_1_9 : A_139_1 3 = A_143 3 := by rw [hA_139_1]; rw [va_up_ne _ _ (by decide)]
                have am_139_1_10 : A_139_1 9 = A_143 9 := by rw [hA_139_1]; rw [va_up_ne _ _ (by decide)]
                have am_139_1_11 : A_139_1 10 = A_143 10 := by rw [hA_139_1]; rw [va_up_ne _ _ (by decide)]
                have am_139_1_12 : A_139_1 12 = A_143 12 := by rw [hA_139_1]; rw [va_up_ne _ _ (by decide)]
                have am_139_1_13 : A_139_1 13 = A_143 13 := by rw [hA_139_1]; rw [va_up_ne _ _ (by decide)]
                have am_139_1_14 : A_139_1 (24 + 0) = A_143 (24 + 0) := by rw [hA_139_1]; rw [va_up_ne _ _ (by decide)]
                have am_139_1_15 : A_139_1 (28 + 0) = A_143 (28 + 0) := by rw [hA_139_1]; rw [va_up_ne _ _ (by decide)]
                have am_139_1_16 : A_139_1 (24 + 1) = A_143 (24 + 1) := by rw [hA_139_1]; rw [va_up_ne _ _ (by decide)]
                have am_139_1_17 : A_139_1 (28 + 1) = A_143 (28 + 1) := by rw [hA_139_1]; rw [va_up_ne _ _ (by decide)]
                have am_139_1_18 : A_139_1 (24 + 2) = A_143 (24 + 2) := by rw [hA_139_1]; rw [va_up_ne _ _ (by decide)]
                have am_139_1_19 : A_139_1 (28 + 2) = A_143 (28 + 2) := by rw [hA_139_1]; rw [va_up_ne _ _ (by decide)]
                have am_139_1_20 : A_139_1 (24 + 3) = A_143 (24 + 3) := by rw [hA_139_1]; rw [va_up_ne _ _ (by decide)]
                have am_139_1_21 : A_139_1 (28 + 3) = A_143 (28 + 3) := by rw [hA_139_1]; rw [va_up_ne _ _ (by decide)]
                have am_139_1_22 : A_139_1 (36 + 0) = A_143 (36 + 0) := by rw [hA_139_1]; rw [va_up_ne _ _ (by decide)]
                have am_139_1_23 : A_139_1 (40 + 0) = A_143 (40 + 0) := by rw [hA_139_1]; rw [va_up_ne _ _ (by decide)]
                have f0_c139_1 : C_139_1 0 = some (.inr (7, [.ref (A_139_1 1), .int 0, .ref (A_139_1 2), .ref (A_139_1 4), .ref (A_139_1 5), .ref (A_139_1 6), .ref (A_139_1 7), .ref (A_139_1 8), .ref (A_139_1 11)])) := by rw [hC_139_1]; rw [va_up_ne _ _ (by decide)]; rw [am_139_1_2, am_139_1_3, am_139_1_4, am_139_1_5, am_139_1_1, am_139_1_6, am_139_1_7, am_139_1_8]; exact f0_c146
                have f1_c139_1 : C_139_1 1 = some (.inl (E.2.1 3, 16, .inr (.inr (.inr (.inr (fun _ => none)))))) := by rw [hC_139_1]; rw [va_up_ne _ _ (by decide)]; exact f1_c146
                have f2_c139_1 : C_139_1 2 = some (.inr (3, [.ref (A_139_1 3), .int 0])) := by rw [hC_139_1]; rw [va_up_ne _ _ (by decide)]; rw [am_139_1_9]; exact f2_c146
                have f3_c139_1 : C_139_1 3 = some (.inl (E.2.1 4, 60, .inr (.inr (.inr (.inr (fun _ => none)))))) := by rw [hC_139_1]; rw [va_up_ne _ _ (by decide)]; exact f3_c146
                have f4_c139_1 : C_139_1 4 = some (.inl (E.2.1 0, 4, .inl (upd (upd (upd (upd (fun _ => 0) (0 : Int32).toNatClampNeg 1) (1 : Int32).toNatClampNeg 3) (2 : Int32).toNatClampNeg 50) (3 : Int32).toNatClampNeg 4))) := by rw [hC_139_1]; rw [va_up_ne _ _ (by decide)]; exact f4_c146
                have f5_c139_1 : C_139_1 5 = some (.inl (E.2.1 5, 4, .inr (.inr (.inr (.inr (va_up (va_up (va_up (va_up (fun _ => none) (0 : Int32).toNatClampNeg (some (A_117 (20 + 0)))) (1 : Int32).toNatClampNeg (some (A_117_1 (20 + 1)))) (2 : Int32).toNatClampNeg (some (A_117_2 (20 + 2)))) (3 : Int32).toNatClampNeg (some (A_117_3 (20 + 3))))))))) := by rw [hC_139_1]; rw [va_up_ne _ _ (by decide)]; exact f5_c146
                have f6_c139_1 : C_139_1 6 = some (.inl (E.2.1 6, 4, .inr (.inr (.inr (.inr (va_up (fun _ => none) (0 : Int32).toNatClampNeg (some (A_143 (32 + 0))))))))) := by rw [hC_139_1]; rw [va_up_ne _ _ (by decide)]; exact f6_c146
                have f7_c139_1 : C_139_1 7 = some (.inl (E.2.1 0, 32, .inl (fun _ => 0))) := by rw [hC_139_1]; rw [va_up_ne _ _ (by decide)]; exact f7_c146
                have f8_c139_1 : C_139_1 8 = some (.inr (5, [.ref (A_139_1 9), .ref (A_139_1 10)])) := by rw [hC_139_1]; rw [va_up_ne _ _ (by decide)]; rw [am_139_1_10, am_139_1_11]; exact f8_c146
                have f9_c139_1 : C_139_1 9 = some (.inl (E.2.1 1, 8, .inr (.inl (fun _ => 0)))) := by rw [hC_139_1]; rw [va_up_ne _ _ (by decide)]; exact f9_c146
                have f10_c139_1 : C_139_1 10 = some (.inl (E.2.1 1, 16, .inr (.inl nd))) := by rw [hC_139_1]; rw [va_up_ne _ _ (by decide)]; exact f10_c146
                have f11_c139_1 : C_139_1 11 = some (.inr (4, [.int 0, .int 0, .long 0, .long 0, .ref (A_139_1 12), .int 0, .ref (A_139_1 13)])) := by rw [hC_139_1]; rw [va_up_ne _ _ (by decide)]; rw [am_139_1_12, am_139_1_13]; exact f11_c146
                have f12_c139_1 : C_139_1 12 = some (.inl (E.2.1 1, 4, .inr (.inl (fun _ => 0)))) := by rw [hC_139_1]; rw [va_up_ne _ _ (by decide)]; exact f12_c146
                have f13_c139_1 : C_139_1 13 = some (.inl (E.2.1 1, 16, .inr (.inl (fun _ => 0)))) := by rw [hC_139_1]; rw [va_up_ne _ _ (by decide)]; exact f13_c146
                have f200_c139_1 : C_139_1 (20 + 0) = some (.inr (0, [.ref (A_139_1 (24 + 0)), .int 0, .int ((-2)), .int ((-2))])) := by rw [hC_139_1]; rw [va_up_ne _ _ (by decide)]; rw [am_139_1_14]; exact f200_c146
                have f240_c139_1 : C_139_1 (24 + 0) = some (.inr (3, [.ref (A_139_1 (28 + 0)), .int 0])) := by rw [hC_139_1]; rw [va_up_ne _ _ (by decide)]; rw [am_139_1_15]; exact f240_c146
                have f280_c139_1 : C_139_1 (28 + 0) = some (.inl (E.2.1 4, 11, .inr (.inr (.inr (.inr (fun _ => none)))))) := by rw [hC_139_1]; rw [va_up_ne _ _ (by decide)]; exact f280_c146
                have f201_c139_1 : C_139_1 (20 + 1) = some (.inr (0, [.ref (A_139_1 (24 + 1)), .int 0, .int ((-2)), .int ((-2))])) := by rw [hC_139_1]; rw [va_up_ne _ _ (by decide)]; rw [am_139_1_16]; exact f201_c146
                have f241_c139_1 : C_139_1 (24 + 1) = some (.inr (3, [.ref (A_139_1 (28 + 1)), .int 0])) := by rw [hC_139_1]; rw [va_up_ne _ _ (by decide)]; rw [am_139_1_17]; exact f241_c146
                have f281_c139_1 : C_139_1 (28 + 1) = some (.inl (E.2.1 4, 11, .inr (.inr (.inr (.inr (fun _ => none)))))) := by rw [hC_139_1]; rw [va_up_ne _ _ (by decide)]; exact f281_c146
                have f202_c139_1 : C_139_1 (20 + 2) = some (.inr (0, [.ref (A_139_1 (24 + 2)), .int 0, .int ((-2)), .int ((-2))])) := by rw [hC_139_1]; rw [va_up_ne _ _ (by decide)]; rw [am_139_1_18]; exact f202_c146
                have f242_c139_1 : C_139_1 (24 + 2) = some (.inr (3, [.ref (A_139_1 (28 + 2)), .int 0])) := by rw [hC_139_1]; rw [va_up_ne _ _ (by decide)]; rw [am_139_1_19]; exact f242_c146
                have f282_c139_1 : C_139_1 (28 + 2) = some (.inl (E.2.1 4, 11, .inr (.inr (.inr (.inr (fun _ => none)))))) := by rw [hC_139_1]; rw [va_up_ne _ _ (by decide)]; exact f282_c146
                have f203_c139_1 : C_139_1 (20 + 3) = some (.inr (0, [.ref (A_139_1 (24 + 3)), .int 0, .int ((-2)), .int ((-2))])) := by rw [hC_139_1]; rw [va_up_ne _ _ (by decide)]; rw [am_139_1_20]; exact f203_c146
                have f243_c139_1 : C_139_1 (24 + 3) = some (.inr (3, [.ref (A_139_1 (28 + 3)), .int 0])) := by rw [hC_139_1]; rw [va_up_ne _ _ (by decide)]; rw [am_139_1_21]; exact f243_c146
                have f283_c139_1 : C_139_1 (28 + 3) = some (.inl (E.2.1 4, 11, .inr (.inr (.inr (.inr (fun _ => none)))))) := by rw [hC_139_1]; rw [va_up_ne _ _ (by decide)]; exact f283_c146
                have f320_c139_1 : C_139_1 (32 + 0) = some (.inr (1, [.ref (A_139_1 (36 + 0))])) := by rw [hC_139_1]; rw [va_up_ne _ _ (by decide)]; rw [am_139_1_22]; exact f320_c146
                have f360_c139_1 : C_139_1 (36 + 0) = some (.inr (3, [.ref (A_139_1 (40 + 0)), .int 0])) := by rw [hC_139_1]; rw [va_up_ne _ _ (by decide)]; rw [am_139_1_23]; exact f360_c146
                have f400_c139_1 : C_139_1 (40 + 0) = some (.inl (E.2.1 4, 60, .inr (.inr (.inr (.inr (fun _ => none)))))) := by rw [hC_139_1]; rw [va_up_ne _ _ (by decide)]; exact f400_c146
                have f321_c139_1 : C_139_1 (32 + 1) = some (.inr (1, [.null])) := by rw [hC_139_1]; exact va_up_self _ _ _
                have hl : lv_has ls 2 [(1, .int 1), (0, .ref (A_139_1 0))] := by rw [am_139_1_0]; exact hl
                refine W.eq (g2 := F0 m 142 ls [.ref (A_139_1 (32 + 1)), .int 1, .ref (A_139_1 6)]) (by rw [← an_139_1, am_139_1_1]) ?_
                clear am_139_1_0 am_139_1_1 am_139_1_2 am_139_1_3 am_139_1_4 am_139_1_5 am_139_1_6 am_139_1_7 am_139_1_8 am_139_1_9 am_139_1_10 am_139_1_11 am_139_1_12 am_139_1_13 am_139_1_14 am_139_1_15 am_139_1_16 am_139_1_17 am_139_1_18 am_139_1_19 am_139_1_20 am_139_1_21 am_139_1_22 am_139_1_23 an_139_1
                refine lv_dup hx hb dX7_init_142 rfl ?_
                refine wg_cv hS (wg_rIN (As := []) (rest := [.ref (A_139_1 (32 + 1)), .int 1, .ref (A_139_1 6)]) F hP hS (c_X1_init l E A_139_1 C_139_1 1 (by decide) f321_c139_1) ok_X1_init nb_130 rfl rfl ⟨Nat.le_of_ble_eq_true rfl, Nat.le_of_ble_eq_true rfl⟩ rfl hl.1 rfl (Nat.le_of_ble_eq_true rfl) dX7_init_143 ⟨Nat.le_of_ble_eq_true rfl, Nat.le_of_ble_eq_true rfl⟩) (fun A_143_1 C_143_1 H locs w_143_1 hP hS => ?_)
                obtain ⟨hAf_143_1, hfr_143_1, n0, n1, n2⟩ := w_143_1
                have am_143_1_0 : A_143_1 0 = A_139_1 0 := hAf_143_1 0 (by decide) (by decide)
                have am_143_1_1 : A_143_1 (32 + 1) = A_139_1 (32 + 1) := hAf_143_1 (32 + 1) (by decide) (by decide)
                have am_143_1_2 : A_143_1 6 = A_139_1 6 := hAf_143_1 6 (by decide) (by decide)
                have am_143_1_3 : A_143_1 1 = A_139_1 1 := hAf_143_1 1 (by decide) (by decide)
                have am_143_1_4 : A_143_1 2 = A_139_1 2 := hAf_143_1 2 (by decide) (by decide)
                have am_143_1_5 : A_143_1 4 = A_139_1 4 := hAf_143_1 4 (by decide) (by decide)
                have am_143_1_6 : A_143_1 5 = A_139_1 5 := hAf_143_1 5 (by decide) (by decide)
                have am_143_1_7 : A_143_1 7 = A_139_1 7 := hAf_143_1 7 (by decide) (by decide)
                have am_143_1_8 : A_143_1 8 = A_139_1 8 := hAf_143_1 8 (by decide) (by decide)
                have am_143_1_9 : A_143_1 11 = A_139_1 11 := hAf_143_1 11 (by decide) (by decide)
                have am_143_1_10 : A_143_1 3 = A_139_1 3 := hAf_143_1 3 (by decide) (by decide)
                have am_143_1_11 : A_143_1 9 = A_139_1 9 := hAf_143_1 9 (by decide) (by decide)
                have am_143_1_12 : A_143_1 10 = A_139_1 10 := hAf_143_1 10 (by decide) (by decide)
                have am_143_1_13 : A_143_1 12 = A_139_1 12 := hAf_143_1 12 (by decide) (by decide)
                have am_143_1_14 : A_143_1 13 = A_139_1 13 := hAf_143_1 13 (by decide) (by decide)
                have am_143_1_15 : A_143_1 (24 + 0) = A_139_1 (24 + 0) := hAf_143_1 (24 + 0) (by decide) (by decide)
                have am_143_1_16 : A_143_1 (28 + 0) = A_139_1 (28 + 0) := hAf_143_1 (28 + 0) (by decide) (by decide)
                have am_143_1_17 : A_143_1 (24 + 1) = A_139_1 (24 + 1) := hAf_143_1 (24 + 1) (by decide) (by decide)
                have am_143_1_18 : A_143_1 (28 + 1) = A_139_1 (28 + 1) := hAf_143_1 (28 + 1) (by decide) (by decide)
                have am_143_1_19 : A_143_1 (24 + 2) = A_139_1 (24 + 2) := hAf_143_1 (24 + 2) (by decide) (by decide)
                have am_143_1_20 : A_143_1 (28 + 2) = A_139_1 (28 + 2) := hAf_143_1 (28 + 2) (by decide) (by decide)
                have am_143_1_21 : A_143_1 (24 + 3) = A_139_1 (24 + 3) := hAf_143_1 (24 + 3) (by decide) (by decide)
                have am_143_1_22 : A_143_1 (28 + 3) = A_139_1 (28 + 3) := hAf_143_1 (28 + 3) (by decide) (by decide)
                have am_143_1_23 : A_143_1 (36 + 0) = A_139_1 (36 + 0) := hAf_143_1 (36 + 0) (by decide) (by decide)
                have am_143_1_24 : A_143_1 (40 + 0) = A_139_1 (40 + 0) := hAf_143_1 (40 + 0) (by decide) (by decide)
                have f0_c143_1 : C_143_1 0 = some (.inr (7, [.ref (A_143_1 1), .int 0, .ref (A_143_1 2), .ref (A_143_1 4), .ref (A_143_1 5), .ref (A_143_1 6), .ref (A_143_1 7), .ref (A_143_1 8), .ref (A_143_1 11)])) := by rw [hfr_143_1 0 (by decide) (by decide) (by decide)]; rw [am_143_1_3, am_143_1_4, am_143_1_5, am_143_1_6, am_143_1_2, am_143_1_7, am_143_1_8, am_143_1_9]; exact f0_c139_1
                have f1_c143_1 : C_143_1 1 = some (.inl (E.2.1 3, 16, .inr (.inr (.inr (.inr (fun _ => none)))))) := by rw [hfr_143_1 1 (by decide) (by decide) (by decide)]; exact f1_c139_1
                have f2_c143_1 : C_143_1 2 = some (.inr (3, [.ref (A_143_1 3), .int 0])) := by rw [hfr_143_1 2 (by decide) (by decide) (by decide)]; rw [am_143_1_10]; exact f2_c139_1
                have f3_c143_1 : C_143_1 3 = some (.inl (E.2.1 4, 60, .inr (.inr (.inr (.inr (fun _ => none)))))) := by rw [hfr_143_1 3 (by decide) (by decide) (by decide)]; exact f3_c139_1
                have f4_c143_1 : C_143_1 4 = some (.inl (E.2.1 0, 4, .inl (upd (upd (upd (upd (fun _ => 0) (0 : Int32).toNatClampNeg 1) (1 : Int32).toNatClampNeg 3) (2 : Int32).toNatClampNeg 50) (3 : Int32).toNatClampNeg 4))) := by rw [hfr_143_1 4 (by decide) (by decide) (by decide)]; exact f4_c139_1
                have f5_c143_1 : C_143_1 5 = some (.inl (E.2.1 5, 4, .inr (.inr (.inr (.inr (va_up (va_up (va_up (va_up (fun _ => none) (0 : Int32).toNatClampNeg (some (A_117 (20 + 0)))) (1 : Int32).toNatClampNeg (some (A_117_1 (20 + 1)))) (2 : Int32).toNatClampNeg (some (A_117_2 (20 + 2)))) (3 : Int32).toNatClampNeg (some (A_117_3 (20 + 3))))))))) := by rw [hfr_143_1 5 (by decide) (by decide) (by decide)]; exact f5_c139_1
                have f6_c143_1 : C_143_1 6 = some (.inl (E.2.1 6, 4, .inr (.inr (.inr (.inr (va_up (fun _ => none) (0 : Int32).toNatClampNeg (some (A_143 (32 + 0))))))))) := by rw [hfr_143_1 6 (by decide) (by decide) (by decide)]; exact f6_c139_1
                have f7_c143_1 : C_143_1 7 = some (.inl (E.2.1 0, 32, .inl (fun _ => 0))) := by rw [hfr_143_1 7 (by decide) (by decide) (by decide)]; exact f7_c139_1
                have f8_c143_1 : C_143_1 8 = some (.inr (5, [.ref (A_143_1 9), .ref (A_143_1 10)])) := by rw [hfr_143_1 8 (by decide) (by decide) (by decide)]; rw [am_143_1_11, am_143_1_12]; exact f8_c139_1
                have f9_c143_1 : C_143_1 9 = some (.inl (E.2.1 1, 8, .inr (.inl (fun _ => 0)))) := by rw [hfr_143_1 9 (by decide) (by decide) (by decide)]; exact f9_c139_1
                have f10_c143_1 : C_143_1 10 = some (.inl (E.2.1 1, 16, .inr (.inl nd))) := by rw [hfr_143_1 10 (by decide) (by decide) (by decide)]; exact f10_c139_1
                have f11_c143_1 : C_143_1 11 = some (.inr (4, [.int 0, .int 0, .long 0, .long 0, .ref (A_143_1 12), .int 0, .ref (A_143_1 13)])) := by rw [hfr_143_1 11 (by decide) (by decide) (by decide)]; rw [am_143_1_13, am_143_1_14]; exact f11_c139_1
                have f12_c143_1 : C_143_1 12 = some (.inl (E.2.1 1, 4, .inr (.inl (fun _ => 0)))) := by rw [hfr_143_1 12 (by decide) (by decide) (by decide)]; exact f12_c139_1
                have f13_c143_1 : C_143_1 13 = some (.inl (E.2.1 1, 16, .inr (.inl (fun _ => 0)))) := by rw [hfr_143_1 13 (by decide) (by decide) (by decide)]; exact f13_c139_1
                have f200_c143_1 : C_143_1 (20 + 0) = some (.inr (0, [.ref (A_143_1 (24 + 0)), .int 0, .int ((-2)), .int ((-2))])) := by rw [hfr_143_1 (20 + 0) (by decide) (by decide) (by decide)]; rw [am_143_1_15]; exact f200_c139_1
                have f240_c143_1 : C_143_1 (24 + 0) = some (.inr (3, [.ref (A_143_1 (28 + 0)), .int 0])) := by rw [hfr_143_1 (24 + 0) (by decide) (by decide) (by decide)]; rw [am_143_1_16]; exact f240_c139_1
                have f280_c143_1 : C_143_1 (28 + 0) = some (.inl (E.2.1 4, 11, .inr (.inr (.inr (.inr (fun _ => none)))))) := by rw [hfr_143_1 (28 + 0) (by decide) (by decide) (by decide)]; exact f280_c139_1
                have f201_c143_1 : C_143_1 (20 + 1) = some (.inr (0, [.ref (A_143_1 (24 + 1)), .int 0, .int ((-2)), .int ((-2))])) := by rw [hfr_143_1 (20 + 1) (by decide) (by decide) (by decide)]; rw [am_143_1_17]; exact f201_c139_1
                have f241_c143_1 : C_143_1 (24 + 1) = some (.inr (3, [.ref (A_143_1 (28 + 1)), .int 0])) := by rw [hfr_143_1 (24 + 1) (by decide) (by decide) (by decide)]; rw [am_143_1_18]; exact f241_c139_1
                have f281_c143_1 : C_143_1 (28 + 1) = some (.inl (E.2.1 4, 11, .inr (.inr (.inr (.inr (fun _ => none)))))) := by rw [hfr_143_1 (28 + 1) (by decide) (by decide) (by decide)]; exact f281_c139_1
                have f202_c143_1 : C_143_1 (20 + 2) = some (.inr (0, [.ref (A_143_1 (24 + 2)), .int 0, .int ((-2)), .int ((-2))])) := by rw [hfr_143_1 (20 + 2) (by decide) (by decide) (by decide)]; rw [am_143_1_19]; exact f202_c139_1
                have f242_c143_1 : C_143_1 (24 + 2) = some (.inr (3, [.ref (A_143_1 (28 + 2)), .int 0])) := by rw [hfr_143_1 (24 + 2) (by decide) (by decide) (by decide)]; rw [am_143_1_20]; exact f242_c139_1
                have f282_c143_1 : C_143_1 (28 + 2) = some (.inl (E.2.1 4, 11, .inr (.inr (.inr (.inr (fun _ => none)))))) := by rw [hfr_143_1 (28 + 2) (by decide) (by decide) (by decide)]; exact f282_c139_1
                have f203_c143_1 : C_143_1 (20 + 3) = some (.inr (0, [.ref (A_143_1 (24 + 3)), .int 0, .int ((-2)), .int ((-2))])) := by rw [hfr_143_1 (20 + 3) (by decide) (by decide) (by decide)]; rw [am_143_1_21]; exact f203_c139_1
                have f243_c143_1 : C_143_1 (24 + 3) = some (.inr (3, [.ref (A_143_1 (28 + 3)), .int 0])) := by rw [hfr_143_1 (24 + 3) (by decide) (by decide) (by decide)]; rw [am_143_1_22]; exact f243_c139_1
                have f283_c143_1 : C_143_1 (28 + 3) = some (.inl (E.2.1 4, 11, .inr (.inr (.inr (.inr (fun _ => none)))))) := by rw [hfr_143_1 (28 + 3) (by decide) (by decide) (by decide)]; exact f283_c139_1
                have f320_c143_1 : C_143_1 (32 + 0) = some (.inr (1, [.ref (A_143_1 (36 + 0))])) := by rw [hfr_143_1 (32 + 0) (by decide) (by decide) (by decide)]; rw [am_143_1_23]; exact f320_c139_1
                have f360_c143_1 : C_143_1 (36 + 0) = some (.inr (3, [.ref (A_143_1 (40 + 0)), .int 0])) := by rw [hfr_143_1 (36 + 0) (by decide) (by decide) (by decide)]; rw [am_143_1_24]; exact f360_c139_1
                have f400_c143_1 : C_143_1 (40 + 0) = some (.inl (E.2.1 4, 60, .inr (.inr (.inr (.inr (fun _ => none)))))) := by rw [hfr_143_1 (40 + 0) (by decide) (by decide) (by decide)]; exact f400_c139_1
                have f321_c143_1 : C_143_1 (32 + 1) = some (.inr (1, [.ref (A_143_1 (36 + 1))])) := n0
                have f361_c143_1 : C_143_1 (36 + 1) = some (.inr (3, [.ref (A_143_1 (40 + 1)), .int 0])) := n1
                have f401_c143_1 : C_143_1 (40 + 1) = some (.inl (E.2.1 4, 60, .inr (.inr (.inr (.inr (fun _ => none)))))) := n2
                have hl : lv_has ls 2 [(1, .int 1), (0, .ref (A_143_1 0))] := by rw [am_143_1_0]; exact hl
                refine W.eq (g2 := F0 m 146 ls [.ref (A_143_1 (32 + 1)), .int 1, .ref (A_143_1 6)]) (by rw [am_143_1_1, am_143_1_2]) ?_
                clear am_143_1_0 am_143_1_1 am_143_1_2 am_143_1_3 am_143_1_4 am_143_1_5 am_143_1_6 am_143_1_7 am_143_1_8 am_143_1_9 am_143_1_10 am_143_1_11 am_143_1_12 am_143_1_13 am_143_1_14 am_143_1_15 am_143_1_16 am_143_1_17 am_143_1_18 am_143_1_19 am_143_1_20 am_143_1_21 am_143_1_22 am_143_1_23 am_143_1_24
                refine wg_qst F hP hS 6 rfl f6_c143_1 f321_c143_1 rfl (vp_in_nI (n := 1) (by decide) (by decide)) dX7_init_146 (fun H locs hP hS => ?_)
                obtain ⟨C_146_1, hC_146_1⟩ : ∃ z : wg_C, z = va_up C_143_1 6 (some (.inl (E.2.1 6, 4, .inr (.inr (.inr (.inr (va_up (va_up (fun _ => none) (0 : Int32).toNatClampNeg (some (A_143 (32 + 0)))) (1 : Int32).toNatClampNeg (some (A_143_1 (32 + 1)))))))))) := ⟨_, rfl⟩
                have hP : wg_P E A_143_1 C_146_1 H := by rw [hC_146_1]; exact hP
                have f0_c146_1 : C_146_1 0 = some (.inr (7, [.ref (A_143_1 1), .int 0, .ref (A_143_1 2), .ref (A_143_1 4), .ref (A_143_1 5), .ref (A_143_1 6), .ref (A_143_1 7), .ref (A_143_1 8), .ref (A_143_1 11)])) := by rw [hC_146_1]; rw [va_up_ne _ _ (by decide)]; exact f0_c143_1
                have f1_c146_1 : C_146_1 1 = some (.inl (E.2.1 3, 16, .inr (.inr (.inr (.inr (fun _ => none)))))) := by rw [hC_146_1]; rw [va_up_ne _ _ (by decide)]; exact f1_c143_1
                have f2_c146_1 : C_146_1 2 = some (.inr (3, [.ref (A_143_1 3), .int 0])) := by rw [hC_146_1]; rw [va_up_ne _ _ (by decide)]; exact f2_c143_1
                have f3_c146_1 : C_146_1 3 = some (.inl (E.2.1 4, 60, .inr (.inr (.inr (.inr (fun _ => none)))))) := by rw [hC_146_1]; rw [va_up_ne _ _ (by decide)]; exact f3_c143_1
                have f4_c146_1 : C_146_1 4 = some (.inl (E.2.1 0, 4, .inl (upd (upd (upd (upd (fun _ => 0) (0 : Int32).toNatClampNeg 1) (1 : Int32).toNatClampNeg 3) (2 : Int32).toNatClampNeg 50) (3 : Int32).toNatClampNeg 4))) := by rw [hC_146_1]; rw [va_up_ne _ _ (by decide)]; exact f4_c143_1
                have f5_c146_1 : C_146_1 5 = some (.inl (E.2.1 5, 4, .inr (.inr (.inr (.inr (va_up (va_up (va_up (va_up (fun _ => none) (0 : Int32).toNatClampNeg (some (A_117 (20 + 0)))) (1 : Int32).toNatClampNeg (some (A_117_1 (20 + 1)))) (2 : Int32).toNatClampNeg (some (A_117_2 (20 + 2)))) (3 : Int32).toNatClampNeg (some (A_117_3 (20 + 3))))))))) := by rw [hC_146_1]; rw [va_up_ne _ _ (by decide)]; exact f5_c143_1
                have f6_c146_1 : C_146_1 6 = some (.inl (E.2.1 6, 4, .inr (.inr (.inr (.inr (va_up (va_up (fun _ => none) (0 : Int32).toNatClampNeg (some (A_143 (32 + 0)))) (1 : Int32).toNatClampNeg (some (A_143_1 (32 + 1))))))))) := by rw [hC_146_1]; exact va_up_self _ _ _
                have f7_c146_1 : C_146_1 7 = some (.inl (E.2.1 0, 32, .inl (fun _ => 0))) := by rw [hC_146_1]; rw [va_up_ne _ _ (by decide)]; exact f7_c143_1
                have f8_c146_1 : C_146_1 8 = some (.inr (5, [.ref (A_143_1 9), .ref (A_143_1 10)])) := by rw [hC_146_1]; rw [va_up_ne _ _ (by decide)]; exact f8_c143_1
                have f9_c146_1 : C_146_1 9 = some (.inl (E.2.1 1, 8, .inr (.inl (fun _ => 0)))) := by rw [hC_146_1]; rw [va_up_ne _ _ (by decide)]; exact f9_c143_1
                have f10_c146_1 : C_146_1 10 = some (.inl (E.2.1 1, 16, .inr (.inl nd))) := by rw [hC_146_1]; rw [va_up_ne _ _ (by decide)]; exact f10_c143_1
                have f11_c146_1 : C_146_1 11 = some (.inr (4, [.int 0, .int 0, .long 0, .long 0, .ref (A_143_1 12), .int 0, .ref (A_143_1 13)])) := by rw [hC_146_1]; rw [va_up_ne _ _ (by decide)]; exact f11_c143_1
                have f12_c146_1 : C_146_1 12 = some (.inl (E.2.1 1, 4, .inr (.inl (fun _ => 0)))) := by rw [hC_146_1]; rw [va_up_ne _ _ (by decide)]; exact f12_c143_1
                have f13_c146_1 : C_146_1 13 = some (.inl (E.2.1 1, 16, .inr (.inl (fun _ => 0)))) := by rw [hC_146_1]; rw [va_up_ne _ _ (by decide)]; exact f13_c143_1
                have f200_c146_1 : C_146_1 (20 + 0) = some (.inr (0, [.ref (A_143_1 (24 + 0)), .int 0, .int ((-2)), .int ((-2))])) := by rw [hC_146_1]; rw [va_up_ne _ _ (by decide)]; exact f200_c143_1
                have f240_c146_1 : C_146_1 (24 + 0) = some (.inr (3, [.ref (A_143_1 (28 + 0)), .int 0])) := by rw [hC_146_1]; rw [va_up_ne _ _ (by decide)]; exact f240_c143_1
                have f280_c146_1 : C_146_1 (28 + 0) = some (.inl (E.2.1 4, 11, .inr (.inr (.inr (.inr (fun _ => none)))))) := by rw [hC_146_1]; rw [va_up_ne _ _ (by decide)]; exact f280_c143_1
                have f201_c146_1 : C_146_1 (20 + 1) = some (.inr (0, [.ref (A_143_1 (24 + 1)), .int 0, .int ((-2)), .int ((-2))])) := by rw [hC_146_1]; rw [va_up_ne _ _ (by decide)]; exact f201_c143_1
                have f241_c146_1 : C_146_1 (24 + 1) = some (.inr (3, [.ref (A_143_1 (28 + 1)), .int 0])) := by rw [hC_146_1]; rw [va_up_ne _ _ (by decide)]; exact f241_c143_1
                have f281_c146_1 : C_146_1 (28 + 1) = some (.inl (E.2.1 4, 11, .inr (.inr (.inr (.inr (fun _ => none)))))) := by rw [hC_146_1]; rw [va_up_ne _ _ (by decide)]; exact f281_c143_1
                have f202_c146_1 : C_146_1 (20 + 2) = some (.inr (0, [.ref (A_143_1 (24 + 2)), .int 0, .int ((-2)), .int ((-2))])) := by rw [hC_146_1]; rw [va_up_ne _ _ (by decide)]; exact f202_c143_1
                have f242_c146_1 : C_146_1 (24 + 2) = some (.inr (3, [.ref (A_143_1 (28 + 2)), .int 0])) := by rw [hC_146_1]; rw [va_up_ne _ _ (by decide)]; exact f242_c143_1
                have f282_c146_1 : C_146_1 (28 + 2) = some (.inl (E.2.1 4, 11, .inr (.inr (.inr (.inr (fun _ => none)))))) := by rw [hC_146_1]; rw [va_up_ne _ _ (by decide)]; exact f282_c143_1
                have f203_c146_1 : C_146_1 (20 + 3) = some (.inr (0, [.ref (A_143_1 (24 + 3)), .int 0, .int ((-2)), .int ((-2))])) := by rw [hC_146_1]; rw [va_up_ne _ _ (by decide)]; exact f203_c143_1
                have f243_c146_1 : C_146_1 (24 + 3) = some (.inr (3, [.ref (A_143_1 (28 + 3)), .int 0])) := by rw [hC_146_1]; rw [va_up_ne _ _ (by decide)]; exact f243_c143_1
                have f283_c146_1 : C_146_1 (28 + 3) = some (.inl (E.2.1 4, 11, .inr (.inr (.inr (.inr (fun _ => none)))))) := by rw [hC_146_1]; rw [va_up_ne _ _ (by decide)]; exact f283_c143_1
                have f320_c146_1 : C_146_1 (32 + 0) = some (.inr (1, [.ref (A_143_1 (36 + 0))])) := by rw [hC_146_1]; rw [va_up_ne _ _ (by decide)]; exact f320_c143_1
                have f360_c146_1 : C_146_1 (36 + 0) = some (.inr (3, [.ref (A_143_1 (40 + 0)), .int 0])) := by rw [hC_146_1]; rw [va_up_ne _ _ (by decide)]; exact f360_c143_1
                have f400_c146_1 : C_146_1 (40 + 0) = some (.inl (E.2.1 4, 60, .inr (.inr (.inr (.inr (fun _ => none)))))) := by rw [hC_146_1]; rw [va_up_ne _ _ (by decide)]; exact f400_c143_1
                have f321_c146_1 : C_146_1 (32 + 1) = some (.inr (1, [.ref (A_143_1 (36 + 1))])) := by rw [hC_146_1]; rw [va_up_ne _ _ (by decide)]; exact f321_c143_1
                have f361_c146_1 : C_146_1 (36 + 1) = some (.inr (3, [.ref (A_143_1 (40 + 1)), .int 0])) := by rw [hC_146_1]; rw [va_up_ne _ _ (by decide)]; exact f361_c143_1
                have f401_c146_1 : C_146_1 (40 + 1) = some (.inl (E.2.1 4, 60, .inr (.inr (.inr (.inr (fun _ => none)))))) := by rw [hC_146_1]; rw [va_up_ne _ _ (by decide)]; exact f401_c143_1
                refine lv_iinc (v := 2) (lv' := [(1, .int 2), (0, .ref (A_143_1 0))]) hx hb dX7_init_147 hl (k := 0) rfl (by decide) (by decide) rfl (fun ls hl => ?_)
                refine lv_goto (tgt := 129) hx hb dX7_init_150 (by decide) ?_
                refine lv_iload_n hx hb dX7_init_129 rfl (lv_at hl 0 rfl) ?_
                refine lv_iconst (v := 4) hx hb dX7_init_130 (by decide) ?_
                refine lv_icmp_ge (tgt := 153) hx hb dX7_init_131 (by decide) (fun c_131 => ?_) (fun c_131 => ?_)
                · exact absurd c_131 (by decide)
                · refine lv_aload_n hx hb dX7_init_134 rfl (lv_at hl 1 rfl) ?_
                  refine wg_get F hP f0_c146_1 rfl iw_X7 5 (by decide) tb_168 rfl rfl dX7_init_135 ?_
                  refine lv_iload_n hx hb dX7_init_138 rfl (lv_at hl 0 rfl) ?_
                  refine wg_newF (ci := 1) F hP hS (32 + 2) [.null] rfl iw_X1 tyX1_ok tb_44 tb_129 tb_7 (fun j hj => by rcases (show j = 0 by omega) with rfl <;> rfl) (Nat.le_of_ble_eq_true rfl) (Nat.le_of_ble_eq_true rfl) dX7_init_139 (fun q_139_2 H hP hS => ?_)
                  obtain ⟨A_139_2, hA_139_2⟩ : ∃ z : Nat → Nat, z = va_up A_143_1 (32 + 2) q_139_2 := ⟨_, rfl⟩
                  obtain ⟨C_139_2, hC_139_2⟩ : ∃ z : wg_C, z = va_up C_146_1 (32 + 2) (some (.inr (1, [.null]))) := ⟨_, rfl⟩
                  have hP : wg_P E A_139_2 C_139_2 H := by rw [hA_139_2, hC_139_2]; exact hP
                  have an_139_2 : q_139_2 = A_139_2 (32 + 2) := by rw [hA_139_2]; exact (va_up_self _ _ _).symm
                  have am_139_2_0 : A_139_2 0 = A_143_1 0 := by rw [hA_139_2]; rw [va_up_ne _ _ (by decide)]
                  have am_139_2_1 : A_139_2 6 = A_143_1 6 := by rw [hA_139_2]; rw [va_up_ne _ _ (by decide)]
                  have am_139_2_2 : A_139_2 1 = A_143_1 1 := by rw [hA_139_2]; rw [va_up_ne _ _ (by decide)]
                  have am_139_2_3 : A_139_2 2 = A_143_1 2 := by rw [hA_139_2]; rw [va_up_ne _ _ (by decide)]
                  have am_139_2_4 : A_139_2 4 = A_143_1 4 := by rw [hA_139_2]; rw [va_up_ne _ _ (by decide)]
                  have am_139_2_5 : A_139_2 5 = A_143_1 5 := by rw [hA_139_2]; rw [va_up_ne _ _ (by decide)]
                  have am_139_2_6 : A_139_2 7 = A_143_1 7 := by rw [hA_139_2]; rw [va_up_ne _ _ (by decide)]
                  have am_139_2_7 : A_139_2 8 = A_143_1 8 := by rw [hA_139_2]; rw [va_up_ne _ _ (by decide)]
                  have am_139_2_8 : A_139_2 11 = A_143_1 11 := by rw [hA_139_2]; rw [va_up_ne _ _ (by decide)]
                  have am_139_2_9 : A_139_2 3 = A_143_1 3 := by rw [hA_139_2]; rw [va_up_ne _ _ (by decide)]
                  have am_139_2_10 : A_139_2 9 = A_143_1 9 := by rw [hA_139_2]; rw [va_up_ne _ _ (by decide)]
                  have am_139_2_11 : A_139_2 10 = A_143_1 10 := by rw [hA_139_2]; rw [va_up_ne _ _ (by decide)]
                  have am_139_2_12 : A_139_2 12 = A_143_1 12 := by rw [hA_139_2]; rw [va_up_ne _ _ (by decide)]
                  have am_139_2_13 : A_139_2 13 = A_143_1 13 := by rw [hA_139_2]; rw [va_up_ne _ _ (by decide)]
                  have am_139_2_14 : A_139_2 (24 + 0) = A_143_1 (24 + 0) := by rw [hA_139_2]; rw [va_up_ne _ _ (by decide)]
                  have am_139_2_15 : A_139_2 (28 + 0) = A_143_1 (28 + 0) := by rw [hA_139_2]; rw [va_up_ne _ _ (by decide)]
                  have am_139_2_16 : A_139_2 (24 + 1) = A_143_1 (24 + 1) := by rw [hA_139_2]; rw [va_up_ne _ _ (by decide)]
                  have am_139_2_17 : A_139_2 (28 + 1) = A_143_1 (28 + 1) := by rw [hA_139_2]; rw [va_up_ne _ _ (by decide)]
                  have am_139_2_18 : A_139_2 (24 + 2) = A_143_1 (24 + 2) := by rw [hA_139_2]; rw [va_up_ne _ _ (by decide)]
                  have am_139_2_19 : A_139_2 (28 + 2) = A_143_1 (28 + 2) := by rw [hA_139_2]; rw [va_up_ne _ _ (by decide)]
                  have am_139_2_20 : A_139_2 (24 + 3) = A_143_1 (24 + 3) := by rw [hA_139_2]; rw [va_up_ne _ _ (by decide)]
                  have am_139_2_21 : A_139_2 (28 + 3) = A_143_1 (28 + 3) := by rw [hA_139_2]; rw [va_up_ne _ _ (by decide)]
                  have am_139_2_22 : A_139_2 (36 + 0) = A_143_1 (36 + 0) := by rw [hA_139_2]; rw [va_up_ne _ _ (by decide)]
                  have am_139_2_23 : A_139_2 (40 + 0) = A_143_1 (40 + 0) := by rw [hA_139_2]; rw [va_up_ne _ _ (by decide)]
                  have am_139_2_24 : A_139_2 (36 + 1) = A_143_1 (36 + 1) := by rw [hA_139_2]; rw [va_up_ne _ _ (by decide)]
                  have am_139_2_25 : A_139_2 (40 + 1) = A_143_1 (40 + 1) := by rw [hA_139_2]; rw [va_up_ne _ _ (by decide)]
                  have f0_c139_2 : C_139_2 0 = some (.inr (7, [.ref (A_139_2 1), .int 0, .ref (A_139_2 2), .ref (A_139_2 4), .ref (A_139_2 5), .ref (A_139_2 6), .ref (A_139_2 7), .ref (A_139_2 8), .ref (A_139_2 11)])) := by rw [hC_139_2]; rw [va_up_ne _ _ (by decide)]; rw [am_139_2_2, am_139_2_3, am_139_2_4, am_139_2_5, am_139_2_1, am_139_2_6, am_139_2_7, am_139_2_8]; exact f0_c146_1
                  have f1_c139_2 : C_139_2 1 = some (.inl (E.2.1 3, 16, .inr (.inr (.inr (.inr (fun _ => none)))))) := by rw [hC_139_2]; rw [va_up_ne _ _ (by decide)]; exact f1_c146_1
                  have f2_c139_2 : C_139_2 2 = some (.inr (3, [.ref (A_139_2 3), .int 0])) := by rw [hC_139_2]; rw [va_up_ne _ _ (by decide)]; rw [am_139_2_9]; exact f2_c146_1
                  have f3_c139_2 : C_139_2 3 = some (.inl (E.2.1 4, 60, .inr (.inr (.inr (.inr (fun _ => none)))))) := by rw [hC_139_2]; rw [va_up_ne _ _ (by decide)]; exact f3_c146_1
                  have f4_c139_2 : C_139_2 4 = some (.inl (E.2.1 0, 4, .inl (upd (upd (upd (upd (fun _ => 0) (0 : Int32).toNatClampNeg 1) (1 : Int32).toNatClampNeg 3) (2 : Int32).toNatClampNeg 50) (3 : Int32).toNatClampNeg 4))) := by rw [hC_139_2]; rw [va_up_ne _ _ (by decide)]; exact f4_c146_1
                  have f5_c139_2 : C_139_2 5 = some (.inl (E.2.1 5, 4, .inr (.inr (.inr (.inr (va_up (va_up (va_up (va_up (fun _ => none) (0 : Int32).toNatClampNeg (some (A_117 (20 + 0)))) (1 : Int32).toNatClampNeg (some (A_117_1 (20 + 1)))) (2 : Int32).toNatClampNeg (some (A_117_2 (20 + 2)))) (3 : Int32).toNatClampNeg (some (A_117_3 (20 + 3))))))))) := by rw [hC_139_2]; rw [va_up_ne _ _ (by decide)]; exact f5_c146_1
                  have f6_c139_2 : C_139_2 6 = some (.inl (E.2.1 6, 4, .inr (.inr (.inr (.inr (va_up (va_up (fun _ => none) (0 : Int32).toNatClampNeg (some (A_143 (32 + 0)))) (1 : Int32).toNatClampNeg (some (A_143_1 (32 + 1))))))))) := by rw [hC_139_2]; rw [va_up_ne _ _ (by decide)]; exact f6_c146_1
                  have f7_c139_2 : C_139_2 7 = some (.inl (E.2.1 0, 32, .inl (fun _ => 0))) := by rw [hC_139_2]; rw [va_up_ne _ _ (by decide)]; exact f7_c146_1
                  have f8_c139_2 : C_139_2 8 = some (.inr (5, [.ref (A_139_2 9), .ref (A_139_2 10)])) := by rw [hC_139_2]; rw [va_up_ne _ _ (by decide)]; rw [am_139_2_10, am_139_2_11]; exact f8_c146_1
                  have f9_c139_2 : C_139_2 9 = some (.inl (E.2.1 1, 8, .inr (.inl (fun _ => 0)))) := by rw [hC_139_2]; rw [va_up_ne _ _ (by decide)]; exact f9_c146_1
                  have f10_c139_2 : C_139_2 10 = some (.inl (E.2.1 1, 16, .inr (.inl nd))) := by rw [hC_139_2]; rw [va_up_ne _ _ (by decide)]; exact f10_c146_1
                  have f11_c139_2 : C_139_2 11 = some (.inr (4, [.int 0, .int 0, .long 0, .long 0, .ref (A_139_2 12), .int 0, .ref (A_139_2 13)])) := by rw [hC_139_2]; rw [va_up_ne _ _ (by decide)]; rw [am_139_2_12, am_139_2_13]; exact f11_c146_1
                  have f12_c139_2 : C_139_2 12 = some (.inl (E.2.1 1, 4, .inr (.inl (fun _ => 0)))) := by rw [hC_139_2]; rw [va_up_ne _ _ (by decide)]; exact f12_c146_1
                  have f13_c139_2 : C_139_2 13 = some (.inl (E.2.1 1, 16, .inr (.inl (fun _ => 0)))) := by rw [hC_139_2]; rw [va_up_ne _ _ (by decide)]; exact f13_c146_1
                  have f200_c139_2 : C_139_2 (20 + 0) = some (.inr (0, [.ref (A_139_2 (24 + 0)), .int 0, .int ((-2)), .int ((-2))])) := by rw [hC_139_2]; rw [va_up_ne _ _ (by decide)]; rw [am_139_2_14]; exact f200_c146_1
                  have f240_c139_2 : C_139_2 (24 + 0) = some (.inr (3, [.ref (A_139_2 (28 + 0)), .int 0])) := by rw [hC_139_2]; rw [va_up_ne _ _ (by decide)]; rw [am_139_2_15]; exact f240_c146_1
                  have f280_c139_2 : C_139_2 (28 + 0) = some (.inl (E.2.1 4, 11, .inr (.inr (.inr (.inr (fun _ => none)))))) := by rw [hC_139_2]; rw [va_up_ne _ _ (by decide)]; exact f280_c146_1
                  have f201_c139_2 : C_139_2 (20 + 1) = some (.inr (0, [.ref (A_139_2 (24 + 1)), .int 0, .int ((-2)), .int ((-2))])) := by rw [hC_139_2]; rw [va_up_ne _ _ (by decide)]; rw [am_139_2_16]; exact f201_c146_1
                  have f241_c139_2 : C_139_2 (24 + 1) = some (.inr (3, [.ref (A_139_2 (28 + 1)), .int 0])) := by rw [hC_139_2]; rw [va_up_ne _ _ (by decide)]; rw [am_139_2_17]; exact f241_c146_1
                  have f281_c139_2 : C_139_2 (28 + 1) = some (.inl (E.2.1 4, 11, .inr (.inr (.inr (.inr (fun _ => none)))))) := by rw [hC_139_2]; rw [va_up_ne _ _ (by decide)]; exact f281_c146_1
                  have f202_c139_2 : C_139_2 (20 + 2) = some (.inr (0, [.ref (A_139_2 (24 + 2)), .int 0, .int ((-2)), .int ((-2))])) := by rw [hC_139_2]; rw [va_up_ne _ _ (by decide)]; rw [am_139_2_18]; exact f202_c146_1
                  have f242_c139_2 : C_139_2 (24 + 2) = some (.inr (3, [.ref (A_139_2 (28 + 2)), .int 0])) := by rw [hC_139_2]; rw [va_up_ne _ _ (by decide)]; rw [am_139_2_19]; exact f242_c146_1
                  have f282_c139_2 : C_139_2 (28 + 2) = some (.inl (E.2.1 4, 11, .inr (.inr (.inr (.inr (fun _ => none)))))) := by rw [hC_139_2]; rw [va_up_ne _ _ (by decide)]; exact f282_c146_1
                  have f203_c139_2 : C_139_2 (20 + 3) = some (.inr (0, [.ref (A_139_2 (24 + 3)), .int 0, .int ((-2)), .int ((-2))])) := by rw [hC_139_2]; rw [va_up_ne _ _ (by decide)]; rw [am_139_2_20]; exact f203_c146_1
                  have f243_c139_2 : C_139_2 (24 + 3) = some (.inr (3, [.ref (A_139_2 (28 + 3)), .int 0])) := by rw [hC_139_2]; rw [va_up_ne _ _ (by decide)]; rw [am_139_2_21]; exact f243_c146_1
                  have f283_c139_2 : C_139_2 (28 + 3) = some (.inl (E.2.1 4, 11, .inr (.inr (.inr (.inr (fun _ => none)))))) := by rw [hC_139_2]; rw [va_up_ne _ _ (by decide)]; exact f283_c146_1
                  have f320_c139_2 : C_139_2 (32 + 0) = some (.inr (1, [.ref (A_139_2 (36 + 0))])) := by rw [hC_139_2]; rw [va_up_ne _ _ (by decide)]; rw [am_139_2_22]; exact f320_c146_1
                  have f360_c139_2 : C_139_2 (36 + 0) = some (.inr (3, [.ref (A_139_2 (40 + 0)), .int 0])) := by rw [hC_139_2]; rw [va_up_ne _ _ (by decide)]; rw [am_139_2_23]; exact f360_c146_1
                  have f400_c139_2 : C_139_2 (40 + 0) = some (.inl (E.2.1 4, 60, .inr (.inr (.inr (.inr (fun _ => none)))))) := by rw [hC_139_2]; rw [va_up_ne _ _ (by decide)]; exact f400_c146_1
                  have f321_c139_2 : C_139_2 (32 + 1) = some (.inr (1, [.ref (A_139_2 (36 + 1))])) := by rw [hC_139_2]; rw [va_up_ne _ _ (by decide)]; rw [am_139_2_24]; exact f321_c146_1
                  have f361_c139_2 : C_139_2 (36 + 1) = some (.inr (3, [.ref (A_139_2 (40 + 1)), .int 0])) := by rw [hC_139_2]; rw [va_up_ne _ _ (by decide)]; rw [am_139_2_25]; exact f361_c146_1
                  have f401_c139_2 : C_139_2 (40 + 1) = some (.inl (E.2.1 4, 60, .inr (.inr (.inr (.inr (fun _ => none)))))) := by rw [hC_139_2]; rw [va_up_ne _ _ (by decide)]; exact f401_c146_1
                  have f322_c139_2 : C_139_2 (32 + 2) = some (.inr (1, [.null])) := by rw [hC_139_2]; exact va_up_self _ _ _
                  have hl : lv_has ls 2 [(1, .int 2), (0, .ref (A_139_2 0))] := by rw [am_139_2_0]; exact hl
                  refine W.eq (g2 := F0 m 142 ls [.ref (A_139_2 (32 + 2)), .int 2, .ref (A_139_2 6)]) (by rw [← an_139_2, am_139_2_1]) ?_
                  clear am_139_2_0 am_139_2_1 am_139_2_2 am_139_2_3 am_139_2_4 am_139_2_5 am_139_2_6 am_139_2_7 am_139_2_8 am_139_2_9 am_139_2_10 am_139_2_11 am_139_2_12 am_139_2_13 am_139_2_14 am_139_2_15 am_139_2_16 am_139_2_17 am_139_2_18 am_139_2_19 am_139_2_20 am_139_2_21 am_139_2_22 am_139_2_23 am_139_2_24 am_139_2_25 an_139_2
                  refine lv_dup hx hb dX7_init_142 rfl ?_
                  refine wg_cv hS (wg_rIN (As := []) (rest := [.ref (A_139_2 (32 + 2)), .int 2, .ref (A_139_2 6)]) F hP hS (c_X1_init l E A_139_2 C_139_2 2 (by decide) f322_c139_2) ok_X1_init nb_130 rfl rfl ⟨Nat.le_of_ble_eq_true rfl, Nat.le_of_ble_eq_true rfl⟩ rfl hl.1 rfl (Nat.le_of_ble_eq_true rfl) dX7_init_143 ⟨Nat.le_of_ble_eq_true rfl, Nat.le_of_ble_eq_true rfl⟩) (fun A_143_2 C_143_2 H locs w_143_2 hP hS => ?_)
                  obtain ⟨hAf_143_2, hfr_143_2, n0, n1, n2⟩ := w_143_2
                  have am_143_2_0 : A_143_2 0 = A_139_2 0 := hAf_143_2 0 (by decide) (by decide)
                  have am_143_2_1 : A_143_2 (32 + 2) = A_139_2 (32 + 2) := hAf_143_2 (32 + 2) (by decide) (by decide)
                  have am_143_2_2 : A_143_2 6 = A_139_2 6 := hAf_143_2 6 (by decide) (by decide)
                  have am_143_2_3 : A_143_2 1 = A_139_2 1 := hAf_143_2 1 (by decide) (by decide)
                  have am_143_2_4 : A_143_2 2 = A_139_2 2 := hAf_143_2 2 (by decide) (by decide)
                  have am_143_2_5 : A_143_2 4 = A_139_2 4 := hAf_143_2 4 (by decide) (by decide)
                  have am_143_2_6 : A_143_2 5 = A_139_2 5 := hAf_143_2 5 (by decide) (by decide)
                  have am_143_2_7 : A_143_2 7 = A_139_2 7 := hAf_143_2 7 (by decide) (by decide)
                  have am_143_2_8 : A_143_2 8 = A_139_2 8 := hAf_143_2 8 (by decide) (by decide)
                  have am_143_2_9 : A_143_2 11 = A_139_2 11 := hAf_143_2 11 (by decide) (by decide)
                  have am_143_2_10 : A_143_2 3 = A_139_2 3 := hAf_143_2 3 (by decide) (by decide)
                  have am_143_2_11 : A_143_2 9 = A_139_2 9 := hAf_143_2 9 (by decide) (by decide)
                  have am_143_2_12 : A_143_2 10 = A_139_2 10 := hAf_143_2 10 (by decide) (by decide)
                  have am_143_2_13 : A_143_2 12 = A_139_2 12 := hAf_143_2 12 (by decide) (by decide)
                  have am_143_2_14 : A_143_2 13 = A_139_2 13 := hAf_143_2 13 (by decide) (by decide)
                  have am_143_2_15 : A_143_2 (24 + 0) = A_139_2 (24 + 0) := hAf_143_2 (24 + 0) (by decide) (by decide)
                  have am_143_2_16 : A_143_2 (28 + 0) = A_139_2 (28 + 0) := hAf_143_2 (28 + 0) (by decide) (by decide)
                  have am_143_2_17 : A_143_2 (24 + 1) = A_139_2 (24 + 1) := hAf_143_2 (24 + 1) (by decide) (by decide)
                  have am_143_2_18 : A_143_2 (28 + 1) = A_139_2 (28 + 1) := hAf_143_2 (28 + 1) (by decide) (by decide)
                  have am_143_2_19 : A_143_2 (24 + 2) = A_139_2 (24 + 2) := hAf_143_2 (24 + 2) (by decide) (by decide)
                  have am_143_2_20 : A_143_2 (28 + 2) = A_139_2 (28 + 2) := hAf_143_2 (28 + 2) (by decide) (by decide)
                  have am_143_2_21 : A_143_2 (24 + 3) = A_139_2 (24 + 3) := hAf_143_2 (24 + 3) (by decide) (by decide)
                  have am_143_2_22 : A_143_2 (28 + 3) = A_139_2 (28 + 3) := hAf_143_2 (28 + 3) (by decide) (by decide)
                  have am_143_2_23 : A_143_2 (36 + 0) = A_139_2 (36 + 0) := hAf_143_2 (36 + 0) (by decide) (by decide)
                  have am_143_2_24 : A_143_2 (40 + 0) = A_139_2 (40 + 0) := hAf_143_2 (40 + 0) (by decide) (by decide)
                  have am_143_2_25 : A_143_2 (36 + 1) = A_139_2 (36 + 1) := hAf_143_2 (36 + 1) (by decide) (by decide)
                  have am_143_2_26 : A_143_2 (40 + 1) = A_139_2 (40 + 1) := hAf_143_2 (40 + 1) (by decide) (by decide)
                  have f0_c143_2 : C_143_2 0 = some (.inr (7, [.ref (A_143_2 1), .int 0, .ref (A_143_2 2), .ref (A_143_2 4), .ref (A_143_2 5), .ref (A_143_2 6), .ref (A_143_2 7), .ref (A_143_2 8), .ref (A_143_2 11)])) := by rw [hfr_143_2 0 (by decide) (by decide) (by decide)]; rw [am_143_2_3, am_143_2_4, am_143_2_5, am_143_2_6, am_143_2_2, am_143_2_7, am_143_2_8, am_143_2_9]; exact f0_c139_2
                  have f1_c143_2 : C_143_2 1 = some (.inl (E.2.1 3, 16, .inr (.inr (.inr (.inr (fun _ => none)))))) := by rw [hfr_143_2 1 (by decide) (by decide) (by decide)]; exact f1_c139_2
                  have f2_c143_2 : C_143_2 2 = some (.inr (3, [.ref (A_143_2 3), .int 0])) := by rw [hfr_143_2 2 (by decide) (by decide) (by decide)]; rw [am_143_2_10]; exact f2_c139_2
                  have f3_c143_2 : C_143_2 3 = some (.inl (E.2.1 4, 60, .inr (.inr (.inr (.inr (fun _ => none)))))) := by rw [hfr_143_2 3 (by decide) (by decide) (by decide)]; exact f3_c139_2
                  have f4_c143_2 : C_143_2 4 = some (.inl (E.2.1 0, 4, .inl (upd (upd (upd (upd (fun _ => 0) (0 : Int32).toNatClampNeg 1) (1 : Int32).toNatClampNeg 3) (2 : Int32).toNatClampNeg 50) (3 : Int32).toNatClampNeg 4))) := by rw [hfr_143_2 4 (by decide) (by decide) (by decide)]; exact f4_c139_2
                  have f5_c143_2 : C_143_2 5 = some (.inl (E.2.1 5, 4, .inr (.inr (.inr (.inr (va_up (va_up (va_up (va_up (fun _ => none) (0 : Int32).toNatClampNeg (some (A_117 (20 + 0)))) (1 : Int32).toNatClampNeg (some (A_117_1 (20 + 1)))) (2 : Int32).toNatClampNeg (some (A_117_2 (20 + 2)))) (3 : Int32).toNatClampNeg (some (A_117_3 (20 + 3))))))))) := by rw [hfr_143_2 5 (by decide) (by decide) (by decide)]; exact f5_c139_2
                  have f6_c143_2 : C_143_2 6 = some (.inl (E.2.1 6, 4, .inr (.inr (.inr (.inr (va_up (va_up (fun _ => none) (0 : Int32).toNatClampNeg (some (A_143 (32 + 0)))) (1 : Int32).toNatClampNeg (some (A_143_1 (32 + 1))))))))) := by rw [hfr_143_2 6 (by decide) (by decide) (by decide)]; exact f6_c139_2
                  have f7_c143_2 : C_143_2 7 = some (.inl (E.2.1 0, 32, .inl (fun _ => 0))) := by rw [hfr_143_2 7 (by decide) (by decide) (by decide)]; exact f7_c139_2
                  have f8_c143_2 : C_143_2 8 = some (.inr (5, [.ref (A_143_2 9), .ref (A_143_2 10)])) := by rw [hfr_143_2 8 (by decide) (by decide) (by decide)]; rw [am_143_2_11, am_143_2_12]; exact f8_c139_2
                  have f9_c143_2 : C_143_2 9 = some (.inl (E.2.1 1, 8, .inr (.inl (fun _ => 0)))) := by rw [hfr_143_2 9 (by decide) (by decide) (by decide)]; exact f9_c139_2
                  have f10_c143_2 : C_143_2 10 = some (.inl (E.2.1 1, 16, .inr (.inl nd))) := by rw [hfr_143_2 10 (by decide) (by decide) (by decide)]; exact f10_c139_2
                  have f11_c143_2 : C_143_2 11 = some (.inr (4, [.int 0, .int 0, .long 0, .long 0, .ref (A_143_2 12), .int 0, .ref (A_143_2 13)])) := by rw [hfr_143_2 11 (by decide) (by decide) (by decide)]; rw [am_143_2_13, am_143_2_14]; exact f11_c139_2
                  have f12_c143_2 : C_143_2 12 = some (.inl (E.2.1 1, 4, .inr (.inl (fun _ => 0)))) := by rw [hfr_143_2 12 (by decide) (by decide) (by decide)]; exact f12_c139_2
                  have f13_c143_2 : C_143_2 13 = some (.inl (E.2.1 1, 16, .inr (.inl (fun _ => 0)))) := by rw [hfr_143_2 13 (by decide) (by decide) (by decide)]; exact f13_c139_2
                  have f200_c143_2 : C_143_2 (20 + 0) = some (.inr (0, [.ref (A_143_2 (24 + 0)), .int 0, .int ((-2)), .int ((-2))])) := by rw [hfr_143_2 (20 + 0) (by decide) (by decide) (by decide)]; rw [am_143_2_15]; exact f200_c139_2
                  have f240_c143_2 : C_143_2 (24 + 0) = some (.inr (3, [.ref (A_143_2 (28 + 0)), .int 0])) := by rw [hfr_143_2 (24 + 0) (by decide) (by decide) (by decide)]; rw [am_143_2_16]; exact f240_c139_2
                  have f280_c143_2 : C_143_2 (28 + 0) = some (.inl (E.2.1 4, 11, .inr (.inr (.inr (.inr (fun _ => none)))))) := by rw [hfr_143_2 (28 + 0) (by decide) (by decide) (by decide)]; exact f280_c139_2
                  have f201_c143_2 : C_143_2 (20 + 1) = some (.inr (0, [.ref (A_143_2 (24 + 1)), .int 0, .int ((-2)), .int ((-2))])) := by rw [hfr_143_2 (20 + 1) (by decide) (by decide) (by decide)]; rw [am_143_2_17]; exact f201_c139_2
                  have f241_c143_2 : C_143_2 (24 + 1) = some (.inr (3, [.ref (A_143_2 (28 + 1)), .int 0])) := by rw [hfr_143_2 (24 + 1) (by decide) (by decide) (by decide)]; rw [am_143_2_18]; exact f241_c139_2
                  have f281_c143_2 : C_143_2 (28 + 1) = some (.inl (E.2.1 4, 11, .inr (.inr (.inr (.inr (fun _ => none)))))) := by rw [hfr_143_2 (28 + 1) (by decide) (by decide) (by decide)]; exact f281_c139_2
                  have f202_c143_2 : C_143_2 (20 + 2) = some (.inr (0, [.ref (A_143_2 (24 + 2)), .int 0, .int ((-2)), .int ((-2))])) := by rw [hfr_143_2 (20 + 2) (by decide) (by decide) (by decide)]; rw [am_143_2_19]; exact f202_c139_2
                  have f242_c143_2 : C_143_2 (24 + 2) = some (.inr (3, [.ref (A_143_2 (28 + 2)), .int 0])) := by rw [hfr_143_2 (24 + 2) (by decide) (by decide) (by decide)]; rw [am_143_2_20]; exact f242_c139_2
                  have f282_c143_2 : C_143_2 (28 + 2) = some (.inl (E.2.1 4, 11, .inr (.inr (.inr (.inr (fun _ => none)))))) := by rw [hfr_143_2 (28 + 2) (by decide) (by decide) (by decide)]; exact f282_c139_2
                  have f203_c143_2 : C_143_2 (20 + 3) = some (.inr (0, [.ref (A_143_2 (24 + 3)), .int 0, .int ((-2)), .int ((-2))])) := by rw [hfr_143_2 (20 + 3) (by decide) (by decide) (by decide)]; rw [am_143_2_21]; exact f203_c139_2
                  have f243_c143_2 : C_143_2 (24 + 3) = some (.inr (3, [.ref (A_143_2 (28 + 3)), .int 0])) := by rw [hfr_143_2 (24 + 3) (by decide) (by decide) (by decide)]; rw [am_143_2_22]; exact f243_c139_2
                  have f283_c143_2 : C_143_2 (28 + 3) = some (.inl (E.2.1 4, 11, .inr (.inr (.inr (.inr (fun _ => none)))))) := by rw [hfr_143_2 (28 + 3) (by decide) (by decide) (by decide)]; exact f283_c139_2
                  have f320_c143_2 : C_143_2 (32 + 0) = some (.inr (1, [.ref (A_143_2 (36 + 0))])) := by rw [hfr_143_2 (32 + 0) (by decide) (by decide) (by decide)]; rw [am_143_2_23]; exact f320_c139_2
                  have f360_c143_2 : C_143_2 (36 + 0) = some (.inr (3, [.ref (A_143_2 (40 + 0)), .int 0])) := by rw [hfr_143_2 (36 + 0) (by decide) (by decide) (by decide)]; rw [am_143_2_24]; exact f360_c139_2
                  have f400_c143_2 : C_143_2 (40 + 0) = some (.inl (E.2.1 4, 60, .inr (.inr (.inr (.inr (fun _ => none)))))) := by rw [hfr_143_2 (40 + 0) (by decide) (by decide) (by decide)]; exact f400_c139_2
                  have f321_c143_2 : C_143_2 (32 + 1) = some (.inr (1, [.ref (A_143_2 (36 + 1))])) := by rw [hfr_143_2 (32 + 1) (by decide) (by decide) (by decide)]; rw [am_143_2_25]; exact f321_c139_2
                  have f361_c143_2 : C_143_2 (36 + 1) = some (.inr (3, [.ref (A_143_2 (40 + 1)), .int 0])) := by rw [hfr_143_2 (36 + 1) (by decide) (by decide) (by decide)]; rw [am_143_2_26]; exact f361_c139_2
                  have f401_c143_2 : C_143_2 (40 + 1) = some (.inl (E.2.1 4, 60, .inr (.inr (.inr (.inr (fun _ => none)))))) := by rw [hfr_143_2 (40 + 1) (by decide) (by decide) (by decide)]; exact f401_c139_2
                  have f322_c143_2 : C_143_2 (32 + 2) = some (.inr (1, [.ref (A_143_2 (36 + 2))])) := n0
                  have f362_c143_2 : C_143_2 (36 + 2) = some (.inr (3, [.ref (A_143_2 (40 + 2)), .int 0])) := n1
                  have f402_c143_2 : C_143_2 (40 + 2) = some (.inl (E.2.1 4, 60, .inr (.inr (.inr (.inr (fun _ => none)))))) := n2
                  have hl : lv_has ls 2 [(1, .int 2), (0, .ref (A_143_2 0))] := by rw [am_143_2_0]; exact hl
                  refine W.eq (g2 := F0 m 146 ls [.ref (A_143_2 (32 + 2)), .int 2, .ref (A_143_2 6)]) (by rw [am_143_2_1, am_143_2_2]) ?_
                  clear am_143_2_0 am_143_2_1 am_143_2_2 am_143_2_3 am_143_2_4 am_143_2_5 am_143_2_6 am_143_2_7 am_143_2_8 am_143_2_9 am_143_2_10 am_143_2_11 am_143_2_12 am_143_2_13 am_143_2_14 am_143_2_15 am_143_2_16 am_143_2_17 am_143_2_18 am_143_2_19 am_143_2_20 am_143_2_21 am_143_2_22 am_143_2_23 am_143_2_24 am_143_2_25 am_143_2_26
                  refine wg_qst F hP hS 6 rfl f6_c143_2 f322_c143_2 rfl (vp_in_nI (n := 2) (by decide) (by decide)) dX7_init_146 (fun H locs hP hS => ?_)
                  obtain ⟨C_146_2, hC_146_2⟩ : ∃ z : wg_C, z = va_up C_143_2 6 (some (.inl (E.2.1 6, 4, .inr (.inr (.inr (.inr (va_up (va_up (va_up (fun _ => none) (0 : Int32).toNatClampNeg (some (A_143 (32 + 0)))) (1 : Int32).toNatClampNeg (some (A_143_1 (32 + 1)))) (2 : Int32).toNatClampNeg (some (A_143_2 (32 + 2)))))))))) := ⟨_, rfl⟩
                  have hP : wg_P E A_143_2 C_146_2 H := by rw [hC_146_2]; exact hP
                  have f0_c146_2 : C_146_2 0 = some (.inr (7, [.ref (A_143_2 1), .int 0, .ref (A_143_2 2), .ref (A_143_2 4), .ref (A_143_2 5), .ref (A_143_2 6), .ref (A_143_2 7), .ref (A_143_2 8), .ref (A_143_2 11)])) := by rw [hC_146_2]; rw [va_up_ne _ _ (by decide)]; exact f0_c143_2
                  have f1_c146_2 : C_146_2 1 = some (.inl (E.2.1 3, 16, .inr (.inr (.inr (.inr (fun _ => none)))))) := by rw [hC_146_2]; rw [va_up_ne _ _ (by decide)]; exact f1_c143_2
                  have f2_c146_2 : C_146_2 2 = some (.inr (3, [.ref (A_143_2 3), .int 0])) := by rw [hC_146_2]; rw [va_up_ne _ _ (by decide)]; exact f2_c143_2
                  have f3_c146_2 : C_146_2 3 = some (.inl (E.2.1 4, 60, .inr (.inr (.inr (.inr (fun _ => none)))))) := by rw [hC_146_2]; rw [va_up_ne _ _ (by decide)]; exact f3_c143_2
                  have f4_c146_2 : C_146_2 4 = some (.inl (E.2.1 0, 4, .inl (upd (upd (upd (upd (fun _ => 0) (0 : Int32).toNatClampNeg 1) (1 : Int32).toNatClampNeg 3) (2 : Int32).toNatClampNeg 50) (3 : Int32).toNatClampNeg 4))) := by rw [hC_146_2]; rw [va_up_ne _ _ (by decide)]; exact f4_c143_2
                  have f5_c146_2 : C_146_2 5 = some (.inl (E.2.1 5, 4, .inr (.inr (.inr (.inr (va_up (va_up (va_up (va_up (fun _ => none) (0 : Int32).toNatClampNeg (some (A_117 (20 + 0)))) (1 : Int32).toNatClampNeg (some (A_117_1 (20 + 1)))) (2 : Int32).toNatClampNeg (some (A_117_2 (20 + 2)))) (3 : Int32).toNatClampNeg (some (A_117_3 (20 + 3))))))))) := by rw [hC_146_2]; rw [va_up_ne _ _ (by decide)]; exact f5_c143_2
                  have f6_c146_2 : C_146_2 6 = some (.inl (E.2.1 6, 4, .inr (.inr (.inr (.inr (va_up (va_up (va_up (fun _ => none) (0 : Int32).toNatClampNeg (some (A_143 (32 + 0)))) (1 : Int32).toNatClampNeg (some (A_143_1 (32 + 1)))) (2 : Int32).toNatClampNeg (some (A_143_2 (32 + 2))))))))) := by rw [hC_146_2]; exact va_up_self _ _ _
                  have f7_c146_2 : C_146_2 7 = some (.inl (E.2.1 0, 32, .inl (fun _ => 0))) := by rw [hC_146_2]; rw [va_up_ne _ _ (by decide)]; exact f7_c143_2
                  have f8_c146_2 : C_146_2 8 = some (.inr (5, [.ref (A_143_2 9), .ref (A_143_2 10)])) := by rw [hC_146_2]; rw [va_up_ne _ _ (by decide)]; exact f8_c143_2
                  have f9_c146_2 : C_146_2 9 = some (.inl (E.2.1 1, 8, .inr (.inl (fun _ => 0)))) := by rw [hC_146_2]; rw [va_up_ne _ _ (by decide)]; exact f9_c143_2
                  have f10_c146_2 : C_146_2 10 = some (.inl (E.2.1 1, 16, .inr (.inl nd))) := by rw [hC_146_2]; rw [va_up_ne _ _ (by decide)]; exact f10_c143_2
                  have f11_c146_2 : C_146_2 11 = some (.inr (4, [.int 0, .int 0, .long 0, .long 0, .ref (A_143_2 12), .int 0, .ref (A_143_2 13)])) := by rw [hC_146_2]; rw [va_up_ne _ _ (by decide)]; exact f11_c143_2
                  have f12_c146_2 : C_146_2 12 = some (.inl (E.2.1 1, 4, .inr (.inl (fun _ => 0)))) := by rw [hC_146_2]; rw [va_up_ne _ _ (by decide)]; exact f12_c143_2
                  have f13_c146_2 : C_146_2 13 = some (.inl (E.2.1 1, 16, .inr (.inl (fun _ => 0)))) := by rw [hC_146_2]; rw [va_up_ne _ _ (by decide)]; exact f13_c143_2
                  have f200_c146_2 : C_146_2 (20 + 0) = some (.inr (0, [.ref (A_143_2 (24 + 0)), .int 0, .int ((-2)), .int ((-2))])) := by rw [hC_146_2]; rw [va_up_ne _ _ (by decide)]; exact f200_c143_2
                  have f240_c146_2 : C_146_2 (24 + 0) = some (.inr (3, [.ref (A_143_2 (28 + 0)), .int 0])) := by rw [hC_146_2]; rw [va_up_ne _ _ (by decide)]; exact f240_c143_2
                  have f280_c146_2 : C_146_2 (28 + 0) = some (.inl (E.2.1 4, 11, .inr (.inr (.inr (.inr (fun _ => none)))))) := by rw [hC_146_2]; rw [va_up_ne _ _ (by decide)]; exact f280_c143_2
                  have f201_c146_2 : C_146_2 (20 + 1) = some (.inr (0, [.ref (A_143_2 (24 + 1)), .int 0, .int ((-2)), .int ((-2))])) := by rw [hC_146_2]; rw [va_up_ne _ _ (by decide)]; exact f201_c143_2
                  have f241_c146_2 : C_146_2 (24 + 1) = some (.inr (3, [.ref (A_143_2 (28 + 1)), .int 0])) := by rw [hC_146_2]; rw [va_up_ne _ _ (by decide)]; exact f241_c143_2
                  have f281_c146_2 : C_146_2 (28 + 1) = some (.inl (E.2.1 4, 11, .inr (.inr (.inr (.inr (fun _ => none)))))) := by rw [hC_146_2]; rw [va_up_ne _ _ (by decide)]; exact f281_c143_2
                  have f202_c146_2 : C_146_2 (20 + 2) = some (.inr (0, [.ref (A_143_2 (24 + 2)), .int 0, .int ((-2)), .int ((-2))])) := by rw [hC_146_2]; rw [va_up_ne _ _ (by decide)]; exact f202_c143_2
                  have f242_c146_2 : C_146_2 (24 + 2) = some (.inr (3, [.ref (A_143_2 (28 + 2)), .int 0])) := by rw [hC_146_2]; rw [va_up_ne _ _ (by decide)]; exact f242_c143_2
                  have f282_c146_2 : C_146_2 (28 + 2) = some (.inl (E.2.1 4, 11, .inr (.inr (.inr (.inr (fun _ => none)))))) := by rw [hC_146_2]; rw [va_up_ne _ _ (by decide)]; exact f282_c143_2
                  have f203_c146_2 : C_146_2 (20 + 3) = some (.inr (0, [.ref (A_143_2 (24 + 3)), .int 0, .int ((-2)), .int ((-2))])) := by rw [hC_146_2]; rw [va_up_ne _ _ (by decide)]; exact f203_c143_2
                  have f243_c146_2 : C_146_2 (24 + 3) = some (.inr (3, [.ref (A_143_2 (28 + 3)), .int 0])) := by rw [hC_146_2]; rw [va_up_ne _ _ (by decide)]; exact f243_c143_2
                  have f283_c146_2 : C_146_2 (28 + 3) = some (.inl (E.2.1 4, 11, .inr (.inr (.inr (.inr (fun _ => none)))))) := by rw [hC_146_2]; rw [va_up_ne _ _ (by decide)]; exact f283_c143_2
                  have f320_c146_2 : C_146_2 (32 + 0) = some (.inr (1, [.ref (A_143_2 (36 + 0))])) := by rw [hC_146_2]; rw [va_up_ne _ _ (by decide)]; exact f320_c143_2
                  have f360_c146_2 : C_146_2 (36 + 0) = some (.inr (3, [.ref (A_143_2 (40 + 0)), .int 0])) := by rw [hC_146_2]; rw [va_up_ne _ _ (by decide)]; exact f360_c143_2
                  have f400_c146_2 : C_146_2 (40 + 0) = some (.inl (E.2.1 4, 60, .inr (.inr (.inr (.inr (fun _ => none)))))) := by rw [hC_146_2]; rw [va_up_ne _ _ (by decide)]; exact f400_c143_2
                  have f321_c146_2 : C_146_2 (32 + 1) = some (.inr (1, [.ref (A_143_2 (36 + 1))])) := by rw [hC_146_2]; rw [va_up_ne _ _ (by decide)]; exact f321_c143_2
                  have f361_c146_2 : C_146_2 (36 + 1) = some (.inr (3, [.ref (A_143_2 (40 + 1)), .int 0])) := by rw [hC_146_2]; rw [va_up_ne _ _ (by decide)]; exact f361_c143_2
                  have f401_c146_2 : C_146_2 (40 + 1) = some (.inl (E.2.1 4, 60, .inr (.inr (.inr (.inr (fun _ => none)))))) := by rw [hC_146_2]; rw [va_up_ne _ _ (by decide)]; exact f401_c143_2
                  have f322_c146_2 : C_146_2 (32 + 2) = some (.inr (1, [.ref (A_143_2 (36 + 2))])) := by rw [hC_146_2]; rw [va_up_ne _ _ (by decide)]; exact f322_c143_2
                  have f362_c146_2 : C_146_2 (36 + 2) = some (.inr (3, [.ref (A_143_2 (40 + 2)), .int 0])) := by rw [hC_146_2]; rw [va_up_ne _ _ (by decide)]; exact f362_c143_2
                  have f402_c146_2 : C_146_2 (40 + 2) = some (.inl (E.2.1 4, 60, .inr (.inr (.inr (.inr (fun _ => none)))))) := by rw [hC_146_2]; rw [va_up_ne _ _ (by decide)]; exact f402_c143_2
                  refine lv_iinc (v := 3) (lv' := [(1, .int 3), (0, .ref (A_143_2 0))]) hx hb dX7_init_147 hl (k := 0) rfl (by decide) (by decide) rfl (fun ls hl => ?_)
                  refine lv_goto (tgt := 129) hx hb dX7_init_150 (by decide) ?_
                  refine lv_iload_n hx hb dX7_init_129 rfl (lv_at hl 0 rfl) ?_
                  refine lv_iconst (v := 4) hx hb dX7_init_130 (by decide) ?_
                  refine lv_icmp_ge (tgt := 153) hx hb dX7_init_131 (by decide) (fun c_131 => ?_) (fun c_131 => ?_)
                  · exact absurd c_131 (by decide)
                  · refine lv_aload_n hx hb dX7_init_134 rfl (lv_at hl 1 rfl) ?_
                    refine wg_get F hP f0_c146_2 rfl iw_X7 5 (by decide) tb_168 rfl rfl dX7_init_135 ?_
                    refine lv_iload_n hx hb dX7_init_138 rfl (lv_at hl 0 rfl) ?_
                    refine wg_newF (ci := 1) F hP hS (32 + 3) [.null] rfl iw_X1 tyX1_ok tb_44 tb_129 tb_7 (fun j hj => by rcases (show j = 0 by omega) with rfl <;> rfl) (Nat.le_of_ble_eq_true rfl) (Nat.le_of_ble_eq_true rfl) dX7_init_139 (fun q_139_3 H hP hS => ?_)
                    obtain ⟨A_139_3, hA_139_3⟩ : ∃ z : Nat → Nat, z = va_up A_143_2 (32 + 3) q_139_3 := ⟨_, rfl⟩
                    obtain ⟨C_139_3, hC_139_3⟩ : ∃ z : wg_C, z = va_up C_146_2 (32 + 3) (some (.inr (1, [.null]))) := ⟨_, rfl⟩
                    have hP : wg_P E A_139_3 C_139_3 H := by rw [hA_139_3, hC_139_3]; exact hP
                    have an_139_3 : q_139_3 = A_139_3 (32 + 3) := by rw [hA_139_3]; exact (va_up_self _ _ _).symm
                    have am_139_3_0 : A_139_3 0 = A_143_2 0 := by rw [hA_139_3]; rw [va_up_ne _ _ (by decide)]
                    have am_139_3_1 : A_139_3 6 = A_143_2 6 := by rw [hA_139_3]; rw [va_up_ne _ _ (by decide)]
                    have am_139_3_2 : A_139_3 1 = A_143_2 1 := by rw [hA_139_3]; rw [va_up_ne _ _ (by decide)]
                    have am_139_3_3 : A_139_3 2 = A_143_2 2 := by rw [hA_139_3]; rw [va_up_ne _ _ (by decide)]
                    have am_139_3_4 : A_139_3 4 = A_143_2 4 := by rw [hA_139_3]; rw [va_up_ne _ _ (by decide)]
                    have am_139_3_5 : A_139_3 5 = A_143_2 5 := by rw [hA_139_3]; rw [va_up_ne _ _ (by decide)]
                    have am_139_3_6 : A_139_3 7 = A_143_2 7 := by rw [hA_139_3]; rw [va_up_ne _ _ (by decide)]
                    have am_139_3_7 : A_139_3 8 = A_143_2 8 := by rw [hA_139_3]; rw [va_up_ne _ _ (by decide)]
                    have am_139_3_8 : A_139_3 11 = A_143_2 11 := by rw [hA_139_3]; rw [va_up_ne _ _ (by decide)]
                    have am_139_3_9 : A_139_3 3 = A_143_2 3 := by rw [hA_139_3]; rw [va_up_ne _ _ (by decide)]
                    have am_139_3_10 : A_139_3 9 = A_143_2 9 := by rw [hA_139_3]; rw [va_up_ne _ _ (by decide)]
                    have am_139_3_11 : A_139_3 10 = A_143_2 10 := by rw [hA_139_3]; rw [va_up_ne _ _ (by decide)]
                    have am_139_3_12 : A_139_3 12 = A_143_2 12 := by rw [hA_139_3]; rw [va_up_ne _ _ (by decide)]
                    have am_139_3_13 : A_139_3 13 = A_143_2 13 := by rw [hA_139_3]; rw [va_up_ne _ _ (by decide)]
                    have am_139_3_14 : A_139_3 (24 + 0) = A_143_2 (24 + 0) := by rw [hA_139_3]; rw [va_up_ne _ _ (by decide)]
                    have am_139_3_15 : A_139_3 (28 + 0) = A_143_2 (28 + 0) := by rw [hA_139_3]; rw [va_up_ne _ _ (by decide)]
                    have am_139_3_16 : A_139_3 (24 + 1) = A_143_2 (24 + 1) := by rw [hA_139_3]; rw [va_up_ne _ _ (by decide)]
                    have am_139_3_17 : A_139_3 (28 + 1) = A_143_2 (28 + 1) := by rw [hA_139_3]; rw [va_up_ne _ _ (by decide)]
                    have am_139_3_18 : A_139_3 (24 + 2) = A_143_2 (24 + 2) := by rw [hA_139_3]; rw [va_up_ne _ _ (by decide)]
                    have am_139_3_19 : A_139_3 (28 + 2) = A_143_2 (28 + 2) := by rw [hA_139_3]; rw [va_up_ne _ _ (by decide)]
                    have am_139_3_20 : A_139_3 (24 + 3) = A_143_2 (24 + 3) := by rw [hA_139_3]; rw [va_up_ne _ _ (by decide)]
                    have am_139_3_21 : A_139_3 (28 + 3) = A_143_2 (28 + 3) := by rw [hA_139_3]; rw [va_up_ne _ _ (by decide)]
                    have am_139_3_22 : A_139_3 (36 + 0) = A_143_2 (36 + 0) := by rw [hA_139_3]; rw [va_up_ne _ _ (by decide)]
                    have am_139_3_23 : A_139_3 (40 + 0) = A_143_2 (40 + 0) := by rw [hA_139_3]; rw [va_up_ne _ _ (by decide)]
                    have am_139_3_24 : A_139_3 (36 + 1) = A_143_2 (36 + 1) := by rw [hA_139_3]; rw [va_up_ne _ _ (by decide)]
                    have am_139_3_25 : A_139_3 (40 + 1) = A_143_2 (40 + 1) := by rw [hA_139_3]; rw [va_up_ne _ _ (by decide)]
                    have am_139_3_26 : A_139_3 (36 + 2) = A_143_2 (36 + 2) := by rw [hA_139_3]; rw [va_up_ne _ _ (by decide)]
                    have am_139_3_27 : A_139_3 (40 + 2) = A_143_2 (40 + 2) := by rw [hA_139_3]; rw [va_up_ne _ _ (by decide)]
                    have f0_c139_3 : C_139_3 0 = some (.inr (7, [.ref (A_139_3 1), .int 0, .ref (A_139_3 2), .ref (A_139_3 4), .ref (A_139_3 5), .ref (A_139_3 6), .ref (A_139_3 7), .ref (A_139_3 8), .ref (A_139_3 11)])) := by rw [hC_139_3]; rw [va_up_ne _ _ (by decide)]; rw [am_139_3_2, am_139_3_3, am_139_3_4, am_139_3_5, am_139_3_1, am_139_3_6, am_139_3_7, am_139_3_8]; exact f0_c146_2
                    have f1_c139_3 : C_139_3 1 = some (.inl (E.2.1 3, 16, .inr (.inr (.inr (.inr (fun _ => none)))))) := by rw [hC_139_3]; rw [va_up_ne _ _ (by decide)]; exact f1_c146_2
                    have f2_c139_3 : C_139_3 2 = some (.inr (3, [.ref (A_139_3 3), .int 0])) := by rw [hC_139_3]; rw [va_up_ne _ _ (by decide)]; rw [am_139_3_9]; exact f2_c146_2
                    have f3_c139_3 : C_139_3 3 = some (.inl (E.2.1 4, 60, .inr (.inr (.inr (.inr (fun _ => none)))))) := by rw [hC_139_3]; rw [va_up_ne _ _ (by decide)]; exact f3_c146_2
                    have f4_c139_3 : C_139_3 4 = some (.inl (E.2.1 0, 4, .inl (upd (upd (upd (upd (fun _ => 0) (0 : Int32).toNatClampNeg 1) (1 : Int32).toNatClampNeg 3) (2 : Int32).toNatClampNeg 50) (3 : Int32).toNatClampNeg 4))) := by rw [hC_139_3]; rw [va_up_ne _ _ (by decide)]; exact f4_c146_2
                    have f5_c139_3 : C_139_3 5 = some (.inl (E.2.1 5, 4, .inr (.inr (.inr (.inr (va_up (va_up (va_up (va_up (fun _ => none) (0 : Int32).toNatClampNeg (some (A_117 (20 + 0)))) (1 : Int32).toNatClampNeg (some (A_117_1 (20 + 1)))) (2 : Int32).toNatClampNeg (some (A_117_2 (20 + 2)))) (3 : Int32).toNatClampNeg (some (A_117_3 (20 + 3))))))))) := by rw [hC_139_3]; rw [va_up_ne _ _ (by decide)]; exact f5_c146_2
                    have f6_c139_3 : C_139_3 6 = some (.inl (E.2.1 6, 4, .inr (.inr (.inr (.inr (va_up (va_up (va_up (fun _ => none) (0 : Int32).toNatClampNeg (some (A_143 (32 + 0)))) (1 : Int32).toNatClampNeg (some (A_143_1 (32 + 1)))) (2 : Int32).toNatClampNeg (some (A_143_2 (32 + 2))))))))) := by rw [hC_139_3]; rw [va_up_ne _ _ (by decide)]; exact f6_c146_2
                    have f7_c139_3 : C_139_3 7 = some (.inl (E.2.1 0, 32, .inl (fun _ => 0))) := by rw [hC_139_3]; rw [va_up_ne _ _ (by decide)]; exact f7_c146_2
                    have f8_c139_3 : C_139_3 8 = some (.inr (5, [.ref (A_139_3 9), .ref (A_139_3 10)])) := by rw [hC_139_3]; rw [va_up_ne _ _ (by decide)]; rw [am_139_3_10, am_139_3_11]; exact f8_c146_2
                    have f9_c139_3 : C_139_3 9 = some (.inl (E.2.1 1, 8, .inr (.inl (fun _ => 0)))) := by rw [hC_139_3]; rw [va_up_ne _ _ (by decide)]; exact f9_c146_2
                    have f10_c139_3 : C_139_3 10 = some (.inl (E.2.1 1, 16, .inr (.inl nd))) := by rw [hC_139_3]; rw [va_up_ne _ _ (by decide)]; exact f10_c146_2
                    have f11_c139_3 : C_139_3 11 = some (.inr (4, [.int 0, .int 0, .long 0, .long 0, .ref (A_139_3 12), .int 0, .ref (A_139_3 13)])) := by rw [hC_139_3]; rw [va_up_ne _ _ (by decide)]; rw [am_139_3_12, am_139_3_13]; exact f11_c146_2
                    have f12_c139_3 : C_139_3 12 = some (.inl (E.2.1 1, 4, .inr (.inl (fun _ => 0)))) := by rw [hC_139_3]; rw [va_up_ne _ _ (by decide)]; exact f12_c146_2
                    have f13_c139_3 : C_139_3 13 = some (.inl (E.2.1 1, 16, .inr (.inl (fun _ => 0)))) := by rw [hC_139_3]; rw [va_up_ne _ _ (by decide)]; exact f13_c146_2
                    have f200_c139_3 : C_139_3 (20 + 0) = some (.inr (0, [.ref (A_139_3 (24 + 0)), .int 0, .int ((-2)), .int ((-2))])) := by rw [hC_139_3]; rw [va_up_ne _ _ (by decide)]; rw [am_139_3_14]; exact f200_c146_2
                    have f240_c139_3 : C_139_3 (24 + 0) = some (.inr (3, [.ref (A_139_3 (28 + 0)), .int 0])) := by rw [hC_139_3]; rw [va_up_ne _ _ (by decide)]; rw [am_139_3_15]; exact f240_c146_2
                    have f280_c139_3 : C_139_3 (28 + 0) = some (.inl (E.2.1 4, 11, .inr (.inr (.inr (.inr (fun _ => none)))))) := by rw [hC_139_3]; rw [va_up_ne _ _ (by decide)]; exact f280_c146_2
                    have f201_c139_3 : C_139_3 (20 + 1) = some (.inr (0, [.ref (A_139_3 (24 + 1)), .int 0, .int ((-2)), .int ((-2))])) := by rw [hC_139_3]; rw [va_up_ne _ _ (by decide)]; rw [am_139_3_16]; exact f201_c146_2
                    have f241_c139_3 : C_139_3 (24 + 1) = some (.inr (3, [.ref (A_139_3 (28 + 1)), .int 0])) := by rw [hC_139_3]; rw [va_up_ne _ _ (by decide)]; rw [am_139_3_17]; exact f241_c146_2
                    have f281_c139_3 : C_139_3 (28 + 1) = some (.inl (E.2.1 4, 11, .inr (.inr (.inr (.inr (fun _ => none)))))) := by rw [hC_139_3]; rw [va_up_ne _ _ (by decide)]; exact f281_c146_2
                    have f202_c139_3 : C_139_3 (20 + 2) = some (.inr (0, [.ref (A_139_3 (24 + 2)), .int 0, .int ((-2)), .int ((-2))])) := by rw [hC_139_3]; rw [va_up_ne _ _ (by decide)]; rw [am_139_3_18]; exact f202_c146_2
                    have f242_c139_3 : C_139_3 (24 + 2) = some (.inr (3, [.ref (A_139_3 (28 + 2)), .int 0])) := by rw [hC_139_3]; rw [va_up_ne _ _ (by decide)]; rw [am_139_3_19]; exact f242_c146_2
                    have f282_c139_3 : C_139_3 (28 + 2) = some (.inl (E.2.1 4, 11, .inr (.inr (.inr (.inr (fun _ => none)))))) := by rw [hC_139_3]; rw [va_up_ne _ _ (by decide)]; exact f282_c146_2
                    have f203_c139_3 : C_139_3 (20 + 3) = some (.inr (0, [.ref (A_139_3 (24 + 3)), .int 0, .int ((-2)), .int ((-2))])) := by rw [hC_139_3]; rw [va_up_ne _ _ (by decide)]; rw [am_139_3_20]; exact f203_c146_2
                    have f243_c139_3 : C_139_3 (24 + 3) = some (.inr (3, [.ref (A_139_3 (28 + 3)), .int 0])) := by rw [hC_139_3]; rw [va_up_ne _ _ (by decide)]; rw [am_139_3_21]; exact f243_c146_2
                    have f283_c139_3 : C_139_3 (28 + 3) = some (.inl (E.2.1 4, 11, .inr (.inr (.inr (.inr (fun _ => none)))))) := by rw [hC_139_3]; rw [va_up_ne _ _ (by decide)]; exact f283_c146_2
                    have f320_c139_3 : C_139_3 (32 + 0) = some (.inr (1, [.ref (A_139_3 (36 + 0))])) := by rw [hC_139_3]; rw [va_up_ne _ _ (by decide)]; rw [am_139_3_22]; exact f320_c146_2
                    have f360_c139_3 : C_139_3 (36 + 0) = some (.inr (3, [.ref (A_139_3 (40 + 0)), .int 0])) := by rw [hC_139_3]; rw [va_up_ne _ _ (by decide)]; rw [am_139_3_23]; exact f360_c146_2
                    have f400_c139_3 : C_139_3 (40 + 0) = some (.inl (E.2.1 4, 60, .inr (.inr (.inr (.inr (fun _ => none)))))) := by rw [hC_139_3]; rw [va_up_ne _ _ (by decide)]; exact f400_c146_2
                    have f321_c139_3 : C_139_3 (32 + 1) = some (.inr (1, [.ref (A_139_3 (36 + 1))])) := by rw [hC_139_3]; rw [va_up_ne _ _ (by decide)]; rw [am_139_3_24]; exact f321_c146_2
                    have f361_c139_3 : C_139_3 (36 + 1) = some (.inr (3, [.ref (A_139_3 (40 + 1)), .int 0])) := by rw [hC_139_3]; rw [va_up_ne _ _ (by decide)]; rw [am_139_3_25]; exact f361_c146_2
                    have f401_c139_3 : C_139_3 (40 + 1) = some (.inl (E.2.1 4, 60, .inr (.inr (.inr (.inr (fun _ => none)))))) := by rw [hC_139_3]; rw [va_up_ne _ _ (by decide)]; exact f401_c146_2
                    have f322_c139_3 : C_139_3 (32 + 2) = some (.inr (1, [.ref (A_139_3 (36 + 2))])) := by rw [hC_139_3]; rw [va_up_ne _ _ (by decide)]; rw [am_139_3_26]; exact f322_c146_2
                    have f362_c139_3 : C_139_3 (36 + 2) = some (.inr (3, [.ref (A_139_3 (40 + 2)), .int 0])) := by rw [hC_139_3]; rw [va_up_ne _ _ (by decide)]; rw [am_139_3_27]; exact f362_c146_2
                    have f402_c139_3 : C_139_3 (40 + 2) = some (.inl (E.2.1 4, 60, .inr (.inr (.inr (.inr (fun _ => none)))))) := by rw [hC_139_3]; rw [va_up_ne _ _ (by decide)]; exact f402_c146_2
                    have f323_c139_3 : C_139_3 (32 + 3) = some (.inr (1, [.null])) := by rw [hC_139_3]; exact va_up_self _ _ _
                    have hl : lv_has ls 2 [(1, .int 3), (0, .ref (A_139_3 0))] := by rw [am_139_3_0]; exact hl
                    refine W.eq (g2 := F0 m 142 ls [.ref (A_139_3 (32 + 3)), .int 3, .ref (A_139_3 6)]) (by rw [← an_139_3, am_139_3_1]) ?_
                    clear am_139_3_0 am_139_3_1 am_139_3_2 am_139_3_3 am_139_3_4 am_139_3_5 am_139_3_6 am_139_3_7 am_139_3_8 am_139_3_9 am_139_3_10 am_139_3_11 am_139_3_12 am_139_3_13 am_139_3_14 am_139_3_15 am_139_3_16 am_139_3_17 am_139_3_18 am_139_3_19 am_139_3_20 am_139_3_21 am_139_3_22 am_139_3_23 am_139_3_24 am_139_3_25 am_139_3_26 am_139_3_27 an_139_3
                    refine lv_dup hx hb dX7_init_142 rfl ?_
                    refine wg_cv hS (wg_rIN (As := []) (rest := [.ref (A_139_3 (32 + 3)), .int 3, .ref (A_139_3 6)]) F hP hS (c_X1_init l E A_139_3 C_139_3 3 (by decide) f323_c139_3) ok_X1_init nb_130 rfl rfl ⟨Nat.le_of_ble_eq_true rfl, Nat.le_of_ble_eq_true rfl⟩ rfl hl.1 rfl (Nat.le_of_ble_eq_true rfl) dX7_init_143 ⟨Nat.le_of_ble_eq_true rfl, Nat.le_of_ble_eq_true rfl⟩) (fun A_143_3 C_143_3 H locs w_143_3 hP hS => ?_)
                    obtain ⟨hAf_143_3, hfr_143_3, n0, n1, n2⟩ := w_143_3
                    have am_143_3_0 : A_143_3 0 = A_139_3 0 := hAf_143_3 0 (by decide) (by decide)
                    have am_143_3_1 : A_143_3 (32 + 3) = A_139_3 (32 + 3) := hAf_143_3 (32 + 3) (by decide) (by decide)
                    have am_143_3_2 : A_143_3 6 = A_139_3 6 := hAf_143_3 6 (by decide) (by decide)
                    have am_143_3_3 : A_143_3 1 = A_139_3 1 := hAf_143_3 1 (by decide) (by decide)
                    have am_143_3_4 : A_143_3 2 = A_139_3 2 := hAf_143_3 2 (by decide) (by decide)
                    have am_143_3_5 : A_143_3 4 = A_139_3 4 := hAf_143_3 4 (by decide) (by decide)
                    have am_143_3_6 : A_143_3 5 = A_139_3 5 := hAf_143_3 5 (by decide) (by decide)
                    have am_143_3_7 : A_143_3 7 = A_139_3 7 := hAf_143_3 7 (by decide) (by decide)
                    have am_143_3_8 : A_143_3 8 = A_139_3 8 := hAf_143_3 8 (by decide) (by decide)
                    have am_143_3_9 : A_143_3 11 = A_139_3 11 := hAf_143_3 11 (by decide) (by decide)
                    have am_143_3_10 : A_143_3 3 = A_139_3 3 := hAf_143_3 3 (by decide) (by decide)
                    have am_143_3_11 : A_143_3 9 = A_139_3 9 := hAf_143_3 9 (by decide) (by decide)
                    have am_143_3_12 : A_143_3 10 = A_139_3 10 := hAf_143_3 10 (by decide) (by decide)
                    have am_143_3_13 : A_143_3 12 = A_139_3 12 := hAf_143_3 12 (by decide) (by decide)
                    have am_143_3_14 : A_143_3 13 = A_139_3 13 := hAf_143_3 13 (by decide) (by decide)
                    have am_143_3_15 : A_143_3 (24 + 0) = A_139_3 (24 + 0) := hAf_143_3 (24 + 0) (by decide) (by decide)
                    have am_143_3_16 : A_143_3 (28 + 0) = A_139_3 (28 + 0) := hAf_143_3 (28 + 0) (by decide) (by decide)
                    have am_143_3_17 : A_143_3 (24 + 1) = A_139_3 (24 + 1) := hAf_143_3 (24 + 1) (by decide) (by decide)
                    have am_143_3_18 : A_143_3 (28 + 1) = A_139_3 (28 + 1) := hAf_143_3 (28 + 1) (by decide) (by decide)
                    have am_143_3_19 : A_143_3 (24 + 2) = A_139_3 (24 + 2) := hAf_143_3 (24 + 2) (by decide) (by decide)
                    have am_143_3_20 : A_143_3 (28 + 2) = A_139_3 (28 + 2) := hAf_143_3 (28 + 2) (by decide) (by decide)
                    have am_143_3_21 : A_143_3 (24 + 3) = A_139_3 (24 + 3) := hAf_143_3 (24 + 3) (by decide) (by decide)
                    have am_143_3_22 : A_143_3 (28 + 3) = A_139_3 (28 + 3) := hAf_143_3 (28 + 3) (by decide) (by decide)
                    have am_143_3_23 : A_143_3 (36 + 0) = A_139_3 (36 + 0) := hAf_143_3 (36 + 0) (by decide) (by decide)
                    have am_143_3_24 : A_143_3 (40 + 0) = A_139_3 (40 + 0) := hAf_143_3 (40 + 0) (by decide) (by decide)
                    have am_143_3_25 : A_143_3 (36 + 1) = A_139_3 (36 + 1) := hAf_143_3 (36 + 1) (by decide) (by decide)
                    have am_143_3_26 : A_143_3 (40 + 1) = A_139_3 (40 + 1) := hAf_143_3 (40 + 1) (by decide) (by decide)
                    have am_143_3_27 : A_143_3 (36 + 2) = A_139_3 (36 + 2) := hAf_143_3 (36 + 2) (by decide) (by decide)
                    have am_143_3_28 : A_143_3 (40 + 2) = A_139_3 (40 + 2) := hAf_143_3 (40 + 2) (by decide) (by decide)
                    have f0_c143_3 : C_143_3 0 = some (.inr (7, [.ref (A_143_3 1), .int 0, .ref (A_143_3 2), .ref (A_143_3 4), .ref (A_143_3 5), .ref (A_143_3 6), .ref (A_143_3 7), .ref (A_143_3 8), .ref (A_143_3 11)])) := by rw [hfr_143_3 0 (by decide) (by decide) (by decide)]; rw [am_143_3_3, am_143_3_4, am_143_3_5, am_143_3_6, am_143_3_2, am_143_3_7, am_143_3_8, am_143_3_9]; exact f0_c139_3
                    have f1_c143_3 : C_143_3 1 = some (.inl (E.2.1 3, 16, .inr (.inr (.inr (.inr (fun _ => none)))))) := by rw [hfr_143_3 1 (by decide) (by decide) (by decide)]; exact f1_c139_3
                    have f2_c143_3 : C_143_3 2 = some (.inr (3, [.ref (A_143_3 3), .int 0])) := by rw [hfr_143_3 2 (by decide) (by decide) (by decide)]; rw [am_143_3_10]; exact f2_c139_3
                    have f3_c143_3 : C_143_3 3 = some (.inl (E.2.1 4, 60, .inr (.inr (.inr (.inr (fun _ => none)))))) := by rw [hfr_143_3 3 (by decide) (by decide) (by decide)]; exact f3_c139_3
                    have f4_c143_3 : C_143_3 4 = some (.inl (E.2.1 0, 4, .inl (upd (upd (upd (upd (fun _ => 0) (0 : Int32).toNatClampNeg 1) (1 : Int32).toNatClampNeg 3) (2 : Int32).toNatClampNeg 50) (3 : Int32).toNatClampNeg 4))) := by rw [hfr_143_3 4 (by decide) (by decide) (by decide)]; exact f4_c139_3
                    have f5_c143_3 : C_143_3 5 = some (.inl (E.2.1 5, 4, .inr (.inr (.inr (.inr (va_up (va_up (va_up (va_up (fun _ => none) (0 : Int32).toNatClampNeg (some (A_117 (20 + 0)))) (1 : Int32).toNatClampNeg (some (A_117_1 (20 + 1)))) (2 : Int32).toNatClampNeg (some (A_117_2 (20 + 2)))) (3 : Int32).toNatClampNeg (some (A_117_3 (20 + 3))))))))) := by rw [hfr_143_3 5 (by decide) (by decide) (by decide)]; exact f5_c139_3
                    have f6_c143_3 : C_143_3 6 = some (.inl (E.2.1 6, 4, .inr (.inr (.inr (.inr (va_up (va_up (va_up (fun _ => none) (0 : Int32).toNatClampNeg (some (A_143 (32 + 0)))) (1 : Int32).toNatClampNeg (some (A_143_1 (32 + 1)))) (2 : Int32).toNatClampNeg (some (A_143_2 (32 + 2))))))))) := by rw [hfr_143_3 6 (by decide) (by decide) (by decide)]; exact f6_c139_3
                    have f7_c143_3 : C_143_3 7 = some (.inl (E.2.1 0, 32, .inl (fun _ => 0))) := by rw [hfr_143_3 7 (by decide) (by decide) (by decide)]; exact f7_c139_3
                    have f8_c143_3 : C_143_3 8 = some (.inr (5, [.ref (A_143_3 9), .ref (A_143_3 10)])) := by rw [hfr_143_3 8 (by decide) (by decide) (by decide)]; rw [am_143_3_11, am_143_3_12]; exact f8_c139_3
                    have f9_c143_3 : C_143_3 9 = some (.inl (E.2.1 1, 8, .inr (.inl (fun _ => 0)))) := by rw [hfr_143_3 9 (by decide) (by decide) (by decide)]; exact f9_c139_3
                    have f10_c143_3 : C_143_3 10 = some (.inl (E.2.1 1, 16, .inr (.inl nd))) := by rw [hfr_143_3 10 (by decide) (by decide) (by decide)]; exact f10_c139_3
                    have f11_c143_3 : C_143_3 11 = some (.inr (4, [.int 0, .int 0, .long 0, .long 0, .ref (A_143_3 12), .int 0, .ref (A_143_3 13)])) := by rw [hfr_143_3 11 (by decide) (by decide) (by decide)]; rw [am_143_3_13, am_143_3_14]; exact f11_c139_3
                    have f12_c143_3 : C_143_3 12 = some (.inl (E.2.1 1, 4, .inr (.inl (fun _ => 0)))) := by rw [hfr_143_3 12 (by decide) (by decide) (by decide)]; exact f12_c139_3
                    have f13_c143_3 : C_143_3 13 = some (.inl (E.2.1 1, 16, .inr (.inl (fun _ => 0)))) := by rw [hfr_143_3 13 (by decide) (by decide) (by decide)]; exact f13_c139_3
                    have f200_c143_3 : C_143_3 (20 + 0) = some (.inr (0, [.ref (A_143_3 (24 + 0)), .int 0, .int ((-2)), .int ((-2))])) := by rw [hfr_143_3 (20 + 0) (by decide) (by decide) (by decide)]; rw [am_143_3_15]; exact f200_c139_3
                    have f240_c143_3 : C_143_3 (24 + 0) = some (.inr (3, [.ref (A_143_3 (28 + 0)), .int 0])) := by rw [hfr_143_3 (24 + 0) (by decide) (by decide) (by decide)]; rw [am_143_3_16]; exact f240_c139_3
                    have f280_c143_3 : C_143_3 (28 + 0) = some (.inl (E.2.1 4, 11, .inr (.inr (.inr (.inr (fun _ => none)))))) := by rw [hfr_143_3 (28 + 0) (by decide) (by decide) (by decide)]; exact f280_c139_3
                    have f201_c143_3 : C_143_3 (20 + 1) = some (.inr (0, [.ref (A_143_3 (24 + 1)), .int 0, .int ((-2)), .int ((-2))])) := by rw [hfr_143_3 (20 + 1) (by decide) (by decide) (by decide)]; rw [am_143_3_17]; exact f201_c139_3
                    have f241_c143_3 : C_143_3 (24 + 1) = some (.inr (3, [.ref (A_143_3 (28 + 1)), .int 0])) := by rw [hfr_143_3 (24 + 1) (by decide) (by decide) (by decide)]; rw [am_143_3_18]; exact f241_c139_3
                    have f281_c143_3 : C_143_3 (28 + 1) = some (.inl (E.2.1 4, 11, .inr (.inr (.inr (.inr (fun _ => none)))))) := by rw [hfr_143_3 (28 + 1) (by decide) (by decide) (by decide)]; exact f281_c139_3
                    have f202_c143_3 : C_143_3 (20 + 2) = some (.inr (0, [.ref (A_143_3 (24 + 2)), .int 0, .int ((-2)), .int ((-2))])) := by rw [hfr_143_3 (20 + 2) (by decide) (by decide) (by decide)]; rw [am_143_3_19]; exact f202_c139_3
                    have f242_c143_3 : C_143_3 (24 + 2) = some (.inr (3, [.ref (A_143_3 (28 + 2)), .int 0])) := by rw [hfr_143_3 (24 + 2) (by decide) (by decide) (by decide)]; rw [am_143_3_20]; exact f242_c139_3
                    have f282_c143_3 : C_143_3 (28 + 2) = some (.inl (E.2.1 4, 11, .inr (.inr (.inr (.inr (fun _ => none)))))) := by rw [hfr_143_3 (28 + 2) (by decide) (by decide) (by decide)]; exact f282_c139_3
                    have f203_c143_3 : C_143_3 (20 + 3) = some (.inr (0, [.ref (A_143_3 (24 + 3)), .int 0, .int ((-2)), .int ((-2))])) := by rw [hfr_143_3 (20 + 3) (by decide) (by decide) (by decide)]; rw [am_143_3_21]; exact f203_c139_3
                    have f243_c143_3 : C_143_3 (24 + 3) = some (.inr (3, [.ref (A_143_3 (28 + 3)), .int 0])) := by rw [hfr_143_3 (24 + 3) (by decide) (by decide) (by decide)]; rw [am_143_3_22]; exact f243_c139_3
                    have f283_c143_3 : C_143_3 (28 + 3) = some (.inl (E.2.1 4, 11, .inr (.inr (.inr (.inr (fun _ => none)))))) := by rw [hfr_143_3 (28 + 3) (by decide) (by decide) (by decide)]; exact f283_c139_3
                    have f320_c143_3 : C_143_3 (32 + 0) = some (.inr (1, [.ref (A_143_3 (36 + 0))])) := by rw [hfr_143_3 (32 + 0) (by decide) (by decide) (by decide)]; rw [am_143_3_23]; exact f320_c139_3
                    have f360_c143_3 : C_143_3 (36 + 0) = some (.inr (3, [.ref (A_143_3 (40 + 0)), .int 0])) := by rw [hfr_143_3 (36 + 0) (by decide) (by decide) (by decide)]; rw [am_143_3_24]; exact f360_c139_3
                    have f400_c143_3 : C_143_3 (40 + 0) = some (.inl (E.2.1 4, 60, .inr (.inr (.inr (.inr (fun _ => none)))))) := by rw [hfr_143_3 (40 + 0) (by decide) (by decide) (by decide)]; exact f400_c139_3
                    have f321_c143_3 : C_143_3 (32 + 1) = some (.inr (1, [.ref (A_143_3 (36 + 1))])) := by rw [hfr_143_3 (32 + 1) (by decide) (by decide) (by decide)]; rw [am_143_3_25]; exact f321_c139_3
                    have f361_c143_3 : C_143_3 (36 + 1) = some (.inr (3, [.ref (A_143_3 (40 + 1)), .int 0])) := by rw [hfr_143_3 (36 + 1) (by decide) (by decide) (by decide)]; rw [am_143_3_26]; exact f361_c139_3
                    have f401_c143_3 : C_143_3 (40 + 1) = some (.inl (E.2.1 4, 60, .inr (.inr (.inr (.inr (fun _ => none)))))) := by rw [hfr_143_3 (40 + 1) (by decide) (by decide) (by decide)]; exact f401_c139_3
                    have f322_c143_3 : C_143_3 (32 + 2) = some (.inr (1, [.ref (A_143_3 (36 + 2))])) := by rw [hfr_143_3 (32 + 2) (by decide) (by decide) (by decide)]; rw [am_143_3_27]; exact f322_c139_3
                    have f362_c143_3 : C_143_3 (36 + 2) = some (.inr (3, [.ref (A_143_3 (40 + 2)), .int 0])) := by rw [hfr_143_3 (36 + 2) (by decide) (by decide) (by decide)]; rw [am_143_3_28]; exact f362_c139_3
                    have f402_c143_3 : C_143_3 (40 + 2) = some (.inl (E.2.1 4, 60, .inr (.inr (.inr (.inr (fun _ => none)))))) := by rw [hfr_143_3 (40 + 2) (by decide) (by decide) (by decide)]; exact f402_c139_3
                    have f323_c143_3 : C_143_3 (32 + 3) = some (.inr (1, [.ref (A_143_3 (36 + 3))])) := n0
                    have f363_c143_3 : C_143_3 (36 + 3) = some (.inr (3, [.ref (A_143_3 (40 + 3)), .int 0])) := n1
                    have f403_c143_3 : C_143_3 (40 + 3) = some (.inl (E.2.1 4, 60, .inr (.inr (.inr (.inr (fun _ => none)))))) := n2
                    have hl : lv_has ls 2 [(1, .int 3), (0, .ref (A_143_3 0))] := by rw [am_143_3_0]; exact hl
                    refine W.eq (g2 := F0 m 146 ls [.ref (A_143_3 (32 + 3)), .int 3, .ref (A_143_3 6)]) (by rw [am_143_3_1, am_143_3_2]) ?_
                    clear am_143_3_0 am_143_3_1 am_143_3_2 am_143_3_3 am_143_3_4 am_143_3_5 am_143_3_6 am_143_3_7 am_143_3_8 am_143_3_9 am_143_3_10 am_143_3_11 am_143_3_12 am_143_3_13 am_143_3_14 am_143_3_15 am_143_3_16 am_143_3_17 am_143_3_18 am_143_3_19 am_143_3_20 am_143_3_21 am_143_3_22 am_143_3_23 am_143_3_24 am_143_3_25 am_143_3_26 am_143_3_27 am_143_3_28
                    refine wg_qst F hP hS 6 rfl f6_c143_3 f323_c143_3 rfl (vp_in_nI (n := 3) (by decide) (by decide)) dX7_init_146 (fun H locs hP hS => ?_)
                    obtain ⟨C_146_3, hC_146_3⟩ : ∃ z : wg_C, z = va_up C_143_3 6 (some (.inl (E.2.1 6, 4, .inr (.inr (.inr (.inr (va_up (va_up (va_up (va_up (fun _ => none) (0 : Int32).toNatClampNeg (some (A_143 (32 + 0)))) (1 : Int32).toNatClampNeg (some (A_143_1 (32 + 1)))) (2 : Int32).toNatClampNeg (some (A_143_2 (32 + 2)))) (3 : Int32).toNatClampNeg (some (A_143_3 (32 + 3)))))))))) := ⟨_, rfl⟩
                    have hP : wg_P E A_143_3 C_146_3 H := by rw [hC_146_3]; exact hP
                    have f0_c146_3 : C_146_3 0 = some (.inr (7, [.ref (A_143_3 1), .int 0, .ref (A_143_3 2), .ref (A_143_3 4), .ref (A_143_3 5), .ref (A_143_3 6), .ref (A_143_3 7), .ref (A_143_3 8), .ref (A_143_3 11)])) := by rw [hC_146_3]; rw [va_up_ne _ _ (by decide)]; exact f0_c143_3
                    have f1_c146_3 : C_146_3 1 = some (.inl (E.2.1 3, 16, .inr (.inr (.inr (.inr (fun _ => none)))))) := by rw [hC_146_3]; rw [va_up_ne _ _ (by decide)]; exact f1_c143_3
                    have f2_c146_3 : C_146_3 2 = some (.inr (3, [.ref (A_143_3 3), .int 0])) := by rw [hC_146_3]; rw [va_up_ne _ _ (by decide)]; exact f2_c143_3
                    have f3_c146_3 : C_146_3 3 = some (.inl (E.2.1 4, 60, .inr (.inr (.inr (.inr (fun _ => none)))))) := by rw [hC_146_3]; rw [va_up_ne _ _ (by decide)]; exact f3_c143_3
                    have f4_c146_3 : C_146_3 4 = some (.inl (E.2.1 0, 4, .inl (upd (upd (upd (upd (fun _ => 0) (0 : Int32).toNatClampNeg 1) (1 : Int32).toNatClampNeg 3) (2 : Int32).toNatClampNeg 50) (3 : Int32).toNatClampNeg 4))) := by rw [hC_146_3]; rw [va_up_ne _ _ (by decide)]; exact f4_c143_3
                    have f5_c146_3 : C_146_3 5 = some (.inl (E.2.1 5, 4, .inr (.inr (.inr (.inr (va_up (va_up (va_up (va_up (fun _ => none) (0 : Int32).toNatClampNeg (some (A_117 (20 + 0)))) (1 : Int32).toNatClampNeg (some (A_117_1 (20 + 1)))) (2 : Int32).toNatClampNeg (some (A_117_2 (20 + 2)))) (3 : Int32).toNatClampNeg (some (A_117_3 (20 + 3))))))))) := by rw [hC_146_3]; rw [va_up_ne _ _ (by decide)]; exact f5_c143_3
                    have f6_c146_3 : C_146_3 6 = some (.inl (E.2.1 6, 4, .inr (.inr (.inr (.inr (va_up (va_up (va_up (va_up (fun _ => none) (0 : Int32).toNatClampNeg (some (A_143 (32 + 0)))) (1 : Int32).toNatClampNeg (some (A_143_1 (32 + 1)))) (2 : Int32).toNatClampNeg (some (A_143_2 (32 + 2)))) (3 : Int32).toNatClampNeg (some (A_143_3 (32 + 3))))))))) := by rw [hC_146_3]; exact va_up_self _ _ _
                    have f7_c146_3 : C_146_3 7 = some (.inl (E.2.1 0, 32, .inl (fun _ => 0))) := by rw [hC_146_3]; rw [va_up_ne _ _ (by decide)]; exact f7_c143_3
                    have f8_c146_3 : C_146_3 8 = some (.inr (5, [.ref (A_143_3 9), .ref (A_143_3 10)])) := by rw [hC_146_3]; rw [va_up_ne _ _ (by decide)]; exact f8_c143_3
                    have f9_c146_3 : C_146_3 9 = some (.inl (E.2.1 1, 8, .inr (.inl (fun _ => 0)))) := by rw [hC_146_3]; rw [va_up_ne _ _ (by decide)]; exact f9_c143_3
                    have f10_c146_3 : C_146_3 10 = some (.inl (E.2.1 1, 16, .inr (.inl nd))) := by rw [hC_146_3]; rw [va_up_ne _ _ (by decide)]; exact f10_c143_3
                    have f11_c146_3 : C_146_3 11 = some (.inr (4, [.int 0, .int 0, .long 0, .long 0, .ref (A_143_3 12), .int 0, .ref (A_143_3 13)])) := by rw [hC_146_3]; rw [va_up_ne _ _ (by decide)]; exact f11_c143_3
                    have f12_c146_3 : C_146_3 12 = some (.inl (E.2.1 1, 4, .inr (.inl (fun _ => 0)))) := by rw [hC_146_3]; rw [va_up_ne _ _ (by decide)]; exact f12_c143_3
                    have f13_c146_3 : C_146_3 13 = some (.inl (E.2.1 1, 16, .inr (.inl (fun _ => 0)))) := by rw [hC_146_3]; rw [va_up_ne _ _ (by decide)]; exact f13_c143_3
                    have f200_c146_3 : C_146_3 (20 + 0) = some (.inr (0, [.ref (A_143_3 (24 + 0)), .int 0, .int ((-2)), .int ((-2))])) := by rw [hC_146_3]; rw [va_up_ne _ _ (by decide)]; exact f200_c143_3
                    have f240_c146_3 : C_146_3 (24 + 0) = some (.inr (3, [.ref (A_143_3 (28 + 0)), .int 0])) := by rw [hC_146_3]; rw [va_up_ne _ _ (by decide)]; exact f240_c143_3
                    have f280_c146_3 : C_146_3 (28 + 0) = some (.inl (E.2.1 4, 11, .inr (.inr (.inr (.inr (fun _ => none)))))) := by rw [hC_146_3]; rw [va_up_ne _ _ (by decide)]; exact f280_c143_3
                    have f201_c146_3 : C_146_3 (20 + 1) = some (.inr (0, [.ref (A_143_3 (24 + 1)), .int 0, .int ((-2)), .int ((-2))])) := by rw [hC_146_3]; rw [va_up_ne _ _ (by decide)]; exact f201_c143_3
                    have f241_c146_3 : C_146_3 (24 + 1) = some (.inr (3, [.ref (A_143_3 (28 + 1)), .int 0])) := by rw [hC_146_3]; rw [va_up_ne _ _ (by decide)]; exact f241_c143_3
                    have f281_c146_3 : C_146_3 (28 + 1) = some (.inl (E.2.1 4, 11, .inr (.inr (.inr (.inr (fun _ => none)))))) := by rw [hC_146_3]; rw [va_up_ne _ _ (by decide)]; exact f281_c143_3
                    have f202_c146_3 : C_146_3 (20 + 2) = some (.inr (0, [.ref (A_143_3 (24 + 2)), .int 0, .int ((-2)), .int ((-2))])) := by rw [hC_146_3]; rw [va_up_ne _ _ (by decide)]; exact f202_c143_3
                    have f242_c146_3 : C_146_3 (24 + 2) = some (.inr (3, [.ref (A_143_3 (28 + 2)), .int 0])) := by rw [hC_146_3]; rw [va_up_ne _ _ (by decide)]; exact f242_c143_3
                    have f282_c146_3 : C_146_3 (28 + 2) = some (.inl (E.2.1 4, 11, .inr (.inr (.inr (.inr (fun _ => none)))))) := by rw [hC_146_3]; rw [va_up_ne _ _ (by decide)]; exact f282_c143_3
                    have f203_c146_3 : C_146_3 (20 + 3) = some (.inr (0, [.ref (A_143_3 (24 + 3)), .int 0, .int ((-2)), .int ((-2))])) := by rw [hC_146_3]; rw [va_up_ne _ _ (by decide)]; exact f203_c143_3
                    have f243_c146_3 : C_146_3 (24 + 3) = some (.inr (3, [.ref (A_143_3 (28 + 3)), .int 0])) := by rw [hC_146_3]; rw [va_up_ne _ _ (by decide)]; exact f243_c143_3
                    have f283_c146_3 : C_146_3 (28 + 3) = some (.inl (E.2.1 4, 11, .inr (.inr (.inr (.inr (fun _ => none)))))) := by rw [hC_146_3]; rw [va_up_ne _ _ (by decide)]; exact f283_c143_3
                    have f320_c146_3 : C_146_3 (32 + 0) = some (.inr (1, [.ref (A_143_3 (36 + 0))])) := by rw [hC_146_3]; rw [va_up_ne _ _ (by decide)]; exact f320_c143_3
                    have f360_c146_3 : C_146_3 (36 + 0) = some (.inr (3, [.ref (A_143_3 (40 + 0)), .int 0])) := by rw [hC_146_3]; rw [va_up_ne _ _ (by decide)]; exact f360_c143_3
                    have f400_c146_3 : C_146_3 (40 + 0) = some (.inl (E.2.1 4, 60, .inr (.inr (.inr (.inr (fun _ => none)))))) := by rw [hC_146_3]; rw [va_up_ne _ _ (by decide)]; exact f400_c143_3
                    have f321_c146_3 : C_146_3 (32 + 1) = some (.inr (1, [.ref (A_143_3 (36 + 1))])) := by rw [hC_146_3]; rw [va_up_ne _ _ (by decide)]; exact f321_c143_3
                    have f361_c146_3 : C_146_3 (36 + 1) = some (.inr (3, [.ref (A_143_3 (40 + 1)), .int 0])) := by rw [hC_146_3]; rw [va_up_ne _ _ (by decide)]; exact f361_c143_3
                    have f401_c146_3 : C_146_3 (40 + 1) = some (.inl (E.2.1 4, 60, .inr (.inr (.inr (.inr (fun _ => none)))))) := by rw [hC_146_3]; rw [va_up_ne _ _ (by decide)]; exact f401_c143_3
                    have f322_c146_3 : C_146_3 (32 + 2) = some (.inr (1, [.ref (A_143_3 (36 + 2))])) := by rw [hC_146_3]; rw [va_up_ne _ _ (by decide)]; exact f322_c143_3
                    have f362_c146_3 : C_146_3 (36 + 2) = some (.inr (3, [.ref (A_143_3 (40 + 2)), .int 0])) := by rw [hC_146_3]; rw [va_up_ne _ _ (by decide)]; exact f362_c143_3
                    have f402_c146_3 : C_146_3 (40 + 2) = some (.inl (E.2.1 4, 60, .inr (.inr (.inr (.inr (fun _ => none)))))) := by rw [hC_146_3]; rw [va_up_ne _ _ (by decide)]; exact f402_c143_3
                    have f323_c146_3 : C_146_3 (32 + 3) = some (.inr (1, [.ref (A_143_3 (36 + 3))])) := by rw [hC_146_3]; rw [va_up_ne _ _ (by decide)]; exact f323_c143_3
                    have f363_c146_3 : C_146_3 (36 + 3) = some (.inr (3, [.ref (A_143_3 (40 + 3)), .int 0])) := by rw [hC_146_3]; rw [va_up_ne _ _ (by decide)]; exact f363_c143_3
                    have f403_c146_3 : C_146_3 (40 + 3) = some (.inl (E.2.1 4, 60, .inr (.inr (.inr (.inr (fun _ => none)))))) := by rw [hC_146_3]; rw [va_up_ne _ _ (by decide)]; exact f403_c143_3
                    refine lv_iinc (v := 4) (lv' := [(1, .int 4), (0, .ref (A_143_3 0))]) hx hb dX7_init_147 hl (k := 0) rfl (by decide) (by decide) rfl (fun ls hl => ?_)
                    refine lv_goto (tgt := 129) hx hb dX7_init_150 (by decide) ?_
                    refine lv_iload_n hx hb dX7_init_129 rfl (lv_at hl 0 rfl) ?_
                    refine lv_iconst (v := 4) hx hb dX7_init_130 (by decide) ?_
                    refine lv_icmp_ge (tgt := 153) hx hb dX7_init_131 (by decide) (fun c_131 => ?_) (fun c_131 => ?_)
                    · refine lv_aload_n hx hb dX7_init_153 rfl (lv_at hl 1 rfl) ?_
                      refine wg_get F hP f0_c146_3 rfl iw_X7 8 (by decide) tb_171 rfl rfl dX7_init_154 ?_
                      refine lv_aload_n hx hb dX7_init_157 rfl (lv_at hl 1 rfl) ?_
                      refine wg_get F hP f0_c146_3 rfl iw_X7 7 (by decide) tb_170 rfl rfl dX7_init_158 ?_
                      refine lv_iconst (v := 0) hx hb dX7_init_161 (by decide) ?_
                      refine wg_topi (y := nI 0) rfl ?_
                      refine lv_iconst (v := 1) hx hb dX7_init_162 (by decide) ?_
                      refine wg_topi (y := nI 1) rfl ?_
                      refine wg_cv hS (wg_rVN (As := [.ref (A_143_3 8), .int (nI 0), .int (nI 1)]) (rest := []) F hP hS (c_X4_take l E A_143_3 C_146_3 0 1 0 0 0 0 0 (fun _ => 0) (fun _ => 0) nd (by decide) (by decide) (by decide) hnd f11_c146_3 f12_c146_3 f8_c146_3 f9_c146_3 f10_c146_3) ok_X4_take nb_140 rfl rfl ⟨Nat.le_of_ble_eq_true rfl, Nat.le_of_ble_eq_true rfl⟩ f11_c146_3 rfl rfl rfl hl.1 rfl (Nat.le_of_ble_eq_true rfl) dX7_init_163 ⟨Nat.le_of_ble_eq_true rfl, Nat.le_of_ble_eq_true rfl⟩) (fun A1 C_163 H locs w_163 hP hS => ?_)
                      obtain ⟨rfl, hfr_163, p11, p12⟩ := w_163
                      have f0_c163 : C_163 0 = some (.inr (7, [.ref (A_143_3 1), .int 0, .ref (A_143_3 2), .ref (A_143_3 4), .ref (A_143_3 5), .ref (A_143_3 6), .ref (A_143_3 7), .ref (A_143_3 8), .ref (A_143_3 11)])) := by rw [hfr_163 0 (by decide) (by decide)]; exact f0_c146_3
                      have f1_c163 : C_163 1 = some (.inl (E.2.1 3, 16, .inr (.inr (.inr (.inr (fun _ => none)))))) := by rw [hfr_163 1 (by decide) (by decide)]; exact f1_c146_3
                      have f2_c163 : C_163 2 = some (.inr (3, [.ref (A_143_3 3), .int 0])) := by rw [hfr_163 2 (by decide) (by decide)]; exact f2_c146_3
                      have f3_c163 : C_163 3 = some (.inl (E.2.1 4, 60, .inr (.inr (.inr (.inr (fun _ => none)))))) := by rw [hfr_163 3 (by decide) (by decide)]; exact f3_c146_3
                      have f4_c163 : C_163 4 = some (.inl (E.2.1 0, 4, .inl (upd (upd (upd (upd (fun _ => 0) (0 : Int32).toNatClampNeg 1) (1 : Int32).toNatClampNeg 3) (2 : Int32).toNatClampNeg 50) (3 : Int32).toNatClampNeg 4))) := by rw [hfr_163 4 (by decide) (by decide)]; exact f4_c146_3
                      have f5_c163 : C_163 5 = some (.inl (E.2.1 5, 4, .inr (.inr (.inr (.inr (va_up (va_up (va_up (va_up (fun _ => none) (0 : Int32).toNatClampNeg (some (A_117 (20 + 0)))) (1 : Int32).toNatClampNeg (some (A_117_1 (20 + 1)))) (2 : Int32).toNatClampNeg (some (A_117_2 (20 + 2)))) (3 : Int32).toNatClampNeg (some (A_117_3 (20 + 3))))))))) := by rw [hfr_163 5 (by decide) (by decide)]; exact f5_c146_3
                      have f6_c163 : C_163 6 = some (.inl (E.2.1 6, 4, .inr (.inr (.inr (.inr (va_up (va_up (va_up (va_up (fun _ => none) (0 : Int32).toNatClampNeg (some (A_143 (32 + 0)))) (1 : Int32).toNatClampNeg (some (A_143_1 (32 + 1)))) (2 : Int32).toNatClampNeg (some (A_143_2 (32 + 2)))) (3 : Int32).toNatClampNeg (some (A_143_3 (32 + 3))))))))) := by rw [hfr_163 6 (by decide) (by decide)]; exact f6_c146_3
                      have f7_c163 : C_163 7 = some (.inl (E.2.1 0, 32, .inl (fun _ => 0))) := by rw [hfr_163 7 (by decide) (by decide)]; exact f7_c146_3
                      have f8_c163 : C_163 8 = some (.inr (5, [.ref (A_143_3 9), .ref (A_143_3 10)])) := by rw [hfr_163 8 (by decide) (by decide)]; exact f8_c146_3
                      have f9_c163 : C_163 9 = some (.inl (E.2.1 1, 8, .inr (.inl (fun _ => 0)))) := by rw [hfr_163 9 (by decide) (by decide)]; exact f9_c146_3
                      have f10_c163 : C_163 10 = some (.inl (E.2.1 1, 16, .inr (.inl nd))) := by rw [hfr_163 10 (by decide) (by decide)]; exact f10_c146_3
                      have f13_c163 : C_163 13 = some (.inl (E.2.1 1, 16, .inr (.inl (fun _ => 0)))) := by rw [hfr_163 13 (by decide) (by decide)]; exact f13_c146_3
                      have f200_c163 : C_163 (20 + 0) = some (.inr (0, [.ref (A_143_3 (24 + 0)), .int 0, .int ((-2)), .int ((-2))])) := by rw [hfr_163 (20 + 0) (by decide) (by decide)]; exact f200_c146_3
                      have f240_c163 : C_163 (24 + 0) = some (.inr (3, [.ref (A_143_3 (28 + 0)), .int 0])) := by rw [hfr_163 (24 + 0) (by decide) (by decide)]; exact f240_c146_3
                      have f280_c163 : C_163 (28 + 0) = some (.inl (E.2.1 4, 11, .inr (.inr (.inr (.inr (fun _ => none)))))) := by rw [hfr_163 (28 + 0) (by decide) (by decide)]; exact f280_c146_3
                      have f201_c163 : C_163 (20 + 1) = some (.inr (0, [.ref (A_143_3 (24 + 1)), .int 0, .int ((-2)), .int ((-2))])) := by rw [hfr_163 (20 + 1) (by decide) (by decide)]; exact f201_c146_3
                      have f241_c163 : C_163 (24 + 1) = some (.inr (3, [.ref (A_143_3 (28 + 1)), .int 0])) := by rw [hfr_163 (24 + 1) (by decide) (by decide)]; exact f241_c146_3
                      have f281_c163 : C_163 (28 + 1) = some (.inl (E.2.1 4, 11, .inr (.inr (.inr (.inr (fun _ => none)))))) := by rw [hfr_163 (28 + 1) (by decide) (by decide)]; exact f281_c146_3
                      have f202_c163 : C_163 (20 + 2) = some (.inr (0, [.ref (A_143_3 (24 + 2)), .int 0, .int ((-2)), .int ((-2))])) := by rw [hfr_163 (20 + 2) (by decide) (by decide)]; exact f202_c146_3
                      have f242_c163 : C_163 (24 + 2) = some (.inr (3, [.ref (A_143_3 (28 + 2)), .int 0])) := by rw [hfr_163 (24 + 2) (by decide) (by decide)]; exact f242_c146_3
                      have f282_c163 : C_163 (28 + 2) = some (.inl (E.2.1 4, 11, .inr (.inr (.inr (.inr (fun _ => none)))))) := by rw [hfr_163 (28 + 2) (by decide) (by decide)]; exact f282_c146_3
                      have f203_c163 : C_163 (20 + 3) = some (.inr (0, [.ref (A_143_3 (24 + 3)), .int 0, .int ((-2)), .int ((-2))])) := by rw [hfr_163 (20 + 3) (by decide) (by decide)]; exact f203_c146_3
                      have f243_c163 : C_163 (24 + 3) = some (.inr (3, [.ref (A_143_3 (28 + 3)), .int 0])) := by rw [hfr_163 (24 + 3) (by decide) (by decide)]; exact f243_c146_3
                      have f283_c163 : C_163 (28 + 3) = some (.inl (E.2.1 4, 11, .inr (.inr (.inr (.inr (fun _ => none)))))) := by rw [hfr_163 (28 + 3) (by decide) (by decide)]; exact f283_c146_3
                      have f320_c163 : C_163 (32 + 0) = some (.inr (1, [.ref (A_143_3 (36 + 0))])) := by rw [hfr_163 (32 + 0) (by decide) (by decide)]; exact f320_c146_3
                      have f360_c163 : C_163 (36 + 0) = some (.inr (3, [.ref (A_143_3 (40 + 0)), .int 0])) := by rw [hfr_163 (36 + 0) (by decide) (by decide)]; exact f360_c146_3
                      have f400_c163 : C_163 (40 + 0) = some (.inl (E.2.1 4, 60, .inr (.inr (.inr (.inr (fun _ => none)))))) := by rw [hfr_163 (40 + 0) (by decide) (by decide)]; exact f400_c146_3
                      have f321_c163 : C_163 (32 + 1) = some (.inr (1, [.ref (A_143_3 (36 + 1))])) := by rw [hfr_163 (32 + 1) (by decide) (by decide)]; exact f321_c146_3
                      have f361_c163 : C_163 (36 + 1) = some (.inr (3, [.ref (A_143_3 (40 + 1)), .int 0])) := by rw [hfr_163 (36 + 1) (by decide) (by decide)]; exact f361_c146_3
                      have f401_c163 : C_163 (40 + 1) = some (.inl (E.2.1 4, 60, .inr (.inr (.inr (.inr (fun _ => none)))))) := by rw [hfr_163 (40 + 1) (by decide) (by decide)]; exact f401_c146_3
                      have f322_c163 : C_163 (32 + 2) = some (.inr (1, [.ref (A_143_3 (36 + 2))])) := by rw [hfr_163 (32 + 2) (by decide) (by decide)]; exact f322_c146_3
                      have f362_c163 : C_163 (36 + 2) = some (.inr (3, [.ref (A_143_3 (40 + 2)), .int 0])) := by rw [hfr_163 (36 + 2) (by decide) (by decide)]; exact f362_c146_3
                      have f402_c163 : C_163 (40 + 2) = some (.inl (E.2.1 4, 60, .inr (.inr (.inr (.inr (fun _ => none)))))) := by rw [hfr_163 (40 + 2) (by decide) (by decide)]; exact f402_c146_3
                      have f323_c163 : C_163 (32 + 3) = some (.inr (1, [.ref (A_143_3 (36 + 3))])) := by rw [hfr_163 (32 + 3) (by decide) (by decide)]; exact f323_c146_3
                      have f363_c163 : C_163 (36 + 3) = some (.inr (3, [.ref (A_143_3 (40 + 3)), .int 0])) := by rw [hfr_163 (36 + 3) (by decide) (by decide)]; exact f363_c146_3
                      have f403_c163 : C_163 (40 + 3) = some (.inl (E.2.1 4, 60, .inr (.inr (.inr (.inr (fun _ => none)))))) := by rw [hfr_163 (40 + 3) (by decide) (by decide)]; exact f403_c146_3
                      refine W.widen (k := 40) (n := 1000) (Nat.le_of_ble_eq_true rfl) (Nat.le_of_ble_eq_true rfl) ?_
                      exact wg_vret F hP hS hr hlk (⟨fun q hq => by rw [hAf_143_3 q (lc_big0 hq (by decide)) (lc_big0 hq (by decide)), hA_139_3, va_up_ne _ _ (lc_big0 hq (by decide)), hAf_143_2 q (lc_big0 hq (by decide)) (lc_big0 hq (by decide)), hA_139_2, va_up_ne _ _ (lc_big0 hq (by decide)), hAf_143_1 q (lc_big0 hq (by decide)) (lc_big0 hq (by decide)), hA_139_1, va_up_ne _ _ (lc_big0 hq (by decide)), hAf_143 q (lc_big0 hq (by decide)) (lc_big0 hq (by decide)), hA_139, va_up_ne _ _ (lc_big0 hq (by decide)), hAf_117_3 q (lc_big0 hq (by decide)) (lc_big0 hq (by decide)), hA_113_3, va_up_ne _ _ (lc_big0 hq (by decide)), hAf_117_2 q (lc_big0 hq (by decide)) (lc_big0 hq (by decide)), hA_113_2, va_up_ne _ _ (lc_big0 hq (by decide)), hAf_117_1 q (lc_big0 hq (by decide)) (lc_big0 hq (by decide)), hA_113_1, va_up_ne _ _ (lc_big0 hq (by decide)), hAf_117 q (lc_big0 hq (by decide)) (lc_big0 hq (by decide)), hA_113, va_up_ne _ _ (lc_big0 hq (by decide)), hAf_95 q (lc_big0 hq (by decide)) (lc_big0 hq (by decide)), hA_91, va_up_ne _ _ (lc_big0 hq (by decide)), hAf_84 q (lc_big0 hq (by decide)) (lc_big0 hq (by decide)), hA_80, va_up_ne _ _ (lc_big0 hq (by decide)), hA_74, va_up_ne _ _ (lc_big0 hq (by decide)), hA_65, va_up_ne _ _ (lc_big0 hq (by decide)), hA_57, va_up_ne _ _ (lc_big0 hq (by decide)), hA_33, va_up_ne _ _ (lc_big0 hq (by decide)), hAf_25 q (lc_big0 hq (by decide)), hA_19, va_up_ne _ _ (lc_big0 hq (by decide)), hA_7, va_up_ne _ _ (lc_big0 hq (by decide))], fun q hq => by rw [hfr_163 q (lc_big hq (by decide)) (lc_big hq (by decide)), hC_146_3, va_up_ne _ _ (lc_big hq (by decide)), hfr_143_3 q (lc_big hq (by decide)) (lc_big hq (by decide)) (lc_big hq (by decide)), hC_139_3, va_up_ne _ _ (lc_big hq (by decide)), hC_146_2, va_up_ne _ _ (lc_big hq (by decide)), hfr_143_2 q (lc_big hq (by decide)) (lc_big hq (by decide)) (lc_big hq (by decide)), hC_139_2, va_up_ne _ _ (lc_big hq (by decide)), hC_146_1, va_up_ne _ _ (lc_big hq (by decide)), hfr_143_1 q (lc_big hq (by decide)) (lc_big hq (by decide)) (lc_big hq (by decide)), hC_139_1, va_up_ne _ _ (lc_big hq (by decide)), hC_146, va_up_ne _ _ (lc_big hq (by decide)), hfr_143 q (lc_big hq (by decide)) (lc_big hq (by decide)) (lc_big hq (by decide)), hC_139, va_up_ne _ _ (lc_big hq (by decide)), hC_120_3, va_up_ne _ _ (lc_big hq (by decide)), hfr_117_3 q (lc_big hq (by decide)) (lc_big hq (by decide)) (lc_big hq (by decide)), hC_113_3, va_up_ne _ _ (lc_big hq (by decide)), hC_120_2, va_up_ne _ _ (lc_big hq (by decide)), hfr_117_2 q (lc_big hq (by decide)) (lc_big hq (by decide)) (lc_big hq (by decide)), hC_113_2, va_up_ne _ _ (lc_big hq (by decide)), hC_120_1, va_up_ne _ _ (lc_big hq (by decide)), hfr_117_1 q (lc_big hq (by decide)) (lc_big hq (by decide)) (lc_big hq (by decide)), hC_113_1, va_up_ne _ _ (lc_big hq (by decide)), hC_120, va_up_ne _ _ (lc_big hq (by decide)), hfr_117 q (lc_big hq (by decide)) (lc_big hq (by decide)) (lc_big hq (by decide)), hC_113, va_up_ne _ _ (lc_big hq (by decide)), hC_98, va_up_ne _ _ (lc_big hq (by decide)), hfr_95 q (lc_big hq (by decide)) (lc_big hq (by decide)) (lc_big hq (by decide)), hC_91, va_up_ne _ _ (lc_big hq (by decide)), hC_87, va_up_ne _ _ (lc_big hq (by decide)), hfr_84 q (lc_big hq (by decide)) (lc_big hq (by decide)) (lc_big hq (by decide)), hC_80, va_up_ne _ _ (lc_big hq (by decide)), hC_76, va_up_ne _ _ (lc_big hq (by decide)), hC_74, va_up_ne _ _ (lc_big hq (by decide)), hC_68, va_up_ne _ _ (lc_big hq (by decide)), hC_65, va_up_ne _ _ (lc_big hq (by decide)), hC_60, va_up_ne _ _ (lc_big hq (by decide)), hC_57, va_up_ne _ _ (lc_big hq (by decide)), hC_52, va_up_ne _ _ (lc_big hq (by decide)), hC_51, va_up_ne _ _ (lc_big hq (by decide)), hC_47, va_up_ne _ _ (lc_big hq (by decide)), hC_42, va_up_ne _ _ (lc_big hq (by decide)), hC_38, va_up_ne _ _ (lc_big hq (by decide)), hC_33, va_up_ne _ _ (lc_big hq (by decide)), hC_28, va_up_ne _ _ (lc_big hq (by decide)), hfr_25 q (lc_big hq (by decide)) (lc_big hq (by decide)), hC_19, va_up_ne _ _ (lc_big hq (by decide)), hC_15, va_up_ne _ _ (lc_big hq (by decide)), hC_10, va_up_ne _ _ (lc_big hq (by decide)), hC_7, va_up_ne _ _ (lc_big hq (by decide))], ⟨f0_c163, ⟨_, f1_c163, fun j hj => absurd hj (Nat.not_lt_zero _)⟩, f2_c163, ⟨_, f3_c163, fun j hj => absurd hj (Nat.not_lt_zero _)⟩, (by show _ = some _; rw [f4_c163]; exact congrArg (fun z => some (Sum.inl (E.2.1 0, 4, Sum.inl z))) lc_terms0), ⟨_, f5_c163, lc_four (g := fun j => A_143_3 (20 + j)) (by show some _ = some _; rw [hAf_143_3 (20 + 0) (by decide) (by decide), hA_139_3, va_up_ne _ _ (by decide), hAf_143_2 (20 + 0) (by decide) (by decide), hA_139_2, va_up_ne _ _ (by decide), hAf_143_1 (20 + 0) (by decide) (by decide), hA_139_1, va_up_ne _ _ (by decide), hAf_143 (20 + 0) (by decide) (by decide), hA_139, va_up_ne _ _ (by decide), hAf_117_3 (20 + 0) (by decide) (by decide), hA_113_3, va_up_ne _ _ (by decide), hAf_117_2 (20 + 0) (by decide) (by decide), hA_113_2, va_up_ne _ _ (by decide), hAf_117_1 (20 + 0) (by decide) (by decide), hA_113_1, va_up_ne _ _ (by decide)]) (by show some _ = some _; rw [hAf_143_3 (20 + 1) (by decide) (by decide), hA_139_3, va_up_ne _ _ (by decide), hAf_143_2 (20 + 1) (by decide) (by decide), hA_139_2, va_up_ne _ _ (by decide), hAf_143_1 (20 + 1) (by decide) (by decide), hA_139_1, va_up_ne _ _ (by decide), hAf_143 (20 + 1) (by decide) (by decide), hA_139, va_up_ne _ _ (by decide), hAf_117_3 (20 + 1) (by decide) (by decide), hA_113_3, va_up_ne _ _ (by decide), hAf_117_2 (20 + 1) (by decide) (by decide), hA_113_2, va_up_ne _ _ (by decide)]) (by show some _ = some _; rw [hAf_143_3 (20 + 2) (by decide) (by decide), hA_139_3, va_up_ne _ _ (by decide), hAf_143_2 (20 + 2) (by decide) (by decide), hA_139_2, va_up_ne _ _ (by decide), hAf_143_1 (20 + 2) (by decide) (by decide), hA_139_1, va_up_ne _ _ (by decide), hAf_143 (20 + 2) (by decide) (by decide), hA_139, va_up_ne _ _ (by decide), hAf_117_3 (20 + 2) (by decide) (by decide), hA_113_3, va_up_ne _ _ (by decide)]) (by show some _ = some _; rw [hAf_143_3 (20 + 3) (by decide) (by decide), hA_139_3, va_up_ne _ _ (by decide), hAf_143_2 (20 + 3) (by decide) (by decide), hA_139_2, va_up_ne _ _ (by decide), hAf_143_1 (20 + 3) (by decide) (by decide), hA_139_1, va_up_ne _ _ (by decide), hAf_143 (20 + 3) (by decide) (by decide), hA_139, va_up_ne _ _ (by decide)])⟩, ⟨_, f6_c163, lc_four (g := fun j => A_143_3 (32 + j)) (by show some _ = some _; rw [hAf_143_3 (32 + 0) (by decide) (by decide), hA_139_3, va_up_ne _ _ (by decide), hAf_143_2 (32 + 0) (by decide) (by decide), hA_139_2, va_up_ne _ _ (by decide), hAf_143_1 (32 + 0) (by decide) (by decide), hA_139_1, va_up_ne _ _ (by decide)]) (by show some _ = some _; rw [hAf_143_3 (32 + 1) (by decide) (by decide), hA_139_3, va_up_ne _ _ (by decide), hAf_143_2 (32 + 1) (by decide) (by decide), hA_139_2, va_up_ne _ _ (by decide)]) (by show some _ = some _; rw [hAf_143_3 (32 + 2) (by decide) (by decide), hA_139_3, va_up_ne _ _ (by decide)]) rfl⟩, ⟨_, f7_c163⟩, ⟨f8_c163, f9_c163, nd, f10_c163, hnd⟩, ⟨p11, p12, _, f13_c163⟩, lc_each ⟨_, f200_c163, f240_c163, f280_c163, fun j hj => absurd hj (Nat.not_lt_zero _)⟩ ⟨_, f201_c163, f241_c163, f281_c163, fun j hj => absurd hj (Nat.not_lt_zero _)⟩ ⟨_, f202_c163, f242_c163, f282_c163, fun j hj => absurd hj (Nat.not_lt_zero _)⟩ ⟨_, f203_c163, f243_c163, f283_c163, fun j hj => absurd hj (Nat.not_lt_zero _)⟩, lc_each ⟨_, f320_c163, f360_c163, f400_c163, fun j hj => absurd hj (Nat.not_lt_zero _)⟩ ⟨_, f321_c163, f361_c163, f401_c163, fun j hj => absurd hj (Nat.not_lt_zero _)⟩ ⟨_, f322_c163, f362_c163, f402_c163, fun j hj => absurd hj (Nat.not_lt_zero _)⟩ ⟨_, f323_c163, f363_c163, f403_c163, fun j hj => absurd hj (Nat.not_lt_zero _)⟩, ⟨fun k hk => absurd hk (Nat.not_lt_zero _), fun k hk => absurd hk (Nat.not_lt_zero _), st_0_inv.1⟩⟩⟩) dX7_init_166
                    · exact absurd c_131 (by decide)
          · exact absurd c_105 (by decide)
