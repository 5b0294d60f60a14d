set_option maxHeartbeats 4000000 in
set_option maxRecDepth 100000 in
theorem c_X6_init (l : Launch) (E : wg_E) (A : Nat → Nat) (C : wg_C) (σ a b : Nat) (num : Int32) (ha : a < 2 ^ 64) (hb64 : b < 2 ^ 64) (fσ : C σ = some (.inr (6, [.int 0, .long 0, .long 0, .int 0]))) : Met l yX6_init (wg_ws yX6_init cX6_init 8 none) (wg_rm 1 0 0) (wg_Pc E A C [.ref (A σ), .int num, .long (lN a), .long (lN b)]) (wg_Qv E (fun A1 C1 => A = A1 ∧ C1 = va_up C σ (some (.inr (6, [.int num, .long (lN a), .long (lN b), .int (nI (lc_tot a b))]))))) 0 0 (wg_A E) := by
  refine wg_met (by decide) (Nat.le_of_ble_eq_true rfl) ?_
  intro p e s m below meth c ls F hr hlk hnm hP hS hl
  have F : wg_F p m c cX6_init 8 s ([.ref (A σ), .int num, .long (lN a), .long (lN b)] : List Value).toArray "LightChecks$WeightSet" E := F
  have hx := F.1
  have hb := F.2.1
  have hml := F.2.2.1
  have hown := F.2.2.2.1
  have hts := F.2.2.2.2.1
  have hl : lv_has ls 8 [(0, .ref (A σ)), (1, .int num), (2, .long (lN a)), (4, .long (lN b))] := hl
  have hnm : meth.name = "<init>" := hnm
  refine lv_aload_n hx hb dX6_init_0 rfl (lv_at hl 0 rfl) ?_
  refine W.objInit hx hb hown (hts _ tb_205) (hts _ tb_17) (hts _ tb_18) rfl (by rw [hml]; exact hl.1) rfl dX6_init_1 (Nat.le_of_ble_eq_true rfl) (Nat.le_of_ble_eq_true rfl) ?_
  refine W.eq (g2 := F0 m 4 ls []) rfl ?_
  refine lv_aload_n hx hb dX6_init_4 rfl (lv_at hl 0 rfl) ?_
  refine lv_iload_n hx hb dX6_init_5 rfl (lv_at hl 1 rfl) ?_
  refine wg_putF F hnm hP hS fσ rfl iw_X6 tyX6_ok nmX6 0 (by decide) tb_207 rfl rfl rfl (Nat.le_of_ble_eq_true rfl) dX6_init_6 (fun H locs hP hS => ?_)
  obtain ⟨C_6, hC_6⟩ : ∃ z : wg_C, z = va_up C σ (some (.inr (6, [.int num, .long 0, .long 0, .int 0]))) := ⟨_, rfl⟩
  have hP : wg_P E A C_6 H := by rw [hC_6]; exact hP
  have fσ_c6 : C_6 σ = some (.inr (6, [.int num, .long 0, .long 0, .int 0])) := by rw [hC_6]; exact va_up_self _ _ _
  refine lv_aload_n hx hb dX6_init_9 rfl (lv_at hl 0 rfl) ?_
  refine lv_lload_n hx hb dX6_init_10 rfl (lv_at hl 2 rfl) ?_
  refine wg_putF F hnm hP hS fσ_c6 rfl iw_X6 tyX6_ok nmX6 1 (by decide) tb_210 rfl rfl rfl (Nat.le_of_ble_eq_true rfl) dX6_init_11 (fun H locs hP hS => ?_)
  obtain ⟨C_11, hC_11⟩ : ∃ z : wg_C, z = va_up C_6 σ (some (.inr (6, [.int num, .long (lN a), .long 0, .int 0]))) := ⟨_, rfl⟩
  have hP : wg_P E A C_11 H := by rw [hC_11]; exact hP
  have fσ_c11 : C_11 σ = some (.inr (6, [.int num, .long (lN a), .long 0, .int 0])) := by rw [hC_11]; exact va_up_self _ _ _
  refine lv_aload_n hx hb dX6_init_14 rfl (lv_at hl 0 rfl) ?_
  refine lv_lload hx hb dX6_init_15 (lv_at hl 3 rfl) ?_
  refine wg_putF F hnm hP hS fσ_c11 rfl iw_X6 tyX6_ok nmX6 2 (by decide) tb_211 rfl rfl rfl (Nat.le_of_ble_eq_true rfl) dX6_init_17 (fun H locs hP hS => ?_)
  obtain ⟨C_17, hC_17⟩ : ∃ z : wg_C, z = va_up C_11 σ (some (.inr (6, [.int num, .long (lN a), .long (lN b), .int 0]))) := ⟨_, rfl⟩
  have hP : wg_P E A C_17 H := by rw [hC_17]; exact hP
  have fσ_c17 : C_17 σ = some (.inr (6, [.int num, .long (lN a), .long (lN b), .int 0])) := by rw [hC_17]; exact va_up_self _ _ _
  refine lv_iconst (v := 0) hx hb dX6_init_20 (by decide) ?_
  refine lv_istore (lv' := [(6, .int 0), (0, .ref (A σ)), (1, .int num), (2, .long (lN a)), (4, .long (lN b))]) hx hb dX6_init_21 hl (by decide) rfl (fun ls hl => ?_)
  refine lv_iconst (v := 0) hx hb dX6_init_23 (by decide) ?_
  refine lv_istore (lv' := [(7, .int 0), (6, .int 0), (0, .ref (A σ)), (1, .int num), (2, .long (lN a)), (4, .long (lN b))]) hx hb dX6_init_24 hl (by decide) rfl (fun ls hl => ?_)
  have loop_26 : ∀ (fuel : Nat) (i : Nat) (y6 : Int32) (y7 : Int32), 5 - i < fuel → (i ≤ 5) → (y6 = nI (lc_two (lc_w a b) i)) → (y7 = nI i) → ∀ (H : Heap) (locs : List Loc) (ls : Array Slot), wg_P E A C_17 H → va_S (wg_A E) s.heap H locs → lv_has ls 8 [(0, .ref (A σ)), (2, .long (lN a)), (4, .long (lN b)), (6, .int y6), (7, .int y7)] → W p l e (wg_rm 1 0 0) s m ([.ref (A σ), .int num, .long (lN a), .long (lN b)] : List Value).toArray below meth c H locs 0 0 (MQ below (wg_Qv E (fun A1 C1 => A = A1 ∧ C1 = va_up C σ (some (.inr (6, [.int num, .long (lN a), .long (lN b), .int (nI (lc_tot a b))]))))) ([.ref (A σ), .int num, .long (lN a), .long (lN b)] : List Value).toArray s 0 0 (wg_A E)) (F0 m 26 ls []) := by
    intro fuel
    induction fuel with
    | zero => intro i y6 y7 hm; exact absurd hm (Nat.not_lt_zero _)
    | succ fuel ih_loop_26 =>
      intro i y6 y7 hm_loop_26 hi ey6 ey7 H locs ls hP hS hl
      subst ey7
      refine lv_iload hx hb dX6_init_26 (lv_at hl 4 rfl) ?_
      refine lv_iconst (v := 5) hx hb dX6_init_28 (by decide) ?_
      refine lv_icmp_ge (tgt := 57) hx hb dX6_init_29 (by decide) (fun c_29 => ?_) (fun c_29 => ?_)
      · have hi5 : i = 5 := by rw [show (5 : Int32) = nI 5 from rfl, nI_leI (by decide) (by omega)] at c_29; omega
        subst hi5
        refine lv_aload_n hx hb dX6_init_57 rfl (lv_at hl 0 rfl) ?_
        refine lv_iload hx hb dX6_init_58 (lv_at hl 3 rfl) ?_
        refine wg_putF F hnm hP hS fσ_c17 rfl iw_X6 tyX6_ok nmX6 3 (by decide) tb_212 rfl rfl rfl (Nat.le_of_ble_eq_true rfl) dX6_init_60 (fun H locs hP hS => ?_)
        obtain ⟨C_60, hC_60⟩ : ∃ z : wg_C, z = va_up C_17 σ (some (.inr (6, [.int num, .long (lN a), .long (lN b), .int y6]))) := ⟨_, rfl⟩
        have hP : wg_P E A C_60 H := by rw [hC_60]; exact hP
        have fσ_c60 : C_60 σ = some (.inr (6, [.int num, .long (lN a), .long (lN b), .int y6])) := by rw [hC_60]; exact va_up_self _ _ _
        exact wg_vret F hP hS hr hlk (⟨rfl, by rw [hC_60, hC_17, hC_11, hC_6, bx_uu, bx_uu, bx_uu, ey6, lc_two_5]; rfl⟩) dX6_init_63
      · have hi5 : i < 5 := by rw [show (5 : Int32) = nI 5 from rfl, nI_leI (by decide) (by omega)] at c_29; omega
        refine lv_iload hx hb dX6_init_32 (lv_at hl 3 rfl) ?_
        refine lv_lload_n hx hb dX6_init_34 rfl (lv_at hl 1 rfl) ?_
        refine lv_iload hx hb dX6_init_35 (lv_at hl 4 rfl) ?_
        refine wg_ci hS (wg_rSN (As := [.long (lN a), .int (nI i)]) (rest := [.int y6]) F hP hS (c_X7_weightIn l E A C_17 a i ha hi5) ok_X7_weightIn nb_206 rfl rfl ⟨Nat.le_of_ble_eq_true rfl, Nat.le_of_ble_eq_true rfl⟩ rfl hl.1 rfl (Nat.le_of_ble_eq_true rfl) dX6_init_37 ⟨Nat.le_of_ble_eq_true rfl, Nat.le_of_ble_eq_true rfl⟩) (fun r_37 A1 C_37 H locs w_37 hP hS => ?_)
        obtain ⟨w_37, rfl, rfl⟩ := w_37
        refine lv_lload hx hb dX6_init_40 (lv_at hl 2 rfl) ?_
        refine lv_iload hx hb dX6_init_42 (lv_at hl 4 rfl) ?_
        refine wg_ci hS (wg_rSN (As := [.long (lN b), .int (nI i)]) (rest := [.int r_37, .int y6]) F hP hS (c_X7_weightIn l E A C_17 b i hb64 hi5) ok_X7_weightIn nb_206 rfl rfl ⟨Nat.le_of_ble_eq_true rfl, Nat.le_of_ble_eq_true rfl⟩ rfl hl.1 rfl (Nat.le_of_ble_eq_true rfl) dX6_init_44 ⟨Nat.le_of_ble_eq_true rfl, Nat.le_of_ble_eq_true rfl⟩) (fun r_44 A1 C_44 H locs w_44 hP hS => ?_)
        obtain ⟨w_44, rfl, rfl⟩ := w_44
        refine lv_iadd hx hb dX6_init_47 ?_
        refine lv_iadd hx hb dX6_init_48 ?_
        refine lv_topi (fun x_49 ex_49 => ?_)
        refine lv_istore (lv' := [(6, .int x_49), (0, .ref (A σ)), (2, .long (lN a)), (4, .long (lN b)), (7, .int (nI i))]) hx hb dX6_init_49 hl (by decide) rfl (fun ls hl => ?_)
        obtain ⟨x_51, ex_51⟩ : ∃ y : Int32, y = nI i + 1 := ⟨_, rfl⟩
        refine lv_iinc (v := x_51) (lv' := [(7, .int x_51), (6, .int x_49), (0, .ref (A σ)), (2, .long (lN a)), (4, .long (lN b))]) hx hb dX6_init_51 hl (k := 4) rfl (by rw [ex_51]; rfl) (by decide) rfl (fun ls hl => ?_)
        refine lv_goto (tgt := 26) hx hb dX6_init_54 (by decide) ?_
        exact ih_loop_26 (i + 1) x_49 x_51 (by omega) (by omega) (by rw [ex_49, w_37, w_44, ey6, lc_two_s, lc_w_lo hi5, lc_w_hi, nI_add, nI_add, Nat.add_assoc]) (by rw [ex_51, nI_1]) _ _ _ hP hS (lv_sub hl [2, 3, 4, 1, 0] rfl)
  exact loop_26 _ 0 0 0 (Nat.lt_succ_self _) (by omega) rfl rfl _ _ _ hP hS (lv_sub hl [2, 4, 5, 1, 0] rfl)
set_option maxHeartbeats 4000000 in
set_option maxRecDepth 100000 in
theorem c_X2_init (l : Launch) (E : wg_E) (A : Nat → Nat) (C : wg_C) (h o x : Nat) (num ht no nx : Int32) (pa rt : Int64) (va vb vc vd ve vf : Value) (hho : h ≠ o) (hhx : h ≠ x) (fh : C h = some (.inr (2, [.int 0, .int 0, .long 0, .null, .null, .long 0, .long 0, .int 0]))) (fo : C o = some (.inr (6, [.int no, va, vb, vc]))) (fx : C x = some (.inr (6, [.int nx, vd, ve, vf]))) : Met l yX2_init (wg_ws yX2_init cX2_init 9 none) (wg_rm 2 0 0) (wg_Pc E A C [.ref (A h), .int num, .int ht, .long pa, .ref (A o), .ref (A x), .long rt]) (wg_Qv E (fun A1 C1 => A = A1 ∧ C1 = va_up C h (some (.inr (2, [.int num, .int ht, .long pa, .ref (A o), .ref (A x), .long rt, .long (lc_pair (lc_pair (lc_pair ht.toInt64 pa) (lc_pair no.toInt64 nx.toInt64)) rt), .int 0]))))) 0 0 (wg_A E) := by
  refine wg_met (by decide) (Nat.le_of_ble_eq_true rfl) ?_
  intro p e s m below meth c ls F hr hlk hnm hP hS hl
  have F : wg_F p m c cX2_init 9 s ([.ref (A h), .int num, .int ht, .long pa, .ref (A o), .ref (A x), .long rt] : List Value).toArray "LightChecks$Head" E := F
  have hx := F.1
  have hb := F.2.1
  have hml := F.2.2.1
  have hown := F.2.2.2.1
  have hts := F.2.2.2.2.1
  have hl : lv_has ls 9 [(0, .ref (A h)), (1, .int num), (2, .int ht), (3, .long pa), (5, .ref (A o)), (6, .ref (A x)), (7, .long rt)] := hl
  have hnm : meth.name = "<init>" := hnm
  refine lv_aload_n hx hb dX2_init_0 rfl (lv_at hl 0 rfl) ?_
  refine W.objInit hx hb hown (hts _ tb_244) (hts _ tb_17) (hts _ tb_18) rfl (by rw [hml]; exact hl.1) rfl dX2_init_1 (Nat.le_of_ble_eq_true rfl) (Nat.le_of_ble_eq_true rfl) ?_
  refine W.eq (g2 := F0 m 4 ls []) rfl ?_
  refine lv_aload_n hx hb dX2_init_4 rfl (lv_at hl 0 rfl) ?_
  refine lv_iconst (v := 0) hx hb dX2_init_5 (by decide) ?_
  refine wg_put F hP hS fh rfl iw_X2 tyX2_ok nmX2 7 (by decide) tb_263 rfl rfl rfl (Nat.le_of_ble_eq_true rfl) dX2_init_6 (fun H locs hP hS => ?_)
  obtain ⟨C_6, hC_6⟩ : ∃ z : wg_C, z = va_up C h (some (.inr (2, [.int 0, .int 0, .long 0, .null, .null, .long 0, .long 0, .int 0]))) := ⟨_, rfl⟩
  have hP : wg_P E A C_6 H := by rw [hC_6]; exact hP
  have fh_c6 : C_6 h = some (.inr (2, [.int 0, .int 0, .long 0, .null, .null, .long 0, .long 0, .int 0])) := by rw [hC_6]; exact va_up_self _ _ _
  have fo_c6 : C_6 o = some (.inr (6, [.int no, va, vb, vc])) := by rw [hC_6]; rw [va_up_ne _ _ (Ne.symm hho)]; exact fo
  have fx_c6 : C_6 x = some (.inr (6, [.int nx, vd, ve, vf])) := by rw [hC_6]; rw [va_up_ne _ _ (Ne.symm hhx)]; exact fx
  refine lv_aload_n hx hb dX2_init_9 rfl (lv_at hl 0 rfl) ?_
  refine lv_iload_n hx hb dX2_init_10 rfl (lv_at hl 1 rfl) ?_
  refine wg_putF F hnm hP hS fh_c6 rfl iw_X2 tyX2_ok nmX2 0 (by decide) tb_246 rfl rfl rfl (Nat.le_of_ble_eq_true rfl) dX2_init_11 (fun H locs hP hS => ?_)
  obtain ⟨C_11, hC_11⟩ : ∃ z : wg_C, z = va_up C_6 h (some (.inr (2, [.int num, .int 0, .long 0, .null, .null, .long 0, .long 0, .int 0]))) := ⟨_, rfl⟩
  have hP : wg_P E A C_11 H := by rw [hC_11]; exact hP
  have fh_c11 : C_11 h = some (.inr (2, [.int num, .int 0, .long 0, .null, .null, .long 0, .long 0, .int 0])) := by rw [hC_11]; exact va_up_self _ _ _
  have fo_c11 : C_11 o = some (.inr (6, [.int no, va, vb, vc])) := by rw [hC_11]; rw [va_up_ne _ _ (Ne.symm hho)]; exact fo_c6
  have fx_c11 : C_11 x = some (.inr (6, [.int nx, vd, ve, vf])) := by rw [hC_11]; rw [va_up_ne _ _ (Ne.symm hhx)]; exact fx_c6
  refine lv_aload_n hx hb dX2_init_14 rfl (lv_at hl 0 rfl) ?_
  refine lv_iload_n hx hb dX2_init_15 rfl (lv_at hl 2 rfl) ?_
  refine wg_putF F hnm hP hS fh_c11 rfl iw_X2 tyX2_ok nmX2 1 (by decide) tb_248 rfl rfl rfl (Nat.le_of_ble_eq_true rfl) dX2_init_16 (fun H locs hP hS => ?_)
  obtain ⟨C_16, hC_16⟩ : ∃ z : wg_C, z = va_up C_11 h (some (.inr (2, [.int num, .int ht, .long 0, .null, .null, .long 0, .long 0, .int 0]))) := ⟨_, rfl⟩
  have hP : wg_P E A C_16 H := by rw [hC_16]; exact hP
  have fh_c16 : C_16 h = some (.inr (2, [.int num, .int ht, .long 0, .null, .null, .long 0, .long 0, .int 0])) := by rw [hC_16]; exact va_up_self _ _ _
  have fo_c16 : C_16 o = some (.inr (6, [.int no, va, vb, vc])) := by rw [hC_16]; rw [va_up_ne _ _ (Ne.symm hho)]; exact fo_c11
  have fx_c16 : C_16 x = some (.inr (6, [.int nx, vd, ve, vf])) := by rw [hC_16]; rw [va_up_ne _ _ (Ne.symm hhx)]; exact fx_c11
  refine lv_aload_n hx hb dX2_init_19 rfl (lv_at hl 0 rfl) ?_
  refine lv_lload_n hx hb dX2_init_20 rfl (lv_at hl 3 rfl) ?_
  refine wg_putF F hnm hP hS fh_c16 rfl iw_X2 tyX2_ok nmX2 2 (by decide) tb_252 rfl rfl rfl (Nat.le_of_ble_eq_true rfl) dX2_init_21 (fun H locs hP hS => ?_)
  obtain ⟨C_21, hC_21⟩ : ∃ z : wg_C, z = va_up C_16 h (some (.inr (2, [.int num, .int ht, .long pa, .null, .null, .long 0, .long 0, .int 0]))) := ⟨_, rfl⟩
  have hP : wg_P E A C_21 H := by rw [hC_21]; exact hP
  have fh_c21 : C_21 h = some (.inr (2, [.int num, .int ht, .long pa, .null, .null, .long 0, .long 0, .int 0])) := by rw [hC_21]; exact va_up_self _ _ _
  have fo_c21 : C_21 o = some (.inr (6, [.int no, va, vb, vc])) := by rw [hC_21]; rw [va_up_ne _ _ (Ne.symm hho)]; exact fo_c16
  have fx_c21 : C_21 x = some (.inr (6, [.int nx, vd, ve, vf])) := by rw [hC_21]; rw [va_up_ne _ _ (Ne.symm hhx)]; exact fx_c16
  refine lv_aload_n hx hb dX2_init_24 rfl (lv_at hl 0 rfl) ?_
  refine lv_aload hx hb dX2_init_25 (lv_at hl 4 rfl) ?_
  refine wg_putF F hnm hP hS fh_c21 rfl iw_X2 tyX2_ok nmX2 3 (by decide) tb_254 rfl rfl rfl (Nat.le_of_ble_eq_true rfl) dX2_init_27 (fun H locs hP hS => ?_)
  obtain ⟨C_27, hC_27⟩ : ∃ z : wg_C, z = va_up C_21 h (some (.inr (2, [.int num, .int ht, .long pa, .ref (A o), .null, .long 0, .long 0, .int 0]))) := ⟨_, rfl⟩
  have hP : wg_P E A C_27 H := by rw [hC_27]; exact hP
  have fh_c27 : C_27 h = some (.inr (2, [.int num, .int ht, .long pa, .ref (A o), .null, .long 0, .long 0, .int 0])) := by rw [hC_27]; exact va_up_self _ _ _
  have fo_c27 : C_27 o = some (.inr (6, [.int no, va, vb, vc])) := by rw [hC_27]; rw [va_up_ne _ _ (Ne.symm hho)]; exact fo_c21
  have fx_c27 : C_27 x = some (.inr (6, [.int nx, vd, ve, vf])) := by rw [hC_27]; rw [va_up_ne _ _ (Ne.symm hhx)]; exact fx_c21
  refine lv_aload_n hx hb dX2_init_30 rfl (lv_at hl 0 rfl) ?_
  refine lv_aload hx hb dX2_init_31 (lv_at hl 5 rfl) ?_
  refine wg_putF F hnm hP hS fh_c27 rfl iw_X2 tyX2_ok nmX2 4 (by decide) tb_256 rfl rfl rfl (Nat.le_of_ble_eq_true rfl) dX2_init_33 (fun H locs hP hS => ?_)
  obtain ⟨C_33, hC_33⟩ : ∃ z : wg_C, z = va_up C_27 h (some (.inr (2, [.int num, .int ht, .long pa, .ref (A o), .ref (A x), .long 0, .long 0, .int 0]))) := ⟨_, rfl⟩
  have hP : wg_P E A C_33 H := by rw [hC_33]; exact hP
  have fh_c33 : C_33 h = some (.inr (2, [.int num, .int ht, .long pa, .ref (A o), .ref (A x), .long 0, .long 0, .int 0])) := by rw [hC_33]; exact va_up_self _ _ _
  have fo_c33 : C_33 o = some (.inr (6, [.int no, va, vb, vc])) := by rw [hC_33]; rw [va_up_ne _ _ (Ne.symm hho)]; exact fo_c27
  have fx_c33 : C_33 x = some (.inr (6, [.int nx, vd, ve, vf])) := by rw [hC_33]; rw [va_up_ne _ _ (Ne.symm hhx)]; exact fx_c27
  refine lv_aload_n hx hb dX2_init_36 rfl (lv_at hl 0 rfl) ?_
  refine lv_lload hx hb dX2_init_37 (lv_at hl 6 rfl) ?_
  refine wg_putF F hnm hP hS fh_c33 rfl iw_X2 tyX2_ok nmX2 5 (by decide) tb_258 rfl rfl rfl (Nat.le_of_ble_eq_true rfl) dX2_init_39 (fun H locs hP hS => ?_)
  obtain ⟨C_39, hC_39⟩ : ∃ z : wg_C, z = va_up C_33 h (some (.inr (2, [.int num, .int ht, .long pa, .ref (A o), .ref (A x), .long rt, .long 0, .int 0]))) := ⟨_, rfl⟩
  have hP : wg_P E A C_39 H := by rw [hC_39]; exact hP
  have fh_c39 : C_39 h = some (.inr (2, [.int num, .int ht, .long pa, .ref (A o), .ref (A x), .long rt, .long 0, .int 0])) := by rw [hC_39]; exact va_up_self _ _ _
  have fo_c39 : C_39 o = some (.inr (6, [.int no, va, vb, vc])) := by rw [hC_39]; rw [va_up_ne _ _ (Ne.symm hho)]; exact fo_c33
  have fx_c39 : C_39 x = some (.inr (6, [.int nx, vd, ve, vf])) := by rw [hC_39]; rw [va_up_ne _ _ (Ne.symm hhx)]; exact fx_c33
  refine lv_aload_n hx hb dX2_init_42 rfl (lv_at hl 0 rfl) ?_
  refine lv_iload_n hx hb dX2_init_43 rfl (lv_at hl 2 rfl) ?_
  refine lv_i2l (v := ht.toInt64) hx hb dX2_init_44 rfl ?_
  refine lv_lload_n hx hb dX2_init_45 rfl (lv_at hl 3 rfl) ?_
  refine wg_cl_ hS (wg_rSN (As := [.long ht.toInt64, .long pa]) (rest := [.ref (A h)]) F hP hS (c_X7_pair l E A C_39 _ _) ok_X7_pair nb_245 rfl rfl ⟨Nat.le_of_ble_eq_true rfl, Nat.le_of_ble_eq_true rfl⟩ rfl hl.1 rfl (Nat.le_of_ble_eq_true rfl) dX2_init_46 ⟨Nat.le_of_ble_eq_true rfl, Nat.le_of_ble_eq_true rfl⟩) (fun r_46 A1 C_46 H locs w_46 hP hS => ?_)
  obtain ⟨w_46, rfl, rfl⟩ := w_46
  refine lv_aload hx hb dX2_init_49 (lv_at hl 4 rfl) ?_
  refine wg_getN F hP fo_c39 rfl iw_X6 0 (by decide) nb_208 rfl rfl dX2_init_51 ?_
  refine lv_i2l (v := no.toInt64) hx hb dX2_init_54 rfl ?_
  refine lv_aload hx hb dX2_init_55 (lv_at hl 5 rfl) ?_
  refine wg_getN F hP fx_c39 rfl iw_X6 0 (by decide) nb_208 rfl rfl dX2_init_57 ?_
  refine lv_i2l (v := nx.toInt64) hx hb dX2_init_60 rfl ?_
  refine wg_cl_ hS (wg_rSN (As := [.long no.toInt64, .long nx.toInt64]) (rest := [.long r_46, .ref (A h)]) F hP hS (c_X7_pair l E A C_39 _ _) ok_X7_pair nb_245 rfl rfl ⟨Nat.le_of_ble_eq_true rfl, Nat.le_of_ble_eq_true rfl⟩ rfl hl.1 rfl (Nat.le_of_ble_eq_true rfl) dX2_init_61 ⟨Nat.le_of_ble_eq_true rfl, Nat.le_of_ble_eq_true rfl⟩) (fun r_61 A1 C_61 H locs w_61 hP hS => ?_)
  obtain ⟨w_61, rfl, rfl⟩ := w_61
  refine wg_cl_ hS (wg_rSN (As := [.long r_46, .long r_61]) (rest := [.ref (A h)]) F hP hS (c_X7_pair l E A C_39 _ _) ok_X7_pair nb_245 rfl rfl ⟨Nat.le_of_ble_eq_true rfl, Nat.le_of_ble_eq_true rfl⟩ rfl hl.1 rfl (Nat.le_of_ble_eq_true rfl) dX2_init_64 ⟨Nat.le_of_ble_eq_true rfl, Nat.le_of_ble_eq_true rfl⟩) (fun r_64 A1 C_64 H locs w_64 hP hS => ?_)
  obtain ⟨w_64, rfl, rfl⟩ := w_64
  refine lv_lload hx hb dX2_init_67 (lv_at hl 6 rfl) ?_
  refine wg_cl_ hS (wg_rSN (As := [.long r_64, .long rt]) (rest := [.ref (A h)]) F hP hS (c_X7_pair l E A C_39 _ _) ok_X7_pair nb_245 rfl rfl ⟨Nat.le_of_ble_eq_true rfl, Nat.le_of_ble_eq_true rfl⟩ rfl hl.1 rfl (Nat.le_of_ble_eq_true rfl) dX2_init_69 ⟨Nat.le_of_ble_eq_true rfl, Nat.le_of_ble_eq_true rfl⟩) (fun r_69 A1 C_69 H locs w_69 hP hS => ?_)
  obtain ⟨w_69, rfl, rfl⟩ := w_69
  refine wg_putF F hnm hP hS fh_c39 rfl iw_X2 tyX2_ok nmX2 6 (by decide) tb_260 rfl rfl rfl (Nat.le_of_ble_eq_true rfl) dX2_init_72 (fun H locs hP hS => ?_)
  obtain ⟨C_72, hC_72⟩ : ∃ z : wg_C, z = va_up C_39 h (some (.inr (2, [.int num, .int ht, .long pa, .ref (A o), .ref (A x), .long rt, .long r_69, .int 0]))) := ⟨_, rfl⟩
  have hP : wg_P E A C_72 H := by rw [hC_72]; exact hP
  have fh_c72 : C_72 h = some (.inr (2, [.int num, .int ht, .long pa, .ref (A o), .ref (A x), .long rt, .long r_69, .int 0])) := by rw [hC_72]; exact va_up_self _ _ _
  have fo_c72 : C_72 o = some (.inr (6, [.int no, va, vb, vc])) := by rw [hC_72]; rw [va_up_ne _ _ (Ne.symm hho)]; exact fo_c39
  have fx_c72 : C_72 x = some (.inr (6, [.int nx, vd, ve, vf])) := by rw [hC_72]; rw [va_up_ne _ _ (Ne.symm hhx)]; exact fx_c39
  exact wg_vret F hP hS hr hlk (⟨rfl, by rw [hC_72, hC_39, hC_33, hC_27, hC_21, hC_16, hC_11, hC_6, bx_uu, bx_uu, bx_uu, bx_uu, bx_uu, bx_uu, bx_uu, w_69, w_64, w_61, w_46]⟩) dX2_init_75
set_option maxHeartbeats 4000000 in
set_option maxRecDepth 100000 in
theorem c_X7_set (l : Launch) (E : wg_E) (A : Nat → Nat) (C : wg_C) (S : lc_S) (a b : Int64) (hX : lx E A C S) (hI : lc_inv S)  : Met l yX7_set (wg_ws yX7_set cX7_set 5 (some .int)) (wg_rm 3 1 4) (wg_Pc E A C [.ref (A 0), .long a, .long b]) (wg_Qi E (fun r A1 C1 => (∀ q, q = 0 ∨ 1000 ≤ q → A1 q = A q) ∧ (∀ q, 1000 ≤ q → C1 q = C q) ∧ r = (op_set S a b).1 ∧ lx E A1 C1 (op_set S a b).2)) 1 4 (wg_A E) := by
  refine wg_met (by decide) (Nat.le_of_ble_eq_true rfl) ?_
  intro p e s m below meth c ls F hr hlk hnm hP hS hl
  have F : wg_F p m c cX7_set 5 s ([.ref (A 0), .long a, .long b] : List Value).toArray "LightChecks" E := F
  have hx := F.1
  have hb := F.2.1
  have hml := F.2.2.1
  have hown := F.2.2.2.1
  have hts := F.2.2.2.2.1
  have hl : lv_has ls 5 [(0, .ref (A 0)), (1, .long a), (3, .long b)] := hl
  obtain ⟨x0, ⟨f1, x1, x1f⟩, x2, ⟨f3, x3, x3f⟩, x4, ⟨f5, x5, x5f⟩, ⟨f6, x6, x6f⟩, ⟨f7, x7⟩, ⟨x8, x9, nd, x10, hnd⟩, ⟨x11, x12, rk, x13⟩, xc, xg, hDB⟩ := id hX
  obtain ⟨iok, ⟨itm, itm3a, itm3b⟩, icl, igv, ipa, ipb, ipab⟩ := id hI
  have ins := iok.1
  have inh := iok.2.1
  refine lv_lload_n hx hb dX7_set_0 rfl (lv_at hl 1 rfl) ?_
  refine wg_topl (y := lN (lc_nat a)) ((lc_nat_eq a).1) ?_
  refine wg_ci hS (wg_rS (As := [.long (lN (lc_nat a))]) (rest := []) F hP hS (c_X7_holdsWeights l E A C (lc_nat a) (lc_nat_eq a).2) ok_X7_holdsWeights tb_195 rfl rfl ⟨Nat.le_of_ble_eq_true rfl, Nat.le_of_ble_eq_true rfl⟩ rfl hl.1 rfl (Nat.le_of_ble_eq_true rfl) dX7_set_1 ⟨Nat.le_of_ble_eq_true rfl, Nat.le_of_ble_eq_true rfl⟩) (fun r_1 A1 C_1 H locs w_1 hP hS => ?_)
  obtain ⟨w_1, rfl, rfl⟩ := w_1
  have w2 : lc_wellb (lc_nat a) = true ↔ ¬ r_1 = 0 := lc_wellr w_1
  refine lv_if_eq (tgt := 14) hx hb dX7_set_4 (by decide) (fun c_4 => ?_) (fun c_4 => ?_)
  · have hop : op_set S a b = (-1, S) := by unfold op_set; exact if_neg (fun q => w2.mp q.1 c_4)
    refine lv_iconst (v := (-1)) hx hb dX7_set_14 (by decide) ?_
    refine W.widen (k := 1) (n := 4) (Nat.le_of_ble_eq_true rfl) (Nat.le_of_ble_eq_true rfl) ?_
    exact wg_iret F hP hS hr hlk (⟨fun _ _ => rfl, fun _ _ => rfl, by rw [hop], by rw [hop]; exact hX⟩) dX7_set_15
  · refine lv_lload_n hx hb dX7_set_7 rfl (lv_at hl 2 rfl) ?_
    refine wg_topl (y := lN (lc_nat b)) ((lc_nat_eq b).1) ?_
    refine wg_ci hS (wg_rS (As := [.long (lN (lc_nat b))]) (rest := []) F hP hS (c_X7_holdsWeights l E A C (lc_nat b) (lc_nat_eq b).2) ok_X7_holdsWeights tb_195 rfl rfl ⟨Nat.le_of_ble_eq_true rfl, Nat.le_of_ble_eq_true rfl⟩ rfl hl.1 rfl (Nat.le_of_ble_eq_true rfl) dX7_set_8 ⟨Nat.le_of_ble_eq_true rfl, Nat.le_of_ble_eq_true rfl⟩) (fun r_8 A1 C_8 H locs w_8 hP hS => ?_)
    obtain ⟨w_8, rfl, rfl⟩ := w_8
    have w3 : lc_wellb (lc_nat b) = true ↔ ¬ r_8 = 0 := lc_wellr w_8
    refine lv_if_ne (tgt := 16) hx hb dX7_set_11 (by decide) (fun c_11 => ?_) (fun c_11 => ?_)
    · have hwa := w2.mpr c_4
      have hwb := w3.mpr c_11
      refine lv_aload_n hx hb dX7_set_16 rfl (lv_at hl 0 rfl) ?_
      refine wg_get F hP x0 rfl iw_X7 1 (by decide) tb_164 rfl rfl dX7_set_17 ?_
      refine lv_bipush (v := 16) hx hb dX7_set_20 (by decide) ?_
      refine lv_icmp_lt (tgt := 28) hx hb dX7_set_22 (by decide) (fun c_22 => ?_) (fun c_22 => ?_)
      · have hns : lc_ns (st_B S) < 16 := by rw [show (16 : Int32) = nI 16 from rfl, nI_ltI (by omega) (by decide)] at c_22; exact c_22
        have hop : op_set S a b = (nI (lc_ns (st_B S)), up_B S (up_set (st_B S) (lc_nat a) (lc_nat b))) := by unfold op_set; rw [if_pos ⟨hwa, hwb⟩]; exact if_pos hns
        refine lv_aload_n hx hb dX7_set_28 rfl (lv_at hl 0 rfl) ?_
        refine wg_get F hP x0 rfl iw_X7 0 (by decide) tb_163 rfl rfl dX7_set_29 ?_
        refine lv_aload_n hx hb dX7_set_32 rfl (lv_at hl 0 rfl) ?_
        refine wg_get F hP x0 rfl iw_X7 1 (by decide) tb_164 rfl rfl dX7_set_33 ?_
        refine wg_newF (ci := 6) F hP hS (100 + lc_ns (st_B S)) [.int 0, .long 0, .long 0, .int 0] rfl iw_X6 tyX6_ok tb_19 tb_201 tb_9 (fun j hj => by rcases (show j = 0 ∨ j = 1 ∨ j = 2 ∨ j = 3 by omega) with rfl | rfl | rfl | rfl <;> rfl) (Nat.le_of_ble_eq_true rfl) (Nat.le_of_ble_eq_true rfl) dX7_set_36 (fun q_36 H hP hS => ?_)
        obtain ⟨A_36, hA_36⟩ : ∃ z : Nat → Nat, z = va_up A (100 + lc_ns (st_B S)) q_36 := ⟨_, rfl⟩
        obtain ⟨C_36, hC_36⟩ : ∃ z : wg_C, z = va_up C (100 + lc_ns (st_B S)) (some (.inr (6, [.int 0, .long 0, .long 0, .int 0]))) := ⟨_, rfl⟩
        have hP : wg_P E A_36 C_36 H := by rw [hA_36, hC_36]; exact hP
        have an_36 : q_36 = A_36 (100 + lc_ns (st_B S)) := by rw [hA_36]; exact (va_up_self _ _ _).symm
        have am_36_0 : A_36 0 = A 0 := by rw [hA_36]; rw [va_up_ne _ _ (by omega)]
        have am_36_1 : A_36 1 = A 1 := by rw [hA_36]; rw [va_up_ne _ _ (by omega)]
        have am_36_2 : A_36 2 = A 2 := by rw [hA_36]; rw [va_up_ne _ _ (by omega)]
        have am_36_3 : A_36 4 = A 4 := by rw [hA_36]; rw [va_up_ne _ _ (by omega)]
        have am_36_4 : A_36 5 = A 5 := by rw [hA_36]; rw [va_up_ne _ _ (by omega)]
        have am_36_5 : A_36 6 = A 6 := by rw [hA_36]; rw [va_up_ne _ _ (by omega)]
        have am_36_6 : A_36 7 = A 7 := by rw [hA_36]; rw [va_up_ne _ _ (by omega)]
        have am_36_7 : A_36 8 = A 8 := by rw [hA_36]; rw [va_up_ne _ _ (by omega)]
        have am_36_8 : A_36 11 = A 11 := by rw [hA_36]; rw [va_up_ne _ _ (by omega)]
        have am_36_9 : A_36 3 = A 3 := by rw [hA_36]; rw [va_up_ne _ _ (by omega)]
        have am_36_10 : A_36 9 = A 9 := by rw [hA_36]; rw [va_up_ne _ _ (by omega)]
        have am_36_11 : A_36 10 = A 10 := by rw [hA_36]; rw [va_up_ne _ _ (by omega)]
        have am_36_12 : A_36 12 = A 12 := by rw [hA_36]; rw [va_up_ne _ _ (by omega)]
        have am_36_13 : A_36 13 = A 13 := by rw [hA_36]; rw [va_up_ne _ _ (by omega)]
        have x0_c36 : C_36 0 = some (.inr (7, [.ref (A_36 1), .int (nI (lc_ns (st_B S))), .ref (A_36 2), .ref (A_36 4), .ref (A_36 5), .ref (A_36 6), .ref (A_36 7), .ref (A_36 8), .ref (A_36 11)])) := by rw [hC_36]; rw [va_up_ne _ _ (by omega)]; rw [am_36_1, am_36_2, am_36_3, am_36_4, am_36_5, am_36_6, am_36_7, am_36_8]; exact x0
        have x1_c36 : C_36 1 = some (.inl (E.2.1 3, 16, .inr (.inr (.inr (.inr f1))))) := by rw [hC_36]; rw [va_up_ne _ _ (by omega)]; exact x1
        have x2_c36 : C_36 2 = some (.inr (3, [.ref (A_36 3), .int (nI (lc_nh (st_B S)))])) := by rw [hC_36]; rw [va_up_ne _ _ (by omega)]; rw [am_36_9]; exact x2
        have x3_c36 : C_36 3 = some (.inl (E.2.1 4, 60, .inr (.inr (.inr (.inr f3))))) := by rw [hC_36]; rw [va_up_ne _ _ (by omega)]; exact x3
        have x4_c36 : C_36 4 = some (.inl (E.2.1 0, 4, .inl (fun k => nI (st_tm S k)))) := by rw [hC_36]; rw [va_up_ne _ _ (by omega)]; exact x4
        have x5_c36 : C_36 5 = some (.inl (E.2.1 5, 4, .inr (.inr (.inr (.inr f5))))) := by rw [hC_36]; rw [va_up_ne _ _ (by omega)]; exact x5
        have x6_c36 : C_36 6 = some (.inl (E.2.1 6, 4, .inr (.inr (.inr (.inr f6))))) := by rw [hC_36]; rw [va_up_ne _ _ (by omega)]; exact x6
        have x7_c36 : C_36 7 = some (.inl (E.2.1 0, 32, .inl f7)) := by rw [hC_36]; rw [va_up_ne _ _ (by omega)]; exact x7
        have x8_c36 : C_36 8 = some (.inr (5, [.ref (A_36 9), .ref (A_36 10)])) := by rw [hC_36]; rw [va_up_ne _ _ (by omega)]; rw [am_36_10, am_36_11]; exact x8
        have x9_c36 : C_36 9 = some (.inl (E.2.1 1, 8, .inr (.inl ((st_lf S))))) := by rw [hC_36]; rw [va_up_ne _ _ (by omega)]; exact x9
        have x10_c36 : C_36 10 = some (.inl (E.2.1 1, 16, .inr (.inl nd))) := by rw [hC_36]; rw [va_up_ne _ _ (by omega)]; exact x10
        have x11_c36 : C_36 11 = some (.inr (4, [.int (nI (st_pa S)), .int (nI (st_pb S)), .long (st_va S), .long (st_vb S), .ref (A_36 12), .int (nI (lc_cnt (st_pa S) (st_pb S) 1)), .ref (A_36 13)])) := by rw [hC_36]; rw [va_up_ne _ _ (by omega)]; rw [am_36_12, am_36_13]; exact x11
        have x12_c36 : C_36 12 = some (.inl (E.2.1 1, 4, .inr (.inl ((st_pn S))))) := by rw [hC_36]; rw [va_up_ne _ _ (by omega)]; exact x12
        have x13_c36 : C_36 13 = some (.inl (E.2.1 1, 16, .inr (.inl rk))) := by rw [hC_36]; rw [va_up_ne _ _ (by omega)]; exact x13
        have f100lc_nsst_BS_c36 : C_36 (100 + lc_ns (st_B S)) = some (.inr (6, [.int 0, .long 0, .long 0, .int 0])) := by rw [hC_36]; exact va_up_self _ _ _
        have hl : lv_has ls 5 [(0, .ref (A_36 0)), (1, .long a), (3, .long b)] := by rw [am_36_0]; exact hl
        refine W.eq (g2 := F0 m 39 ls [.ref (A_36 (100 + lc_ns (st_B S))), .int (nI (lc_ns (st_B S))), .ref (A_36 1)]) (by rw [← an_36, am_36_1]) ?_
        clear am_36_0 am_36_1 am_36_2 am_36_3 am_36_4 am_36_5 am_36_6 am_36_7 am_36_8 am_36_9 am_36_10 am_36_11 am_36_12 am_36_13 an_36
        refine lv_dup hx hb dX7_set_39 rfl ?_
        refine lv_aload_n hx hb dX7_set_40 rfl (lv_at hl 0 rfl) ?_
        refine wg_get F hP x0_c36 rfl iw_X7 1 (by decide) tb_164 rfl rfl dX7_set_41 ?_
        refine lv_lload_n hx hb dX7_set_44 rfl (lv_at hl 1 rfl) ?_
        refine wg_topl (y := lN (lc_nat a)) ((lc_nat_eq a).1) ?_
        refine lv_lload_n hx hb dX7_set_45 rfl (lv_at hl 2 rfl) ?_
        refine wg_topl (y := lN (lc_nat b)) ((lc_nat_eq b).1) ?_
        refine wg_cv hS (wg_rIN (As := [.int (nI (lc_ns (st_B S))), .long (lN (lc_nat a)), .long (lN (lc_nat b))]) (rest := [.ref (A_36 (100 + lc_ns (st_B S))), .int (nI (lc_ns (st_B S))), .ref (A_36 1)]) F hP hS (c_X6_init l E A_36 C_36 (100 + lc_ns (st_B S)) (lc_nat a) (lc_nat b) _ (lc_nat_eq a).2 (lc_nat_eq b).2 f100lc_nsst_BS_c36) ok_X6_init nb_202 rfl rfl ⟨Nat.le_of_ble_eq_true rfl, Nat.le_of_ble_eq_true rfl⟩ rfl hl.1 rfl (Nat.le_of_ble_eq_true rfl) dX7_set_46 ⟨Nat.le_of_ble_eq_true rfl, Nat.le_of_ble_eq_true rfl⟩) (fun A1 C_46 H locs w_46 hP hS => ?_)
        obtain ⟨rfl, hC_46⟩ := w_46
        have x0_c46 : C_46 0 = some (.inr (7, [.ref (A_36 1), .int (nI (lc_ns (st_B S))), .ref (A_36 2), .ref (A_36 4), .ref (A_36 5), .ref (A_36 6), .ref (A_36 7), .ref (A_36 8), .ref (A_36 11)])) := by rw [hC_46]; rw [va_up_ne _ _ (by omega)]; exact x0_c36
        have x1_c46 : C_46 1 = some (.inl (E.2.1 3, 16, .inr (.inr (.inr (.inr f1))))) := by rw [hC_46]; rw [va_up_ne _ _ (by omega)]; exact x1_c36
        have x2_c46 : C_46 2 = some (.inr (3, [.ref (A_36 3), .int (nI (lc_nh (st_B S)))])) := by rw [hC_46]; rw [va_up_ne _ _ (by omega)]; exact x2_c36
        have x3_c46 : C_46 3 = some (.inl (E.2.1 4, 60, .inr (.inr (.inr (.inr f3))))) := by rw [hC_46]; rw [va_up_ne _ _ (by omega)]; exact x3_c36
        have x4_c46 : C_46 4 = some (.inl (E.2.1 0, 4, .inl (fun k => nI (st_tm S k)))) := by rw [hC_46]; rw [va_up_ne _ _ (by omega)]; exact x4_c36
        have x5_c46 : C_46 5 = some (.inl (E.2.1 5, 4, .inr (.inr (.inr (.inr f5))))) := by rw [hC_46]; rw [va_up_ne _ _ (by omega)]; exact x5_c36
        have x6_c46 : C_46 6 = some (.inl (E.2.1 6, 4, .inr (.inr (.inr (.inr f6))))) := by rw [hC_46]; rw [va_up_ne _ _ (by omega)]; exact x6_c36
        have x7_c46 : C_46 7 = some (.inl (E.2.1 0, 32, .inl f7)) := by rw [hC_46]; rw [va_up_ne _ _ (by omega)]; exact x7_c36
        have x8_c46 : C_46 8 = some (.inr (5, [.ref (A_36 9), .ref (A_36 10)])) := by rw [hC_46]; rw [va_up_ne _ _ (by omega)]; exact x8_c36
        have x9_c46 : C_46 9 = some (.inl (E.2.1 1, 8, .inr (.inl ((st_lf S))))) := by rw [hC_46]; rw [va_up_ne _ _ (by omega)]; exact x9_c36
        have x10_c46 : C_46 10 = some (.inl (E.2.1 1, 16, .inr (.inl nd))) := by rw [hC_46]; rw [va_up_ne _ _ (by omega)]; exact x10_c36
        have x11_c46 : C_46 11 = some (.inr (4, [.int (nI (st_pa S)), .int (nI (st_pb S)), .long (st_va S), .long (st_vb S), .ref (A_36 12), .int (nI (lc_cnt (st_pa S) (st_pb S) 1)), .ref (A_36 13)])) := by rw [hC_46]; rw [va_up_ne _ _ (by omega)]; exact x11_c36
        have x12_c46 : C_46 12 = some (.inl (E.2.1 1, 4, .inr (.inl ((st_pn S))))) := by rw [hC_46]; rw [va_up_ne _ _ (by omega)]; exact x12_c36
        have x13_c46 : C_46 13 = some (.inl (E.2.1 1, 16, .inr (.inl rk))) := by rw [hC_46]; rw [va_up_ne _ _ (by omega)]; exact x13_c36
        have f100lc_nsst_BS_c46 : C_46 (100 + lc_ns (st_B S)) = some (.inr (6, [.int (nI (lc_ns (st_B S))), .long (lN (lc_nat a)), .long (lN (lc_nat b)), .int (nI (lc_tot (lc_nat a) (lc_nat b)))])) := by rw [hC_46]; exact va_up_self _ _ _
        refine wg_qst F hP hS 3 rfl x1_c46 f100lc_nsst_BS_c46 rfl (vp_in_nI (by omega) (by decide)) dX7_set_49 (fun H locs hP hS => ?_)
        obtain ⟨C_49, hC_49⟩ : ∃ z : wg_C, z = va_up C_46 1 (some (.inl (E.2.1 3, 16, .inr (.inr (.inr (.inr (va_up f1 (nI (lc_ns (st_B S))).toNatClampNeg (some (A_36 (100 + lc_ns (st_B S))))))))))) := ⟨_, rfl⟩
        have hP : wg_P E A_36 C_49 H := by rw [hC_49]; exact hP
        have x0_c49 : C_49 0 = some (.inr (7, [.ref (A_36 1), .int (nI (lc_ns (st_B S))), .ref (A_36 2), .ref (A_36 4), .ref (A_36 5), .ref (A_36 6), .ref (A_36 7), .ref (A_36 8), .ref (A_36 11)])) := by rw [hC_49]; rw [va_up_ne _ _ (by decide)]; exact x0_c46
        have x1_c49 : C_49 1 = some (.inl (E.2.1 3, 16, .inr (.inr (.inr (.inr (va_up f1 (nI (lc_ns (st_B S))).toNatClampNeg (some (A_36 (100 + lc_ns (st_B S)))))))))) := by rw [hC_49]; exact va_up_self _ _ _
        have x2_c49 : C_49 2 = some (.inr (3, [.ref (A_36 3), .int (nI (lc_nh (st_B S)))])) := by rw [hC_49]; rw [va_up_ne _ _ (by decide)]; exact x2_c46
        have x3_c49 : C_49 3 = some (.inl (E.2.1 4, 60, .inr (.inr (.inr (.inr f3))))) := by rw [hC_49]; rw [va_up_ne _ _ (by decide)]; exact x3_c46
        have x4_c49 : C_49 4 = some (.inl (E.2.1 0, 4, .inl (fun k => nI (st_tm S k)))) := by rw [hC_49]; rw [va_up_ne _ _ (by decide)]; exact x4_c46
        have x5_c49 : C_49 5 = some (.inl (E.2.1 5, 4, .inr (.inr (.inr (.inr f5))))) := by rw [hC_49]; rw [va_up_ne _ _ (by decide)]; exact x5_c46
        have x6_c49 : C_49 6 = some (.inl (E.2.1 6, 4, .inr (.inr (.inr (.inr f6))))) := by rw [hC_49]; rw [va_up_ne _ _ (by decide)]; exact x6_c46
        have x7_c49 : C_49 7 = some (.inl (E.2.1 0, 32, .inl f7)) := by rw [hC_49]; rw [va_up_ne _ _ (by decide)]; exact x7_c46
        have x8_c49 : C_49 8 = some (.inr (5, [.ref (A_36 9), .ref (A_36 10)])) := by rw [hC_49]; rw [va_up_ne _ _ (by decide)]; exact x8_c46
        have x9_c49 : C_49 9 = some (.inl (E.2.1 1, 8, .inr (.inl ((st_lf S))))) := by rw [hC_49]; rw [va_up_ne _ _ (by decide)]; exact x9_c46
        have x10_c49 : C_49 10 = some (.inl (E.2.1 1, 16, .inr (.inl nd))) := by rw [hC_49]; rw [va_up_ne _ _ (by decide)]; exact x10_c46
        have x11_c49 : C_49 11 = some (.inr (4, [.int (nI (st_pa S)), .int (nI (st_pb S)), .long (st_va S), .long (st_vb S), .ref (A_36 12), .int (nI (lc_cnt (st_pa S) (st_pb S) 1)), .ref (A_36 13)])) := by rw [hC_49]; rw [va_up_ne _ _ (by decide)]; exact x11_c46
        have x12_c49 : C_49 12 = some (.inl (E.2.1 1, 4, .inr (.inl ((st_pn S))))) := by rw [hC_49]; rw [va_up_ne _ _ (by decide)]; exact x12_c46
        have x13_c49 : C_49 13 = some (.inl (E.2.1 1, 16, .inr (.inl rk))) := by rw [hC_49]; rw [va_up_ne _ _ (by decide)]; exact x13_c46
        have f100lc_nsst_BS_c49 : C_49 (100 + lc_ns (st_B S)) = some (.inr (6, [.int (nI (lc_ns (st_B S))), .long (lN (lc_nat a)), .long (lN (lc_nat b)), .int (nI (lc_tot (lc_nat a) (lc_nat b)))])) := by rw [hC_49]; rw [va_up_ne _ _ (by omega)]; exact f100lc_nsst_BS_c46
        refine lv_aload_n hx hb dX7_set_50 rfl (lv_at hl 0 rfl) ?_
        refine lv_dup hx hb dX7_set_51 rfl ?_
        refine wg_get F hP x0_c49 rfl iw_X7 1 (by decide) tb_164 rfl rfl dX7_set_52 ?_
        refine lv_iconst (v := 1) hx hb dX7_set_55 (by decide) ?_
        refine lv_iadd hx hb dX7_set_56 ?_
        refine lv_topi (fun x_57 ex_57 => ?_)
        refine wg_put F hP hS x0_c49 rfl iw_X7 tyX7_ok nmX7 1 (by decide) tb_164 rfl rfl rfl (Nat.le_of_ble_eq_true rfl) dX7_set_57 (fun H locs hP hS => ?_)
        obtain ⟨C_57, hC_57⟩ : ∃ z : wg_C, z = va_up C_49 0 (some (.inr (7, [.ref (A_36 1), .int x_57, .ref (A_36 2), .ref (A_36 4), .ref (A_36 5), .ref (A_36 6), .ref (A_36 7), .ref (A_36 8), .ref (A_36 11)]))) := ⟨_, rfl⟩
        have hP : wg_P E A_36 C_57 H := by rw [hC_57]; exact hP
        have x0_c57 : C_57 0 = some (.inr (7, [.ref (A_36 1), .int x_57, .ref (A_36 2), .ref (A_36 4), .ref (A_36 5), .ref (A_36 6), .ref (A_36 7), .ref (A_36 8), .ref (A_36 11)])) := by rw [hC_57]; exact va_up_self _ _ _
        have x1_c57 : C_57 1 = some (.inl (E.2.1 3, 16, .inr (.inr (.inr (.inr (va_up f1 (nI (lc_ns (st_B S))).toNatClampNeg (some (A_36 (100 + lc_ns (st_B S)))))))))) := by rw [hC_57]; rw [va_up_ne _ _ (by decide)]; exact x1_c49
        have x2_c57 : C_57 2 = some (.inr (3, [.ref (A_36 3), .int (nI (lc_nh (st_B S)))])) := by rw [hC_57]; rw [va_up_ne _ _ (by decide)]; exact x2_c49
        have x3_c57 : C_57 3 = some (.inl (E.2.1 4, 60, .inr (.inr (.inr (.inr f3))))) := by rw [hC_57]; rw [va_up_ne _ _ (by decide)]; exact x3_c49
        have x4_c57 : C_57 4 = some (.inl (E.2.1 0, 4, .inl (fun k => nI (st_tm S k)))) := by rw [hC_57]; rw [va_up_ne _ _ (by decide)]; exact x4_c49
        have x5_c57 : C_57 5 = some (.inl (E.2.1 5, 4, .inr (.inr (.inr (.inr f5))))) := by rw [hC_57]; rw [va_up_ne _ _ (by decide)]; exact x5_c49
        have x6_c57 : C_57 6 = some (.inl (E.2.1 6, 4, .inr (.inr (.inr (.inr f6))))) := by rw [hC_57]; rw [va_up_ne _ _ (by decide)]; exact x6_c49
        have x7_c57 : C_57 7 = some (.inl (E.2.1 0, 32, .inl f7)) := by rw [hC_57]; rw [va_up_ne _ _ (by decide)]; exact x7_c49
        have x8_c57 : C_57 8 = some (.inr (5, [.ref (A_36 9), .ref (A_36 10)])) := by rw [hC_57]; rw [va_up_ne _ _ (by decide)]; exact x8_c49
        have x9_c57 : C_57 9 = some (.inl (E.2.1 1, 8, .inr (.inl ((st_lf S))))) := by rw [hC_57]; rw [va_up_ne _ _ (by decide)]; exact x9_c49
        have x10_c57 : C_57 10 = some (.inl (E.2.1 1, 16, .inr (.inl nd))) := by rw [hC_57]; rw [va_up_ne _ _ (by decide)]; exact x10_c49
        have x11_c57 : C_57 11 = some (.inr (4, [.int (nI (st_pa S)), .int (nI (st_pb S)), .long (st_va S), .long (st_vb S), .ref (A_36 12), .int (nI (lc_cnt (st_pa S) (st_pb S) 1)), .ref (A_36 13)])) := by rw [hC_57]; rw [va_up_ne _ _ (by decide)]; exact x11_c49
        have x12_c57 : C_57 12 = some (.inl (E.2.1 1, 4, .inr (.inl ((st_pn S))))) := by rw [hC_57]; rw [va_up_ne _ _ (by decide)]; exact x12_c49
        have x13_c57 : C_57 13 = some (.inl (E.2.1 1, 16, .inr (.inl rk))) := by rw [hC_57]; rw [va_up_ne _ _ (by decide)]; exact x13_c49
        have f100lc_nsst_BS_c57 : C_57 (100 + lc_ns (st_B S)) = some (.inr (6, [.int (nI (lc_ns (st_B S))), .long (lN (lc_nat a)), .long (lN (lc_nat b)), .int (nI (lc_tot (lc_nat a) (lc_nat b)))])) := by rw [hC_57]; rw [va_up_ne _ _ (by omega)]; exact f100lc_nsst_BS_c49
        have hfr : ∀ r, r ≠ 0 → r ≠ 1 → r ≠ 100 + lc_ns (st_B S) → C_57 r = C r := fun r h0 h1 h2 => by rw [hC_57, va_up_ne _ _ h0, hC_49, va_up_ne _ _ h1, hC_46, va_up_ne _ _ h2, hC_36, va_up_ne _ _ h2]
        have hX2 : lx E A_36 C S := lx_move hX hI (fun r hr => by rw [hA_36]; exact va_up_ne _ _ (by omega))
        have hset : C_57 (100 + lc_ns (st_B S)) = some (lc_st (up_set (st_B S) (lc_nat a) (lc_nat b)) (lc_ns (st_B S))) := by rw [lc_st_new]; exact f100lc_nsst_BS_c57
        refine lv_aload_n hx hb dX7_set_60 rfl (lv_at hl 0 rfl) ?_
        refine wg_get F hP x0_c57 rfl iw_X7 1 (by decide) tb_164 rfl rfl dX7_set_61 ?_
        refine lv_iconst (v := 1) hx hb dX7_set_64 (by decide) ?_
        refine lv_isub hx hb dX7_set_65 ?_
        refine wg_topi (y := nI (lc_ns (st_B S))) (by rw [ex_57, nI_1]; exact nI_m1 _) ?_
        refine W.widen (k := 1) (n := 4) (Nat.le_of_ble_eq_true rfl) (Nat.le_of_ble_eq_true rfl) ?_
        exact wg_iret F hP hS hr hlk (⟨fun q hq => by rw [hA_36]; exact va_up_ne _ _ (by omega), fun q hq => hfr q (by omega) (by omega) (by omega), by rw [hop], by rw [hop]; exact ⟨(by show C_57 0 = _; rw [x0_c57, ex_57, nI_1]), ⟨_, x1_c57, lc_arr2 hA_36 x1f hns (by decide)⟩, (hfr 2 (by omega) (by omega) (by omega)).trans hX2.2.2.1, hX2.2.2.2.1.same (hfr 3 (by omega) (by omega) (by omega)), (hfr 4 (by omega) (by omega) (by omega)).trans hX2.2.2.2.2.1, hX2.2.2.2.2.2.1.same (hfr 5 (by omega) (by omega) (by omega)), hX2.2.2.2.2.2.2.1.same (hfr 6 (by omega) (by omega) (by omega)), hX2.2.2.2.2.2.2.2.1.same (hfr 7 (by omega) (by omega) (by omega)), hX2.2.2.2.2.2.2.2.2.1.same (fun r h1 h2 => hfr r (by omega) (by omega) (by omega)), hX2.2.2.2.2.2.2.2.2.2.1.same (fun r h1 h2 => hfr r (by omega) (by omega) (by omega)), fun i2 hi2 => (hX2.2.2.2.2.2.2.2.2.2.2.1 i2 hi2).same (fun r h1 => hfr r (by omega) (by omega) (by omega)), fun i2 hi2 => (hX2.2.2.2.2.2.2.2.2.2.2.2.1 i2 hi2).same (fun r h1 => hfr r (by omega) (by omega) (by omega)), hX2.2.2.2.2.2.2.2.2.2.2.2.2.addset hns ((lc_wellb_iff _).mp hwa) ((lc_wellb_iff _).mp hwb) (fun r h1 h2 h3 => hfr r (by omega) (by omega) h3) hset⟩⟩) dX7_set_66
      · have hop : op_set S a b = (-3, S) := by unfold op_set; rw [if_pos ⟨hwa, hwb⟩]; exact if_neg (by rw [show (16 : Int32) = nI 16 from rfl, nI_ltI (by omega) (by decide)] at c_22; exact c_22)
        refine lv_bipush (v := (-3)) hx hb dX7_set_25 (by decide) ?_
        refine W.widen (k := 1) (n := 4) (Nat.le_of_ble_eq_true rfl) (Nat.le_of_ble_eq_true rfl) ?_
        exact wg_iret F hP hS hr hlk (⟨fun _ _ => rfl, fun _ _ => rfl, by rw [hop], by rw [hop]; exact hX⟩) dX7_set_27
    · have hop : op_set S a b = (-1, S) := by unfold op_set; exact if_neg (fun q => w3.mp q.2 c_11)
      refine lv_iconst (v := (-1)) hx hb dX7_set_14 (by decide) ?_
      refine W.widen (k := 1) (n := 4) (Nat.le_of_ble_eq_true rfl) (Nat.le_of_ble_eq_true rfl) ?_
      exact wg_iret F hP hS hr hlk (⟨fun _ _ => rfl, fun _ _ => rfl, by rw [hop], by rw [hop]; exact hX⟩) dX7_set_15
set_option maxHeartbeats 4000000 in
set_option maxRecDepth 100000 in
theorem c_X7_head (l : Launch) (E : wg_E) (A : Nat → Nat) (C : wg_C) (S : lc_S) (ht : Int32) (pa : Int64) (o0 x0v : Int32) (rt : Int64) (hX : lx E A C S) (hI : lc_inv S)  : Met l yX7_head (wg_ws yX7_head cX7_head 11 (some .int)) (wg_rm 4 1 8) (wg_Pc E A C [.ref (A 0), .int ht, .long pa, .int o0, .int x0v, .long rt]) (wg_Qi E (fun r A1 C1 => (∀ q, q = 0 ∨ 1000 ≤ q → A1 q = A q) ∧ (∀ q, 1000 ≤ q → C1 q = C q) ∧ r = (op_head S ht pa o0 x0v rt).1 ∧ lx E A1 C1 (op_head S ht pa o0 x0v rt).2)) 1 8 (wg_A E) := by
  refine wg_met (by decide) (Nat.le_of_ble_eq_true rfl) ?_
  intro p e s m below meth c ls F hr hlk hnm hP hS hl
  have F : wg_F p m c cX7_head 11 s ([.ref (A 0), .int ht, .long pa, .int o0, .int x0v, .long rt] : List Value).toArray "LightChecks" E := F
  have hx := F.1
  have hb := F.2.1
  have hml := F.2.2.1
  have hown := F.2.2.2.1
  have hts := F.2.2.2.2.1
  have hl : lv_has ls 11 [(0, .ref (A 0)), (1, .int ht), (2, .long pa), (4, .int o0), (5, .int x0v), (6, .long rt)] := hl
  obtain ⟨x0, ⟨f1, x1, x1f⟩, x2, ⟨f3, x3, x3f⟩, x4, ⟨f5, x5, x5f⟩, ⟨f6, x6, x6f⟩, ⟨f7, x7⟩, ⟨x8, x9, nd, x10, hnd⟩, ⟨x11, x12, rk, x13⟩, xc, xg, hDB⟩ := id hX
  obtain ⟨iok, ⟨itm, itm3a, itm3b⟩, icl, igv, ipa, ipb, ipab⟩ := id hI
  have ins := iok.1
  have inh := iok.2.1
  refine lv_aload_n hx hb dX7_head_0 rfl (lv_at hl 0 rfl) ?_
  refine lv_iload hx hb dX7_head_1 (lv_at hl 3 rfl) ?_
  refine wg_cq hS (wg_rV (As := [.int o0]) (rest := []) F hP hS (c_X7_setAt l E A C (lc_ns (st_B S)) f1 o0 ins x0 x1) ok_X7_setAt tb_227 rfl rfl ⟨Nat.le_of_ble_eq_true rfl, Nat.le_of_ble_eq_true rfl⟩ x0 rfl rfl rfl hl.1 rfl (Nat.le_of_ble_eq_true rfl) dX7_head_3 ⟨Nat.le_of_ble_eq_true rfl, Nat.le_of_ble_eq_true rfl⟩) (fun r_3 A1 C_3 H locs w_3 hP hS => ?_)
  obtain ⟨w_3, rfl, rfl⟩ := w_3
  rcases hx_i : lc_ix o0 (lc_ns (st_B S)) with _ | i
  · refine wg_none (by rw [w_3, lc_at_ix (by omega) x1f, hx_i]; rfl) ?_
    refine lv_astoreN (lv' := [(8, .null), (0, .ref (A 0)), (1, .int ht), (2, .long pa), (4, .int o0), (5, .int x0v), (6, .long rt)]) hx hb dX7_head_6 hl (by decide) rfl (fun ls hl => ?_)
    refine lv_aload_n hx hb dX7_head_8 rfl (lv_at hl 1 rfl) ?_
    refine lv_iload hx hb dX7_head_9 (lv_at hl 5 rfl) ?_
    refine wg_cq hS (wg_rV (As := [.int x0v]) (rest := []) F hP hS (c_X7_setAt l E A C (lc_ns (st_B S)) f1 x0v ins x0 x1) ok_X7_setAt tb_227 rfl rfl ⟨Nat.le_of_ble_eq_true rfl, Nat.le_of_ble_eq_true rfl⟩ x0 rfl rfl rfl hl.1 rfl (Nat.le_of_ble_eq_true rfl) dX7_head_11 ⟨Nat.le_of_ble_eq_true rfl, Nat.le_of_ble_eq_true rfl⟩) (fun r_11 A1 C_11 H locs w_11 hP hS => ?_)
    obtain ⟨w_11, rfl, rfl⟩ := w_11
    rcases hx_k : lc_ix x0v (lc_ns (st_B S)) with _ | k
    · refine wg_none (by rw [w_11, lc_at_ix (by omega) x1f, hx_k]; rfl) ?_
      refine lv_astoreN (lv' := [(9, .null), (8, .null), (0, .ref (A 0)), (1, .int ht), (2, .long pa), (4, .int o0), (5, .int x0v), (6, .long rt)]) hx hb dX7_head_14 hl (by decide) rfl (fun ls hl => ?_)
      refine lv_iload_n hx hb dX7_head_16 rfl (lv_at hl 3 rfl) ?_
      refine wg_ci hS (wg_rS (As := [.int ht]) (rest := []) F hP hS (c_X7_isHeight l E A C ht) ok_X7_isHeight tb_231 rfl rfl ⟨Nat.le_of_ble_eq_true rfl, Nat.le_of_ble_eq_true rfl⟩ rfl hl.1 rfl (Nat.le_of_ble_eq_true rfl) dX7_head_17 ⟨Nat.le_of_ble_eq_true rfl, Nat.le_of_ble_eq_true rfl⟩) (fun r_17 A1 C_17 H locs w_17 hP hS => ?_)
      obtain ⟨w_17, rfl, rfl⟩ := w_17
      rcases w_17 with ⟨x, hx5, ex, w2⟩ | ⟨ho, w2⟩
      · have hxh : lc_ix ht 100001 = some x := by rw [ex]; exact lc_ix_in (by omega) (by decide)
        refine lv_if_eq (tgt := 33) hx hb dX7_head_20 (by decide) (fun c_20 => ?_) (fun c_20 => ?_)
        · exact absurd (w2.symm.trans c_20) (by decide)
        · refine lv_aloadN hx hb dX7_head_23 (lv_at hl 1 rfl) ?_
          refine lv_ifnullN (tgt := 33) hx hb dX7_head_25 (by decide) ?_
          have hop : op_head S ht pa o0 x0v rt = (-1, S) := by unfold op_head; rw [hxh, hx_i, hx_k]
          refine lv_iconst (v := (-1)) hx hb dX7_head_33 (by decide) ?_
          refine W.widen (k := 1) (n := 8) (Nat.le_of_ble_eq_true rfl) (Nat.le_of_ble_eq_true rfl) ?_
          exact wg_iret F hP hS hr hlk (⟨fun _ _ => rfl, fun _ _ => rfl, by rw [hop], by rw [hop]; exact hX⟩) dX7_head_34
      · simp only [Int32.lt_iff_toInt_lt, lc_t0i, nI_toInt (show 100000 < 2 ^ 31 by decide)] at ho
        have hxh : lc_ix ht 100001 = none := lc_ix_no (by omega)
        refine lv_if_eq (tgt := 33) hx hb dX7_head_20 (by decide) (fun c_20 => ?_) (fun c_20 => ?_)
        · have hop : op_head S ht pa o0 x0v rt = (-1, S) := by unfold op_head; rw [hxh]
          refine lv_iconst (v := (-1)) hx hb dX7_head_33 (by decide) ?_
          refine W.widen (k := 1) (n := 8) (Nat.le_of_ble_eq_true rfl) (Nat.le_of_ble_eq_true rfl) ?_
          exact wg_iret F hP hS hr hlk (⟨fun _ _ => rfl, fun _ _ => rfl, by rw [hop], by rw [hop]; exact hX⟩) dX7_head_34
        · exact absurd w2 c_20
    · refine wg_some (x := A (100 + k)) (by rw [w_11, lc_at_ix (by omega) x1f, hx_k]; rfl) ?_
      obtain ⟨hk, ek, tk⟩ := lc_ix_some hx_k
      have xs_k : C (100 + k) = some (.inr (6, [.int (nI k), .long (lN (lc_sa (st_B S) k)), .long (lN (lc_sb (st_B S) k)), .int (nI (lc_tot (lc_sa (st_B S) k) (lc_sb (st_B S) k)))])) := hDB.1 _ hk
      refine lv_astore (lv' := [(9, .ref (A (100 + k))), (8, .null), (0, .ref (A 0)), (1, .int ht), (2, .long pa), (4, .int o0), (5, .int x0v), (6, .long rt)]) hx hb dX7_head_14 hl (by decide) rfl (fun ls hl => ?_)
      refine lv_iload_n hx hb dX7_head_16 rfl (lv_at hl 3 rfl) ?_
      refine wg_ci hS (wg_rS (As := [.int ht]) (rest := []) F hP hS (c_X7_isHeight l E A C ht) ok_X7_isHeight tb_231 rfl rfl ⟨Nat.le_of_ble_eq_true rfl, Nat.le_of_ble_eq_true rfl⟩ rfl hl.1 rfl (Nat.le_of_ble_eq_true rfl) dX7_head_17 ⟨Nat.le_of_ble_eq_true rfl, Nat.le_of_ble_eq_true rfl⟩) (fun r_17 A1 C_17 H locs w_17 hP hS => ?_)
      obtain ⟨w_17, rfl, rfl⟩ := w_17
      rcases w_17 with ⟨x, hx5, ex, w2⟩ | ⟨ho, w2⟩
      · have hxh : lc_ix ht 100001 = some x := by rw [ex]; exact lc_ix_in (by omega) (by decide)
        refine lv_if_eq (tgt := 33) hx hb dX7_head_20 (by decide) (fun c_20 => ?_) (fun c_20 => ?_)
        · exact absurd (w2.symm.trans c_20) (by decide)
        · refine lv_aloadN hx hb dX7_head_23 (lv_at hl 1 rfl) ?_
          refine lv_ifnullN (tgt := 33) hx hb dX7_head_25 (by decide) ?_
          have hop : op_head S ht pa o0 x0v rt = (-1, S) := by unfold op_head; rw [hxh, hx_i, hx_k]
          refine lv_iconst (v := (-1)) hx hb dX7_head_33 (by decide) ?_
          refine W.widen (k := 1) (n := 8) (Nat.le_of_ble_eq_true rfl) (Nat.le_of_ble_eq_true rfl) ?_
          exact wg_iret F hP hS hr hlk (⟨fun _ _ => rfl, fun _ _ => rfl, by rw [hop], by rw [hop]; exact hX⟩) dX7_head_34
      · simp only [Int32.lt_iff_toInt_lt, lc_t0i, nI_toInt (show 100000 < 2 ^ 31 by decide)] at ho
        have hxh : lc_ix ht 100001 = none := lc_ix_no (by omega)
        refine lv_if_eq (tgt := 33) hx hb dX7_head_20 (by decide) (fun c_20 => ?_) (fun c_20 => ?_)
        · have hop : op_head S ht pa o0 x0v rt = (-1, S) := by unfold op_head; rw [hxh]
          refine lv_iconst (v := (-1)) hx hb dX7_head_33 (by decide) ?_
          refine W.widen (k := 1) (n := 8) (Nat.le_of_ble_eq_true rfl) (Nat.le_of_ble_eq_true rfl) ?_
          exact wg_iret F hP hS hr hlk (⟨fun _ _ => rfl, fun _ _ => rfl, by rw [hop], by rw [hop]; exact hX⟩) dX7_head_34
        · exact absurd w2 c_20
  · refine wg_some (x := A (100 + i)) (by rw [w_3, lc_at_ix (by omega) x1f, hx_i]; rfl) ?_
    obtain ⟨hi, ei, ti⟩ := lc_ix_some hx_i
    have xs_i : C (100 + i) = some (.inr (6, [.int (nI i), .long (lN (lc_sa (st_B S) i)), .long (lN (lc_sb (st_B S) i)), .int (nI (lc_tot (lc_sa (st_B S) i) (lc_sb (st_B S) i)))])) := hDB.1 _ hi
    refine lv_astore (lv' := [(8, .ref (A (100 + i))), (0, .ref (A 0)), (1, .int ht), (2, .long pa), (4, .int o0), (5, .int x0v), (6, .long rt)]) hx hb dX7_head_6 hl (by decide) rfl (fun ls hl => ?_)
    refine lv_aload_n hx hb dX7_head_8 rfl (lv_at hl 1 rfl) ?_
    refine lv_iload hx hb dX7_head_9 (lv_at hl 5 rfl) ?_
    refine wg_cq hS (wg_rV (As := [.int x0v]) (rest := []) F hP hS (c_X7_setAt l E A C (lc_ns (st_B S)) f1 x0v ins x0 x1) ok_X7_setAt tb_227 rfl rfl ⟨Nat.le_of_ble_eq_true rfl, Nat.le_of_ble_eq_true rfl⟩ x0 rfl rfl rfl hl.1 rfl (Nat.le_of_ble_eq_true rfl) dX7_head_11 ⟨Nat.le_of_ble_eq_true rfl, Nat.le_of_ble_eq_true rfl⟩) (fun r_11 A1 C_11 H locs w_11 hP hS => ?_)
    obtain ⟨w_11, rfl, rfl⟩ := w_11
    rcases hx_k : lc_ix x0v (lc_ns (st_B S)) with _ | k
    · refine wg_none (by rw [w_11, lc_at_ix (by omega) x1f, hx_k]; rfl) ?_
      refine lv_astoreN (lv' := [(9, .null), (8, .ref (A (100 + i))), (0, .ref (A 0)), (1, .int ht), (2, .long pa), (4, .int o0), (5, .int x0v), (6, .long rt)]) hx hb dX7_head_14 hl (by decide) rfl (fun ls hl => ?_)
      refine lv_iload_n hx hb dX7_head_16 rfl (lv_at hl 3 rfl) ?_
      refine wg_ci hS (wg_rS (As := [.int ht]) (rest := []) F hP hS (c_X7_isHeight l E A C ht) ok_X7_isHeight tb_231 rfl rfl ⟨Nat.le_of_ble_eq_true rfl, Nat.le_of_ble_eq_true rfl⟩ rfl hl.1 rfl (Nat.le_of_ble_eq_true rfl) dX7_head_17 ⟨Nat.le_of_ble_eq_true rfl, Nat.le_of_ble_eq_true rfl⟩) (fun r_17 A1 C_17 H locs w_17 hP hS => ?_)
      obtain ⟨w_17, rfl, rfl⟩ := w_17
      rcases w_17 with ⟨x, hx5, ex, w2⟩ | ⟨ho, w2⟩
      · have hxh : lc_ix ht 100001 = some x := by rw [ex]; exact lc_ix_in (by omega) (by decide)
        refine lv_if_eq (tgt := 33) hx hb dX7_head_20 (by decide) (fun c_20 => ?_) (fun c_20 => ?_)
        · exact absurd (w2.symm.trans c_20) (by decide)
        · refine lv_aload hx hb dX7_head_23 (lv_at hl 1 rfl) ?_
          refine lv_ifnull hx hb dX7_head_25 ?_
          refine lv_aloadN hx hb dX7_head_28 (lv_at hl 0 rfl) ?_
          refine lv_ifnonnullN hx hb dX7_head_30 ?_
          have hop : op_head S ht pa o0 x0v rt = (-1, S) := by unfold op_head; rw [hxh, hx_i, hx_k]
          refine lv_iconst (v := (-1)) hx hb dX7_head_33 (by decide) ?_
          refine W.widen (k := 1) (n := 8) (Nat.le_of_ble_eq_true rfl) (Nat.le_of_ble_eq_true rfl) ?_
          exact wg_iret F hP hS hr hlk (⟨fun _ _ => rfl, fun _ _ => rfl, by rw [hop], by rw [hop]; exact hX⟩) dX7_head_34
      · simp only [Int32.lt_iff_toInt_lt, lc_t0i, nI_toInt (show 100000 < 2 ^ 31 by decide)] at ho
        have hxh : lc_ix ht 100001 = none := lc_ix_no (by omega)
        refine lv_if_eq (tgt := 33) hx hb dX7_head_20 (by decide) (fun c_20 => ?_) (fun c_20 => ?_)
        · have hop : op_head S ht pa o0 x0v rt = (-1, S) := by unfold op_head; rw [hxh]
          refine lv_iconst (v := (-1)) hx hb dX7_head_33 (by decide) ?_
          refine W.widen (k := 1) (n := 8) (Nat.le_of_ble_eq_true rfl) (Nat.le_of_ble_eq_true rfl) ?_
          exact wg_iret F hP hS hr hlk (⟨fun _ _ => rfl, fun _ _ => rfl, by rw [hop], by rw [hop]; exact hX⟩) dX7_head_34
        · exact absurd w2 c_20
    · refine wg_some (x := A (100 + k)) (by rw [w_11, lc_at_ix (by omega) x1f, hx_k]; rfl) ?_
      obtain ⟨hk, ek, tk⟩ := lc_ix_some hx_k
      have xs_k : C (100 + k) = some (.inr (6, [.int (nI k), .long (lN (lc_sa (st_B S) k)), .long (lN (lc_sb (st_B S) k)), .int (nI (lc_tot (lc_sa (st_B S) k) (lc_sb (st_B S) k)))])) := hDB.1 _ hk
      refine lv_astore (lv' := [(9, .ref (A (100 + k))), (8, .ref (A (100 + i))), (0, .ref (A 0)), (1, .int ht), (2, .long pa), (4, .int o0), (5, .int x0v), (6, .long rt)]) hx hb dX7_head_14 hl (by decide) rfl (fun ls hl => ?_)
      refine lv_iload_n hx hb dX7_head_16 rfl (lv_at hl 3 rfl) ?_
      refine wg_ci hS (wg_rS (As := [.int ht]) (rest := []) F hP hS (c_X7_isHeight l E A C ht) ok_X7_isHeight tb_231 rfl rfl ⟨Nat.le_of_ble_eq_true rfl, Nat.le_of_ble_eq_true rfl⟩ rfl hl.1 rfl (Nat.le_of_ble_eq_true rfl) dX7_head_17 ⟨Nat.le_of_ble_eq_true rfl, Nat.le_of_ble_eq_true rfl⟩) (fun r_17 A1 C_17 H locs w_17 hP hS => ?_)
      obtain ⟨w_17, rfl, rfl⟩ := w_17
      rcases w_17 with ⟨x, hx5, ex, w2⟩ | ⟨ho, w2⟩
      · have hxh : lc_ix ht 100001 = some x := by rw [ex]; exact lc_ix_in (by omega) (by decide)
        refine lv_if_eq (tgt := 33) hx hb dX7_head_20 (by decide) (fun c_20 => ?_) (fun c_20 => ?_)
        · exact absurd (w2.symm.trans c_20) (by decide)
        · refine lv_aload hx hb dX7_head_23 (lv_at hl 1 rfl) ?_
          refine lv_ifnull hx hb dX7_head_25 ?_
          refine lv_aload hx hb dX7_head_28 (lv_at hl 0 rfl) ?_
          refine lv_ifnonnull (tgt := 35) hx hb dX7_head_30 (by decide) ?_
          refine lv_aload_n hx hb dX7_head_35 rfl (lv_at hl 2 rfl) ?_
          refine wg_get F hP x0 rfl iw_X7 2 (by decide) tb_165 rfl rfl dX7_head_36 ?_
          refine wg_ci hS (wg_rVN (As := []) (rest := []) F hP hS (c_X3_isFull l E A C 2 3 60 (lc_nh (st_B S)) f3 inh (by decide) x2 x3) ok_X3_isFull nb_235 rfl rfl ⟨Nat.le_of_ble_eq_true rfl, Nat.le_of_ble_eq_true rfl⟩ x2 rfl rfl rfl hl.1 rfl (Nat.le_of_ble_eq_true rfl) dX7_head_39 ⟨Nat.le_of_ble_eq_true rfl, Nat.le_of_ble_eq_true rfl⟩) (fun r_39 A1 C_39 H locs w_39 hP hS => ?_)
          obtain ⟨w_39, rfl, rfl⟩ := w_39
          refine lv_if_eq (tgt := 48) hx hb dX7_head_42 (by decide) (fun c_42 => ?_) (fun c_42 => ?_)
          · have hnh : lc_nh (st_B S) < 60 := Decidable.byContradiction (fun q => by rw [w_39, if_neg q] at c_42; exact absurd c_42 (by decide))
            have hop : op_head S ht pa o0 x0v rt = (nI (lc_nh (st_B S)), up_B S (up_hd (st_B S) x pa i k rt)) := by unfold op_head; rw [hxh, hx_i, hx_k]; exact if_pos hnh
            refine lv_aload_n hx hb dX7_head_48 rfl (lv_at hl 2 rfl) ?_
            refine wg_get F hP x0 rfl iw_X7 2 (by decide) tb_165 rfl rfl dX7_head_49 ?_
            refine wg_getN F hP x2 rfl iw_X3 1 (by decide) nb_36 rfl rfl dX7_head_52 ?_
            refine lv_istore (lv' := [(10, .int (nI (lc_nh (st_B S)))), (9, .ref (A (100 + k))), (8, .ref (A (100 + i))), (0, .ref (A 0)), (1, .int ht), (2, .long pa), (4, .int o0), (5, .int x0v), (6, .long rt)]) hx hb dX7_head_55 hl (by decide) rfl (fun ls hl => ?_)
            refine lv_aload_n hx hb dX7_head_57 rfl (lv_at hl 3 rfl) ?_
            refine wg_get F hP x0 rfl iw_X7 2 (by decide) tb_165 rfl rfl dX7_head_58 ?_
            refine wg_newF (ci := 2) F hP hS (200 + lc_nh (st_B S)) [.int 0, .int 0, .long 0, .null, .null, .long 0, .long 0, .int 0] rfl iw_X2 tyX2_ok tb_239 tb_240 tb_10 (fun j hj => by rcases (show j = 0 ∨ j = 1 ∨ j = 2 ∨ j = 3 ∨ j = 4 ∨ j = 5 ∨ j = 6 ∨ j = 7 by omega) with rfl | rfl | rfl | rfl | rfl | rfl | rfl | rfl <;> rfl) (Nat.le_of_ble_eq_true rfl) (Nat.le_of_ble_eq_true rfl) dX7_head_61 (fun q_61 H hP hS => ?_)
            obtain ⟨A_61, hA_61⟩ : ∃ z : Nat → Nat, z = va_up A (200 + lc_nh (st_B S)) q_61 := ⟨_, rfl⟩
            obtain ⟨C_61, hC_61⟩ : ∃ z : wg_C, z = va_up C (200 + lc_nh (st_B S)) (some (.inr (2, [.int 0, .int 0, .long 0, .null, .null, .long 0, .long 0, .int 0]))) := ⟨_, rfl⟩
            have hP : wg_P E A_61 C_61 H := by rw [hA_61, hC_61]; exact hP
            have an_61 : q_61 = A_61 (200 + lc_nh (st_B S)) := by rw [hA_61]; exact (va_up_self _ _ _).symm
            have am_61_0 : A_61 (100 + k) = A (100 + k) := by rw [hA_61]; rw [va_up_ne _ _ (by omega)]
            have am_61_1 : A_61 (100 + i) = A (100 + i) := by rw [hA_61]; rw [va_up_ne _ _ (by omega)]
            have am_61_2 : A_61 0 = A 0 := by rw [hA_61]; rw [va_up_ne _ _ (by omega)]
            have am_61_3 : A_61 2 = A 2 := by rw [hA_61]; rw [va_up_ne _ _ (by omega)]
            have am_61_4 : A_61 1 = A 1 := by rw [hA_61]; rw [va_up_ne _ _ (by omega)]
            have am_61_5 : A_61 4 = A 4 := by rw [hA_61]; rw [va_up_ne _ _ (by omega)]
            have am_61_6 : A_61 5 = A 5 := by rw [hA_61]; rw [va_up_ne _ _ (by omega)]
            have am_61_7 : A_61 6 = A 6 := by rw [hA_61]; rw [va_up_ne _ _ (by omega)]
            have am_61_8 : A_61 7 = A 7 := by rw [hA_61]; rw [va_up_ne _ _ (by omega)]
            have am_61_9 : A_61 8 = A 8 := by rw [hA_61]; rw [va_up_ne _ _ (by omega)]
            have am_61_10 : A_61 11 = A 11 := by rw [hA_61]; rw [va_up_ne _ _ (by omega)]
            have am_61_11 : A_61 3 = A 3 := by rw [hA_61]; rw [va_up_ne _ _ (by omega)]
            have am_61_12 : A_61 9 = A 9 := by rw [hA_61]; rw [va_up_ne _ _ (by omega)]
            have am_61_13 : A_61 10 = A 10 := by rw [hA_61]; rw [va_up_ne _ _ (by omega)]
            have am_61_14 : A_61 12 = A 12 := by rw [hA_61]; rw [va_up_ne _ _ (by omega)]
            have am_61_15 : A_61 13 = A 13 := by rw [hA_61]; rw [va_up_ne _ _ (by omega)]
            have x0_c61 : C_61 0 = some (.inr (7, [.ref (A_61 1), .int (nI (lc_ns (st_B S))), .ref (A_61 2), .ref (A_61 4), .ref (A_61 5), .ref (A_61 6), .ref (A_61 7), .ref (A_61 8), .ref (A_61 11)])) := by rw [hC_61]; rw [va_up_ne _ _ (by omega)]; rw [am_61_4, am_61_3, am_61_5, am_61_6, am_61_7, am_61_8, am_61_9, am_61_10]; exact x0
            have x1_c61 : C_61 1 = some (.inl (E.2.1 3, 16, .inr (.inr (.inr (.inr f1))))) := by rw [hC_61]; rw [va_up_ne _ _ (by omega)]; exact x1
            have x2_c61 : C_61 2 = some (.inr (3, [.ref (A_61 3), .int (nI (lc_nh (st_B S)))])) := by rw [hC_61]; rw [va_up_ne _ _ (by omega)]; rw [am_61_11]; exact x2
            have x3_c61 : C_61 3 = some (.inl (E.2.1 4, 60, .inr (.inr (.inr (.inr f3))))) := by rw [hC_61]; rw [va_up_ne _ _ (by omega)]; exact x3
            have x4_c61 : C_61 4 = some (.inl (E.2.1 0, 4, .inl (fun k => nI (st_tm S k)))) := by rw [hC_61]; rw [va_up_ne _ _ (by omega)]; exact x4
            have x5_c61 : C_61 5 = some (.inl (E.2.1 5, 4, .inr (.inr (.inr (.inr f5))))) := by rw [hC_61]; rw [va_up_ne _ _ (by omega)]; exact x5
            have x6_c61 : C_61 6 = some (.inl (E.2.1 6, 4, .inr (.inr (.inr (.inr f6))))) := by rw [hC_61]; rw [va_up_ne _ _ (by omega)]; exact x6
            have x7_c61 : C_61 7 = some (.inl (E.2.1 0, 32, .inl f7)) := by rw [hC_61]; rw [va_up_ne _ _ (by omega)]; exact x7
            have x8_c61 : C_61 8 = some (.inr (5, [.ref (A_61 9), .ref (A_61 10)])) := by rw [hC_61]; rw [va_up_ne _ _ (by omega)]; rw [am_61_12, am_61_13]; exact x8
            have x9_c61 : C_61 9 = some (.inl (E.2.1 1, 8, .inr (.inl ((st_lf S))))) := by rw [hC_61]; rw [va_up_ne _ _ (by omega)]; exact x9
            have x10_c61 : C_61 10 = some (.inl (E.2.1 1, 16, .inr (.inl nd))) := by rw [hC_61]; rw [va_up_ne _ _ (by omega)]; exact x10
            have x11_c61 : C_61 11 = some (.inr (4, [.int (nI (st_pa S)), .int (nI (st_pb S)), .long (st_va S), .long (st_vb S), .ref (A_61 12), .int (nI (lc_cnt (st_pa S) (st_pb S) 1)), .ref (A_61 13)])) := by rw [hC_61]; rw [va_up_ne _ _ (by omega)]; rw [am_61_14, am_61_15]; exact x11
            have x12_c61 : C_61 12 = some (.inl (E.2.1 1, 4, .inr (.inl ((st_pn S))))) := by rw [hC_61]; rw [va_up_ne _ _ (by omega)]; exact x12
            have x13_c61 : C_61 13 = some (.inl (E.2.1 1, 16, .inr (.inl rk))) := by rw [hC_61]; rw [va_up_ne _ _ (by omega)]; exact x13
            have xs_i_c61 : C_61 (100 + i) = some (.inr (6, [.int (nI i), .long (lN (lc_sa (st_B S) i)), .long (lN (lc_sb (st_B S) i)), .int (nI (lc_tot (lc_sa (st_B S) i) (lc_sb (st_B S) i)))])) := by rw [hC_61]; rw [va_up_ne _ _ (by omega)]; exact xs_i
            have xs_k_c61 : C_61 (100 + k) = some (.inr (6, [.int (nI k), .long (lN (lc_sa (st_B S) k)), .long (lN (lc_sb (st_B S) k)), .int (nI (lc_tot (lc_sa (st_B S) k) (lc_sb (st_B S) k)))])) := by rw [hC_61]; rw [va_up_ne _ _ (by omega)]; exact xs_k
            have f200lc_nhst_BS_c61 : C_61 (200 + lc_nh (st_B S)) = some (.inr (2, [.int 0, .int 0, .long 0, .null, .null, .long 0, .long 0, .int 0])) := by rw [hC_61]; exact va_up_self _ _ _
            have hl : lv_has ls 11 [(10, .int (nI (lc_nh (st_B S)))), (9, .ref (A_61 (100 + k))), (8, .ref (A_61 (100 + i))), (0, .ref (A_61 0)), (1, .int ht), (2, .long pa), (4, .int o0), (5, .int x0v), (6, .long rt)] := by rw [am_61_0, am_61_1, am_61_2]; exact hl
            refine W.eq (g2 := F0 m 64 ls [.ref (A_61 (200 + lc_nh (st_B S))), .ref (A_61 2)]) (by rw [← an_61, am_61_3]) ?_
            clear am_61_0 am_61_1 am_61_2 am_61_3 am_61_4 am_61_5 am_61_6 am_61_7 am_61_8 am_61_9 am_61_10 am_61_11 am_61_12 am_61_13 am_61_14 am_61_15 an_61
            refine lv_dup hx hb dX7_head_64 rfl ?_
            refine lv_iload hx hb dX7_head_65 (lv_at hl 0 rfl) ?_
            refine lv_iload_n hx hb dX7_head_67 rfl (lv_at hl 4 rfl) ?_
            refine wg_topi (y := nI x) ex ?_
            refine lv_lload_n hx hb dX7_head_68 rfl (lv_at hl 5 rfl) ?_
            refine lv_aload hx hb dX7_head_69 (lv_at hl 2 rfl) ?_
            refine lv_aload hx hb dX7_head_71 (lv_at hl 1 rfl) ?_
            refine lv_lload hx hb dX7_head_73 (lv_at hl 8 rfl) ?_
            refine wg_cv hS (wg_rIN (As := [.int (nI (lc_nh (st_B S))), .int (nI x), .long pa, .ref (A_61 (100 + i)), .ref (A_61 (100 + k)), .long rt]) (rest := [.ref (A_61 (200 + lc_nh (st_B S))), .ref (A_61 2)]) F hP hS (c_X2_init l E A_61 C_61 (200 + lc_nh (st_B S)) (100 + i) (100 + k) _ _ _ _ _ _ _ _ _ _ _ _ (by omega) (by omega) f200lc_nhst_BS_c61 xs_i_c61 xs_k_c61) ok_X2_init nb_241 rfl rfl ⟨Nat.le_of_ble_eq_true rfl, Nat.le_of_ble_eq_true rfl⟩ rfl hl.1 rfl (Nat.le_of_ble_eq_true rfl) dX7_head_75 ⟨Nat.le_of_ble_eq_true rfl, Nat.le_of_ble_eq_true rfl⟩) (fun A1 C_75 H locs w_75 hP hS => ?_)
            obtain ⟨rfl, hC_75⟩ := w_75
            have x0_c75 : C_75 0 = some (.inr (7, [.ref (A_61 1), .int (nI (lc_ns (st_B S))), .ref (A_61 2), .ref (A_61 4), .ref (A_61 5), .ref (A_61 6), .ref (A_61 7), .ref (A_61 8), .ref (A_61 11)])) := by rw [hC_75]; rw [va_up_ne _ _ (by omega)]; exact x0_c61
            have x1_c75 : C_75 1 = some (.inl (E.2.1 3, 16, .inr (.inr (.inr (.inr f1))))) := by rw [hC_75]; rw [va_up_ne _ _ (by omega)]; exact x1_c61
            have x2_c75 : C_75 2 = some (.inr (3, [.ref (A_61 3), .int (nI (lc_nh (st_B S)))])) := by rw [hC_75]; rw [va_up_ne _ _ (by omega)]; exact x2_c61
            have x3_c75 : C_75 3 = some (.inl (E.2.1 4, 60, .inr (.inr (.inr (.inr f3))))) := by rw [hC_75]; rw [va_up_ne _ _ (by omega)]; exact x3_c61
            have x4_c75 : C_75 4 = some (.inl (E.2.1 0, 4, .inl (fun k => nI (st_tm S k)))) := by rw [hC_75]; rw [va_up_ne _ _ (by omega)]; exact x4_c61
            have x5_c75 : C_75 5 = some (.inl (E.2.1 5, 4, .inr (.inr (.inr (.inr f5))))) := by rw [hC_75]; rw [va_up_ne _ _ (by omega)]; exact x5_c61
            have x6_c75 : C_75 6 = some (.inl (E.2.1 6, 4, .inr (.inr (.inr (.inr f6))))) := by rw [hC_75]; rw [va_up_ne _ _ (by omega)]; exact x6_c61
            have x7_c75 : C_75 7 = some (.inl (E.2.1 0, 32, .inl f7)) := by rw [hC_75]; rw [va_up_ne _ _ (by omega)]; exact x7_c61
            have x8_c75 : C_75 8 = some (.inr (5, [.ref (A_61 9), .ref (A_61 10)])) := by rw [hC_75]; rw [va_up_ne _ _ (by omega)]; exact x8_c61
            have x9_c75 : C_75 9 = some (.inl (E.2.1 1, 8, .inr (.inl ((st_lf S))))) := by rw [hC_75]; rw [va_up_ne _ _ (by omega)]; exact x9_c61
            have x10_c75 : C_75 10 = some (.inl (E.2.1 1, 16, .inr (.inl nd))) := by rw [hC_75]; rw [va_up_ne _ _ (by omega)]; exact x10_c61
            have x11_c75 : C_75 11 = some (.inr (4, [.int (nI (st_pa S)), .int (nI (st_pb S)), .long (st_va S), .long (st_vb S), .ref (A_61 12), .int (nI (lc_cnt (st_pa S) (st_pb S) 1)), .ref (A_61 13)])) := by rw [hC_75]; rw [va_up_ne _ _ (by omega)]; exact x11_c61
            have x12_c75 : C_75 12 = some (.inl (E.2.1 1, 4, .inr (.inl ((st_pn S))))) := by rw [hC_75]; rw [va_up_ne _ _ (by omega)]; exact x12_c61
            have x13_c75 : C_75 13 = some (.inl (E.2.1 1, 16, .inr (.inl rk))) := by rw [hC_75]; rw [va_up_ne _ _ (by omega)]; exact x13_c61
            have xs_i_c75 : C_75 (100 + i) = some (.inr (6, [.int (nI i), .long (lN (lc_sa (st_B S) i)), .long (lN (lc_sb (st_B S) i)), .int (nI (lc_tot (lc_sa (st_B S) i) (lc_sb (st_B S) i)))])) := by rw [hC_75]; rw [va_up_ne _ _ (by omega)]; exact xs_i_c61
            have xs_k_c75 : C_75 (100 + k) = some (.inr (6, [.int (nI k), .long (lN (lc_sa (st_B S) k)), .long (lN (lc_sb (st_B S) k)), .int (nI (lc_tot (lc_sa (st_B S) k) (lc_sb (st_B S) k)))])) := by rw [hC_75]; rw [va_up_ne _ _ (by omega)]; exact xs_k_c61
            have f200lc_nhst_BS_c75 : C_75 (200 + lc_nh (st_B S)) = some (.inr (2, [.int (nI (lc_nh (st_B S))), .int (nI x), .long pa, .ref (A_61 (100 + i)), .ref (A_61 (100 + k)), .long rt, .long (lc_pair (lc_pair (lc_pair (nI x).toInt64 pa) (lc_pair (nI i).toInt64 (nI k).toInt64)) rt), .int 0])) := by rw [hC_75]; exact va_up_self _ _ _
            refine wg_cv hS (wg_rVN (As := [.ref (A_61 (200 + lc_nh (st_B S)))]) (rest := []) F hP hS (c_X3_add l E A_61 C_75 2 3 60 (lc_nh (st_B S)) (200 + lc_nh (st_B S)) f3 _ hnh (by decide) (by decide) (by omega) (by omega) x2_c75 x3_c75 f200lc_nhst_BS_c75) ok_X3_add nb_282 rfl rfl ⟨Nat.le_of_ble_eq_true rfl, Nat.le_of_ble_eq_true rfl⟩ x2_c75 rfl rfl rfl hl.1 rfl (Nat.le_of_ble_eq_true rfl) dX7_head_78 ⟨Nat.le_of_ble_eq_true rfl, Nat.le_of_ble_eq_true rfl⟩) (fun A1 C_78 H locs w_78 hP hS => ?_)
            obtain ⟨rfl, hC_78⟩ := w_78
            have x0_c78 : C_78 0 = some (.inr (7, [.ref (A_61 1), .int (nI (lc_ns (st_B S))), .ref (A_61 2), .ref (A_61 4), .ref (A_61 5), .ref (A_61 6), .ref (A_61 7), .ref (A_61 8), .ref (A_61 11)])) := by rw [hC_78]; rw [va_up_ne _ _ (by decide)]; rw [va_up_ne _ _ (by decide)]; exact x0_c75
            have x1_c78 : C_78 1 = some (.inl (E.2.1 3, 16, .inr (.inr (.inr (.inr f1))))) := by rw [hC_78]; rw [va_up_ne _ _ (by decide)]; rw [va_up_ne _ _ (by decide)]; exact x1_c75
            have x2_c78 : C_78 2 = some (.inr (3, [.ref (A_61 3), .int (nI (lc_nh (st_B S) + 1))])) := by rw [hC_78]; exact va_up_self _ _ _
            have x3_c78 : C_78 3 = some (.inl (E.2.1 4, 60, .inr (.inr (.inr (.inr (va_up f3 (lc_nh (st_B S)) (some (A_61 (200 + lc_nh (st_B S)))))))))) := by rw [hC_78]; rw [va_up_ne _ _ (by decide)]; exact va_up_self _ _ _
            have x4_c78 : C_78 4 = some (.inl (E.2.1 0, 4, .inl (fun k => nI (st_tm S k)))) := by rw [hC_78]; rw [va_up_ne _ _ (by decide)]; rw [va_up_ne _ _ (by decide)]; exact x4_c75
            have x5_c78 : C_78 5 = some (.inl (E.2.1 5, 4, .inr (.inr (.inr (.inr f5))))) := by rw [hC_78]; rw [va_up_ne _ _ (by decide)]; rw [va_up_ne _ _ (by decide)]; exact x5_c75
            have x6_c78 : C_78 6 = some (.inl (E.2.1 6, 4, .inr (.inr (.inr (.inr f6))))) := by rw [hC_78]; rw [va_up_ne _ _ (by decide)]; rw [va_up_ne _ _ (by decide)]; exact x6_c75
            have x7_c78 : C_78 7 = some (.inl (E.2.1 0, 32, .inl f7)) := by rw [hC_78]; rw [va_up_ne _ _ (by decide)]; rw [va_up_ne _ _ (by decide)]; exact x7_c75
            have x8_c78 : C_78 8 = some (.inr (5, [.ref (A_61 9), .ref (A_61 10)])) := by rw [hC_78]; rw [va_up_ne _ _ (by decide)]; rw [va_up_ne _ _ (by decide)]; exact x8_c75
            have x9_c78 : C_78 9 = some (.inl (E.2.1 1, 8, .inr (.inl ((st_lf S))))) := by rw [hC_78]; rw [va_up_ne _ _ (by decide)]; rw [va_up_ne _ _ (by decide)]; exact x9_c75
            have x10_c78 : C_78 10 = some (.inl (E.2.1 1, 16, .inr (.inl nd))) := by rw [hC_78]; rw [va_up_ne _ _ (by decide)]; rw [va_up_ne _ _ (by decide)]; exact x10_c75
            have x11_c78 : C_78 11 = some (.inr (4, [.int (nI (st_pa S)), .int (nI (st_pb S)), .long (st_va S), .long (st_vb S), .ref (A_61 12), .int (nI (lc_cnt (st_pa S) (st_pb S) 1)), .ref (A_61 13)])) := by rw [hC_78]; rw [va_up_ne _ _ (by decide)]; rw [va_up_ne _ _ (by decide)]; exact x11_c75
            have x12_c78 : C_78 12 = some (.inl (E.2.1 1, 4, .inr (.inl ((st_pn S))))) := by rw [hC_78]; rw [va_up_ne _ _ (by decide)]; rw [va_up_ne _ _ (by decide)]; exact x12_c75
            have x13_c78 : C_78 13 = some (.inl (E.2.1 1, 16, .inr (.inl rk))) := by rw [hC_78]; rw [va_up_ne _ _ (by decide)]; rw [va_up_ne _ _ (by decide)]; exact x13_c75
            have xs_i_c78 : C_78 (100 + i) = some (.inr (6, [.int (nI i), .long (lN (lc_sa (st_B S) i)), .long (lN (lc_sb (st_B S) i)), .int (nI (lc_tot (lc_sa (st_B S) i) (lc_sb (st_B S) i)))])) := by rw [hC_78]; rw [va_up_ne _ _ (by omega)]; rw [va_up_ne _ _ (by omega)]; exact xs_i_c75
            have xs_k_c78 : C_78 (100 + k) = some (.inr (6, [.int (nI k), .long (lN (lc_sa (st_B S) k)), .long (lN (lc_sb (st_B S) k)), .int (nI (lc_tot (lc_sa (st_B S) k) (lc_sb (st_B S) k)))])) := by rw [hC_78]; rw [va_up_ne _ _ (by omega)]; rw [va_up_ne _ _ (by omega)]; exact xs_k_c75
            have f200lc_nhst_BS_c78 : C_78 (200 + lc_nh (st_B S)) = some (.inr (2, [.int (nI (lc_nh (st_B S))), .int (nI x), .long pa, .ref (A_61 (100 + i)), .ref (A_61 (100 + k)), .long rt, .long (lc_pair (lc_pair (lc_pair (nI x).toInt64 pa) (lc_pair (nI i).toInt64 (nI k).toInt64)) rt), .int 0])) := by rw [hC_78]; rw [va_up_ne _ _ (by omega)]; rw [va_up_ne _ _ (by omega)]; exact f200lc_nhst_BS_c75
            have hfr : ∀ r, r ≠ 2 → r ≠ 3 → r ≠ 200 + lc_nh (st_B S) → C_78 r = C r := fun r h0 h1 h2 => by rw [hC_78, va_up_ne _ _ h0, va_up_ne _ _ h1, hC_75, va_up_ne _ _ h2, hC_61, va_up_ne _ _ h2]
            have hX2 : lx E A_61 C S := lx_move hX hI (fun r hr => by rw [hA_61]; exact va_up_ne _ _ (by omega))
            have hhd : C_78 (200 + lc_nh (st_B S)) = some (lc_hd A_61 (up_hd (st_B S) x pa i k rt) (lc_nh (st_B S))) := by rw [lc_hd_new]; exact f200lc_nhst_BS_c78
            refine lv_iload hx hb dX7_head_81 (lv_at hl 0 rfl) ?_
            refine W.widen (k := 1) (n := 8) (Nat.le_of_ble_eq_true rfl) (Nat.le_of_ble_eq_true rfl) ?_
            exact wg_iret F hP hS hr hlk (⟨fun q hq => by rw [hA_61]; exact va_up_ne _ _ (by omega), fun q hq => hfr q (by omega) (by omega) (by omega), by rw [hop], by rw [hop]; exact ⟨(hfr 0 (by omega) (by omega) (by omega)).trans hX2.1, hX2.2.1.same (hfr 1 (by omega) (by omega) (by omega)), x2_c78, ⟨_, x3_c78, lc_arr1 hA_61 x3f hnh⟩, (hfr 4 (by omega) (by omega) (by omega)).trans hX2.2.2.2.2.1, hX2.2.2.2.2.2.1.same (hfr 5 (by omega) (by omega) (by omega)), hX2.2.2.2.2.2.2.1.same (hfr 6 (by omega) (by omega) (by omega)), hX2.2.2.2.2.2.2.2.1.same (hfr 7 (by omega) (by omega) (by omega)), hX2.2.2.2.2.2.2.2.2.1.same (fun r h1 h2 => hfr r (by omega) (by omega) (by omega)), hX2.2.2.2.2.2.2.2.2.2.1.same (fun r h1 h2 => hfr r (by omega) (by omega) (by omega)), fun i2 hi2 => (hX2.2.2.2.2.2.2.2.2.2.2.1 i2 hi2).same (fun r h1 => hfr r (by omega) (by omega) (by omega)), fun i2 hi2 => (hX2.2.2.2.2.2.2.2.2.2.2.2.1 i2 hi2).same (fun r h1 => hfr r (by omega) (by omega) (by omega)), hX2.2.2.2.2.2.2.2.2.2.2.2.2.addhead hnh hx5 hi hk (fun r h1 h2 h3 => hfr r (by omega) (by omega) h3) hhd⟩⟩) dX7_head_83
          · have hop : op_head S ht pa o0 x0v rt = (-3, S) := by unfold op_head; rw [hxh, hx_i, hx_k]; exact if_neg (fun q => by rw [w_39, if_pos q] at c_42; exact c_42 rfl)
            refine lv_bipush (v := (-3)) hx hb dX7_head_45 (by decide) ?_
            refine W.widen (k := 1) (n := 8) (Nat.le_of_ble_eq_true rfl) (Nat.le_of_ble_eq_true rfl) ?_
            exact wg_iret F hP hS hr hlk (⟨fun _ _ => rfl, fun _ _ => rfl, by rw [hop], by rw [hop]; exact hX⟩) dX7_head_47
      · simp only [Int32.lt_iff_toInt_lt, lc_t0i, nI_toInt (show 100000 < 2 ^ 31 by decide)] at ho
        have hxh : lc_ix ht 100001 = none := lc_ix_no (by omega)
        refine lv_if_eq (tgt := 33) hx hb dX7_head_20 (by decide) (fun c_20 => ?_) (fun c_20 => ?_)
        · have hop : op_head S ht pa o0 x0v rt = (-1, S) := by unfold op_head; rw [hxh]
          refine lv_iconst (v := (-1)) hx hb dX7_head_33 (by decide) ?_
          refine W.widen (k := 1) (n := 8) (Nat.le_of_ble_eq_true rfl) (Nat.le_of_ble_eq_true rfl) ?_
          exact wg_iret F hP hS hr hlk (⟨fun _ _ => rfl, fun _ _ => rfl, by rw [hop], by rw [hop]; exact hX⟩) dX7_head_34
        · exact absurd w2 c_20
