set_option maxHeartbeats 4000000 in
set_option maxRecDepth 100000 in
theorem c_X7_climb (l : Launch) (E : wg_E) (A : Nat → Nat) (C : wg_C) (S : lc_S) (i k x : Nat) (hX : lx E A C S) (hI : lc_inv S) (hi : i < 4) (hk : k < 4) (hx5 : x ≤ 100000) (hcn : st_cn S i ≠ 0)  : Met l yX7_climb (wg_ws yX7_climb cX7_climb 10 (some .int)) (wg_rm 5 0 0) (wg_Pc E A C [.ref (A 0), .ref (A (20 + i)), .ref (A (32 + k)), .int (nI x)]) (wg_Qi E (fun r A1 C1 => A = A1 ∧ r = (op_climb i k 200020 S [x]).1 ∧ lx E A C1 (op_climb i k 200020 S [x]).2 ∧ ∀ q, 1000 ≤ q → C1 q = C q)) 0 0 (wg_A E) := by
  refine wg_met (by decide) (Nat.le_of_ble_eq_true rfl) ?_
  intro p e s m below meth c ls F hr hlk hnm hP hS hl
  have F : wg_F p m c cX7_climb 10 s ([.ref (A 0), .ref (A (20 + i)), .ref (A (32 + k)), .int (nI x)] : List Value).toArray "LightChecks" E := F
  have hx := F.1
  have hb := F.2.1
  have hml := F.2.2.1
  have hown := F.2.2.2.1
  have hts := F.2.2.2.2.1
  have hl : lv_has ls 10 [(0, .ref (A 0)), (1, .ref (A (20 + i))), (2, .ref (A (32 + k))), (3, .int (nI x))] := hl
  obtain ⟨x0, ⟨f1, x1, x1f⟩, x2, ⟨f3, x3, x3f⟩, x4, ⟨f5, x5, x5f⟩, ⟨f6, x6, x6f⟩, ⟨f7, x7⟩, ⟨x8, x9, nd, x10, hnd⟩, ⟨x11, x12, rk, x13⟩, xc, xg, hDB⟩ := id hX
  obtain ⟨iok, ⟨itm, itm3a, itm3b⟩, icl, igv, ipa, ipb, ipab⟩ := id hI
  have ins := iok.1
  have inh := iok.2.1
  obtain ⟨fc_i, xc1_i, xc2_i, xc3_i, xcf_i⟩ := xc i hi
  obtain ⟨icn_i, icg_i⟩ := icl i hi
  obtain ⟨fg_k, xg1_k, xg2_k, xg3_k, xgf_k⟩ := xg k hk
  obtain ⟨ign_k, igg_k, igd_k⟩ := igv k hk
  refine lv_aload_n hx hb dX7_climb_0 rfl (lv_at hl 0 rfl) ?_
  refine wg_get F hP x0 rfl iw_X7 6 (by decide) tb_169 rfl rfl dX7_climb_1 ?_
  refine lv_iconst (v := 0) hx hb dX7_climb_4 (by decide) ?_
  refine lv_iload_n hx hb dX7_climb_5 rfl (lv_at hl 3 rfl) ?_
  refine wg_ist F hP hS x7 (vp_in_nI (n := 0) (by decide) (by decide)) dX7_climb_6 (fun H locs hP hS => ?_)
  obtain ⟨C_6, hC_6⟩ : ∃ z : wg_C, z = va_up C 7 (some (.inl (E.2.1 0, 32, .inl (upd f7 (0 : Int32).toNatClampNeg (nI x))))) := ⟨_, rfl⟩
  have hP : wg_P E A C_6 H := by rw [hC_6]; exact hP
  have x0_c6 : C_6 0 = some (.inr (7, [.ref (A 1), .int (nI (lc_ns (st_B S))), .ref (A 2), .ref (A 4), .ref (A 5), .ref (A 6), .ref (A 7), .ref (A 8), .ref (A 11)])) := by rw [hC_6]; rw [va_up_ne _ _ (by decide)]; exact x0
  have x1_c6 : C_6 1 = some (.inl (E.2.1 3, 16, .inr (.inr (.inr (.inr f1))))) := by rw [hC_6]; rw [va_up_ne _ _ (by decide)]; exact x1
  have x2_c6 : C_6 2 = some (.inr (3, [.ref (A 3), .int (nI (lc_nh (st_B S)))])) := by rw [hC_6]; rw [va_up_ne _ _ (by decide)]; exact x2
  have x3_c6 : C_6 3 = some (.inl (E.2.1 4, 60, .inr (.inr (.inr (.inr f3))))) := by rw [hC_6]; rw [va_up_ne _ _ (by decide)]; exact x3
  have x4_c6 : C_6 4 = some (.inl (E.2.1 0, 4, .inl (fun k => nI (st_tm S k)))) := by rw [hC_6]; rw [va_up_ne _ _ (by decide)]; exact x4
  have x5_c6 : C_6 5 = some (.inl (E.2.1 5, 4, .inr (.inr (.inr (.inr f5))))) := by rw [hC_6]; rw [va_up_ne _ _ (by decide)]; exact x5
  have x6_c6 : C_6 6 = some (.inl (E.2.1 6, 4, .inr (.inr (.inr (.inr f6))))) := by rw [hC_6]; rw [va_up_ne _ _ (by decide)]; exact x6
  have x7_c6 : C_6 7 = some (.inl (E.2.1 0, 32, .inl (upd f7 (0 : Int32).toNatClampNeg (nI x)))) := by rw [hC_6]; exact va_up_self _ _ _
  have x8_c6 : C_6 8 = some (.inr (5, [.ref (A 9), .ref (A 10)])) := by rw [hC_6]; rw [va_up_ne _ _ (by decide)]; exact x8
  have x9_c6 : C_6 9 = some (.inl (E.2.1 1, 8, .inr (.inl ((st_lf S))))) := by rw [hC_6]; rw [va_up_ne _ _ (by decide)]; exact x9
  have x10_c6 : C_6 10 = some (.inl (E.2.1 1, 16, .inr (.inl nd))) := by rw [hC_6]; rw [va_up_ne _ _ (by decide)]; exact x10
  have x11_c6 : C_6 11 = some (.inr (4, [.int (nI (st_pa S)), .int (nI (st_pb S)), .long (st_va S), .long (st_vb S), .ref (A 12), .int (nI (lc_cnt (st_pa S) (st_pb S) 1)), .ref (A 13)])) := by rw [hC_6]; rw [va_up_ne _ _ (by decide)]; exact x11
  have x12_c6 : C_6 12 = some (.inl (E.2.1 1, 4, .inr (.inl ((st_pn S))))) := by rw [hC_6]; rw [va_up_ne _ _ (by decide)]; exact x12
  have x13_c6 : C_6 13 = some (.inl (E.2.1 1, 16, .inr (.inl rk))) := by rw [hC_6]; rw [va_up_ne _ _ (by decide)]; exact x13
  have xc1_i_c6 : C_6 (20 + i) = some (.inr (0, [.ref (A (24 + i)), .int (st_co S i), .int (st_rb S i), .int (st_ra S i)])) := by rw [hC_6]; rw [va_up_ne _ _ (by omega)]; exact xc1_i
  have xc2_i_c6 : C_6 (24 + i) = some (.inr (3, [.ref (A (28 + i)), .int (nI (st_cn S i))])) := by rw [hC_6]; rw [va_up_ne _ _ (by omega)]; exact xc2_i
  have xc3_i_c6 : C_6 (28 + i) = some (.inl (E.2.1 4, 11, .inr (.inr (.inr (.inr fc_i))))) := by rw [hC_6]; rw [va_up_ne _ _ (by omega)]; exact xc3_i
  have xg1_k_c6 : C_6 (32 + k) = some (.inr (1, [.ref (A (36 + k))])) := by rw [hC_6]; rw [va_up_ne _ _ (by omega)]; exact xg1_k
  have xg2_k_c6 : C_6 (36 + k) = some (.inr (3, [.ref (A (40 + k)), .int (nI (st_gn S k))])) := by rw [hC_6]; rw [va_up_ne _ _ (by omega)]; exact xg2_k
  have xg3_k_c6 : C_6 (40 + k) = some (.inl (E.2.1 4, 60, .inr (.inr (.inr (.inr fg_k))))) := by rw [hC_6]; rw [va_up_ne _ _ (by omega)]; exact xg3_k
  have hfr0 : ∀ r, r ≠ 7 → C_6 r = C r := fun r h1 => by rw [hC_6, va_up_ne _ _ h1]
  have hX0 : lx E A C_6 S := ⟨(hfr0 0 (by omega)).trans hX.1, hX.2.1.same (hfr0 1 (by omega)), (hfr0 2 (by omega)).trans hX.2.2.1, hX.2.2.2.1.same (hfr0 3 (by omega)), (hfr0 4 (by omega)).trans hX.2.2.2.2.1, hX.2.2.2.2.2.1.same (hfr0 5 (by omega)), hX.2.2.2.2.2.2.1.same (hfr0 6 (by omega)), ⟨_, x7_c6⟩, hX.2.2.2.2.2.2.2.2.1.same (fun r h1 h2 => hfr0 r (by omega)), hX.2.2.2.2.2.2.2.2.2.1.same (fun r h1 h2 => hfr0 r (by omega)), fun i2 hi2 => (hX.2.2.2.2.2.2.2.2.2.2.1 i2 hi2).same (fun r h1 => hfr0 r (by omega)), fun i2 hi2 => (hX.2.2.2.2.2.2.2.2.2.2.2.1 i2 hi2).same (fun r h1 => hfr0 r (by omega)), hX.2.2.2.2.2.2.2.2.2.2.2.2.same (fun r h1 h2 => hfr0 r (by omega))⟩
  refine lv_iconst (v := 1) hx hb dX7_climb_7 (by decide) ?_
  refine lv_istore (lv' := [(4, .int 1), (0, .ref (A 0)), (1, .ref (A (20 + i))), (2, .ref (A (32 + k))), (3, .int (nI x))]) hx hb dX7_climb_8 hl (by decide) rfl (fun ls hl => ?_)
  refine lv_aload_n hx hb dX7_climb_10 rfl (lv_at hl 2 rfl) ?_
  refine wg_cq hS (wg_rVN (As := []) (rest := []) F hP hS (c_X0_trusted l E A C_6 i (st_cn S i) fc_i (st_co S i) (st_rb S i) (st_ra S i) (by omega) xc1_i_c6 xc2_i_c6 xc3_i_c6) ok_X0_trusted nb_350 rfl rfl ⟨Nat.le_of_ble_eq_true rfl, Nat.le_of_ble_eq_true rfl⟩ xc1_i_c6 rfl rfl rfl hl.1 rfl (Nat.le_of_ble_eq_true rfl) dX7_climb_11 ⟨Nat.le_of_ble_eq_true rfl, Nat.le_of_ble_eq_true rfl⟩) (fun r_11 A1 C_11 H locs w_11 hP hS => ?_)
  obtain ⟨w_11, rfl, rfl⟩ := w_11
  refine wg_some (w_11.trans (by rw [show (1 : Int32) = nI 1 from rfl, pk_sub (by omega), lc_at_in (by omega) (by omega)]; exact xcf_i _ (by omega))) ?_
  refine lv_astore (lv' := [(5, .ref (A (200 + st_t S i))), (4, .int 1), (0, .ref (A 0)), (1, .ref (A (20 + i))), (2, .ref (A (32 + k))), (3, .int (nI x))]) hx hb dX7_climb_14 hl (by decide) rfl (fun ls hl => ?_)
  refine lv_iconst (v := 0) hx hb dX7_climb_16 (by decide) ?_
  refine lv_istore (lv' := [(6, .int 0), (5, .ref (A (200 + st_t S i))), (4, .int 1), (0, .ref (A 0)), (1, .ref (A (20 + i))), (2, .ref (A (32 + k))), (3, .int (nI x))]) hx hb dX7_climb_17 hl (by decide) rfl (fun ls hl => ?_)
  have loop_19 : ∀ (fuel : Nat) (S1 : lc_S) (n : Nat) (pl : Nat → Nat) (q : Nat) (tr : Nat) (y4 : Int32) (y6 : Int32) (fp : Nat → Int32), q < fuel → (lc_inv S1) → (st_cn S1 i ≠ 0) → (lc_Pi (lc_hh (st_B S1) (st_t S1 i)) n pl) → (2 * (100000 - lc_hh (st_B S1) (st_t S1 i)) + 19 ≤ q + n) → (tr + q = 200020) → (y4 = nI n) → (y6 = nI tr) → (op_climb i k 200020 S [x] = op_climb i k q S1 (lc_pile pl n)) → (∀ a, a < n → fp a = nI (pl a)) → ∀ (Cw : wg_C) , Cw 7 = some (.inl (E.2.1 0, 32, .inl fp)) → (lx E A Cw S1) → (∀ r, r ≠ 7 → r ≠ 20 + i → r ≠ 24 + i → r ≠ 28 + i → Cw r = C r) → ∀ (H : Heap) (locs : List Loc) (ls : Array Slot), wg_P E A Cw H → va_S (wg_A E) s.heap H locs → lv_has ls 10 [(0, .ref (A 0)), (1, .ref (A (20 + i))), (2, .ref (A (32 + k))), (4, .int y4), (5, .ref (A (200 + st_t S1 i))), (6, .int y6)] → W p l e (wg_rm 5 0 0) s m ([.ref (A 0), .ref (A (20 + i)), .ref (A (32 + k)), .int (nI x)] : List Value).toArray below meth c H locs 0 0 (MQ below (wg_Qi E (fun r A1 C1 => A = A1 ∧ r = (op_climb i k 200020 S [x]).1 ∧ lx E A C1 (op_climb i k 200020 S [x]).2 ∧ ∀ q, 1000 ≤ q → C1 q = C q)) ([.ref (A 0), .ref (A (20 + i)), .ref (A (32 + k)), .int (nI x)] : List Value).toArray s 0 0 (wg_A E)) (F0 m 19 ls []) := by
    intro fuel
    induction fuel with
    | zero => intro S1 n pl q tr y4 y6 fp hm; exact absurd hm (Nat.not_lt_zero _)
    | succ fuel ih_loop_19 =>
      intro S1 n pl q tr y4 y6 fp hm_loop_19 hI1 hcn1 hPi hfuel htr ey4 ey6 hst hfp Cw f7w hX1 hbase H locs ls hP hS hl
      obtain ⟨x0, ⟨f1, x1, x1f⟩, x2, ⟨f3, x3, x3f⟩, x4, ⟨f5, x5, x5f⟩, ⟨f6, x6, x6f⟩, _, ⟨x8, x9, nd, x10, hnd⟩, ⟨x11, x12, rk, x13⟩, xc, xg, hDB⟩ := id hX1
      obtain ⟨iok, ⟨itm, itm3a, itm3b⟩, icl, igv, ipa, ipb, ipab⟩ := id hI1
      have ins := iok.1
      have inh := iok.2.1
      obtain ⟨fc_i, xc1_i, xc2_i, xc3_i, xcf_i⟩ := xc i hi
      obtain ⟨icn_i, icg_i⟩ := icl i hi
      obtain ⟨fg_k, xg1_k, xg2_k, xg3_k, xgf_k⟩ := xg k hk
      obtain ⟨ign_k, igg_k, igd_k⟩ := igv k hk
      have xh_t : Cw (200 + st_t S1 i) = some (.inr (2, [.int (nI (st_t S1 i)), .int (nI (lc_hh (st_B S1) (st_t S1 i))), .long (lc_hp (st_B S1) (st_t S1 i)), .ref (A (100 + lc_ho (st_B S1) (st_t S1 i))), .ref (A (100 + lc_hx (st_B S1) (st_t S1 i))), .long (lc_hr (st_B S1) (st_t S1 i)), .long (lc_dig (st_B S1) (st_t S1 i)), .int (nI (lc_sg (st_B S1) (st_t S1 i)))])) := hDB.2.1 _ (icg_i (st_cn S1 i - 1) (by omega))
      obtain ⟨hk1_t, hk2_t, hk3_t, hk4_t⟩ := iok.2.2.2 _ (icg_i (st_cn S1 i - 1) (by omega))
      have xho_t : Cw (100 + lc_ho (st_B S1) (st_t S1 i)) = some (.inr (6, [.int (nI ((lc_ho (st_B S1) (st_t S1 i)))), .long (lN (lc_sa (st_B S1) ((lc_ho (st_B S1) (st_t S1 i))))), .long (lN (lc_sb (st_B S1) ((lc_ho (st_B S1) (st_t S1 i))))), .int (nI (lc_tot (lc_sa (st_B S1) ((lc_ho (st_B S1) (st_t S1 i)))) (lc_sb (st_B S1) ((lc_ho (st_B S1) (st_t S1 i))))))])) := hDB.1 _ hk2_t
      have xhx_t : Cw (100 + lc_hx (st_B S1) (st_t S1 i)) = some (.inr (6, [.int (nI ((lc_hx (st_B S1) (st_t S1 i)))), .long (lN (lc_sa (st_B S1) ((lc_hx (st_B S1) (st_t S1 i))))), .long (lN (lc_sb (st_B S1) ((lc_hx (st_B S1) (st_t S1 i))))), .int (nI (lc_tot (lc_sa (st_B S1) ((lc_hx (st_B S1) (st_t S1 i)))) (lc_sb (st_B S1) ((lc_hx (st_B S1) (st_t S1 i))))))])) := hDB.1 _ hk3_t
      subst ey4
      have hn17 := lc_Pi_n hPi
      have hT5 : lc_hh (st_B S1) (st_t S1 i) ≤ 100000 := hk1_t
      refine lv_aload hx hb dX7_climb_19 (lv_at hl 4 rfl) ?_
      refine lv_ifnull hx hb dX7_climb_21 ?_
      refine lv_iload hx hb dX7_climb_24 (lv_at hl 3 rfl) ?_
      refine lv_if_le (tgt := 160) hx hb dX7_climb_26 (by decide) (fun c_26 => ?_) (fun c_26 => ?_)
      · have hn0 : n = 0 := by rw [← nI_0, nI_leI (by omega) (by decide)] at c_26; omega
        subst hn0
        have hop : op_climb i k 200020 S [x] = (1, S1) := hst.trans (op_climb_nil _ _ _ _)
        refine lv_iconst (v := 1) hx hb dX7_climb_160 (by decide) ?_
        exact wg_iret F hP hS hr hlk (⟨rfl, by rw [hop], by rw [hop]; exact hX1, fun q hq => hbase q (by omega) (by omega) (by omega) (by omega)⟩) dX7_climb_161
      · obtain ⟨n, rfl⟩ : ∃ z, n = z + 1 := ⟨n - 1, by rw [← nI_0, nI_leI (by omega) (by decide)] at c_26; omega⟩
        obtain ⟨q, rfl⟩ : ∃ z, q = z + 1 := ⟨q - 1, by omega⟩
        have hw5 := hPi.2 n (by omega)
        refine lv_iload hx hb dX7_climb_29 (lv_at hl 5 rfl) ?_
        refine lv_ldc (v := 1000000) hx hb hown (hts _ tb_406) dX7_climb_31 ?_
        refine lv_icmp_ge (tgt := 160) hx hb dX7_climb_33 (by decide) (fun c_33 => ?_) (fun c_33 => ?_)
        · exact absurd c_33 (by rw [ey6, show (1000000 : Int32) = nI 1000000 from rfl, nI_leI (by decide) (by omega)]; omega)
        · refine lv_aload_n hx hb dX7_climb_36 rfl (lv_at hl 0 rfl) ?_
          refine wg_get F hP x0 rfl iw_X7 6 (by decide) tb_169 rfl rfl dX7_climb_37 ?_
          refine lv_iload hx hb dX7_climb_40 (lv_at hl 3 rfl) ?_
          refine lv_iconst (v := 1) hx hb dX7_climb_42 (by decide) ?_
          refine lv_isub hx hb dX7_climb_43 ?_
          refine wg_topi (y := nI n) (nI_m1 n) ?_
          refine wg_ild F hP f7w (vp_in_nI (by omega) (by decide)) dX7_climb_44 ?_
          refine wg_topi (y := nI (pl n)) (by rw [nI_clamp (by omega)]; exact hfp n (by omega)) ?_
          refine lv_istore (lv' := [(7, .int (nI (pl n))), (0, .ref (A 0)), (1, .ref (A (20 + i))), (2, .ref (A (32 + k))), (4, .int (nI (n + 1))), (5, .ref (A (200 + st_t S1 i))), (6, .int y6)]) hx hb dX7_climb_45 hl (by decide) rfl (fun ls hl => ?_)
          refine lv_aload_n hx hb dX7_climb_47 rfl (lv_at hl 3 rfl) ?_
          refine lv_iload hx hb dX7_climb_48 (lv_at hl 0 rfl) ?_
          refine wg_cq hS (wg_rVN (As := [.int (nI (pl n))]) (rest := []) F hP hS (c_X1_headAt l E A Cw k (st_gn S1 k) fg_k (st_gg S1 k) (st_B S1) (pl n) ign_k xgf_k igg_k hDB (by omega) xg1_k xg2_k xg3_k) ok_X1_headAt nb_407 rfl rfl ⟨Nat.le_of_ble_eq_true rfl, Nat.le_of_ble_eq_true rfl⟩ xg1_k rfl rfl rfl hl.1 rfl (Nat.le_of_ble_eq_true rfl) dX7_climb_50 ⟨Nat.le_of_ble_eq_true rfl, Nat.le_of_ble_eq_true rfl⟩) (fun r_50 A1 C_50 H locs w_50 hP hS => ?_)
          obtain ⟨w_50, rfl, rfl⟩ := w_50
          rcases hpl : lc_pl (fun z => lc_hh (st_B S1) (st_gg S1 k z)) (pl n) (st_gn S1 k) with _ | qa
          · refine wg_none (by rw [w_50, hpl]; rfl) ?_
            have hat : op_hat S1 k (pl n) = none := by unfold op_hat; rw [hpl]; rfl
            have hop : op_climb i k 200020 S [x] = (-17, st_ref (st_pay S1 i) i 7 (nI (pl n))) := by rw [hst]; show op_climb i k (q + 1) S1 (pl n :: lc_pile pl n) = _; rw [op_climb_cons, hat]
            refine lv_astoreN (lv' := [(8, .null), (7, .int (nI (pl n))), (0, .ref (A 0)), (1, .ref (A (20 + i))), (2, .ref (A (32 + k))), (4, .int (nI (n + 1))), (5, .ref (A (200 + st_t S1 i))), (6, .int y6)]) hx hb dX7_climb_53 hl (by decide) rfl (fun ls hl => ?_)
            refine lv_aload_n hx hb dX7_climb_55 rfl (lv_at hl 2 rfl) ?_
            refine lv_aload hx hb dX7_climb_56 (lv_at hl 6 rfl) ?_
            refine lv_aloadN hx hb dX7_climb_58 (lv_at hl 0 rfl) ?_
            refine wg_ci hS (wg_rV (As := [.ref (A (200 + st_t S1 i)), .null]) (rest := []) F hP hS (c_X7_refusal0 l E A Cw _) ok_X7_refusal tb_355 rfl rfl ⟨Nat.le_of_ble_eq_true rfl, Nat.le_of_ble_eq_true rfl⟩ x0 rfl rfl rfl hl.1 rfl (Nat.le_of_ble_eq_true rfl) dX7_climb_60 ⟨Nat.le_of_ble_eq_true rfl, Nat.le_of_ble_eq_true rfl⟩) (fun r_60 A1 C_60 H locs w_60 hP hS => ?_)
            obtain ⟨w_60, rfl, rfl⟩ := w_60
            refine wg_topi (y := 7) w_60 ?_
            refine lv_istore (lv' := [(9, .int 7), (8, .null), (7, .int (nI (pl n))), (0, .ref (A 0)), (1, .ref (A (20 + i))), (2, .ref (A (32 + k))), (4, .int (nI (n + 1))), (5, .ref (A (200 + st_t S1 i))), (6, .int y6)]) hx hb dX7_climb_63 hl (by decide) rfl (fun ls hl => ?_)
            refine lv_aload_n hx hb dX7_climb_65 rfl (lv_at hl 4 rfl) ?_
            refine lv_dup hx hb dX7_climb_66 rfl ?_
            refine wg_getN F hP xc1_i rfl iw_X0 1 (by decide) nb_115 rfl rfl dX7_climb_67 ?_
            refine lv_iconst (v := 1) hx hb dX7_climb_70 (by decide) ?_
            refine lv_iadd hx hb dX7_climb_71 ?_
            refine wg_putN F hP hS xc1_i rfl iw_X0 tyX0_ok nmX0 1 (by decide) nb_115 rfl rfl rfl (Nat.le_of_ble_eq_true rfl) dX7_climb_72 (fun H locs hP hS => ?_)
            obtain ⟨C_72, hC_72⟩ : ∃ z : wg_C, z = va_up Cw (20 + i) (some (.inr (0, [.ref (A (24 + i)), .int ((st_co S1 i) + 1), .int (st_rb S1 i), .int (st_ra S1 i)]))) := ⟨_, rfl⟩
            have hP : wg_P E A C_72 H := by rw [hC_72]; exact hP
            have f7w_c72 : C_72 7 = some (.inl (E.2.1 0, 32, .inl fp)) := by rw [hC_72]; rw [va_up_ne _ _ (by omega)]; exact f7w
            have xc1_i_c72 : C_72 (20 + i) = some (.inr (0, [.ref (A (24 + i)), .int ((st_co S1 i) + 1), .int (st_rb S1 i), .int (st_ra S1 i)])) := by rw [hC_72]; exact va_up_self _ _ _
            have xc2_i_c72 : C_72 (24 + i) = some (.inr (3, [.ref (A (28 + i)), .int (nI (st_cn S1 i))])) := by rw [hC_72]; rw [va_up_ne _ _ (by omega)]; exact xc2_i
            have xc3_i_c72 : C_72 (28 + i) = some (.inl (E.2.1 4, 11, .inr (.inr (.inr (.inr fc_i))))) := by rw [hC_72]; rw [va_up_ne _ _ (by omega)]; exact xc3_i
            have xg1_k_c72 : C_72 (32 + k) = some (.inr (1, [.ref (A (36 + k))])) := by rw [hC_72]; rw [va_up_ne _ _ (by omega)]; exact xg1_k
            have xg2_k_c72 : C_72 (36 + k) = some (.inr (3, [.ref (A (40 + k)), .int (nI (st_gn S1 k))])) := by rw [hC_72]; rw [va_up_ne _ _ (by omega)]; exact xg2_k
            have xg3_k_c72 : C_72 (40 + k) = some (.inl (E.2.1 4, 60, .inr (.inr (.inr (.inr fg_k))))) := by rw [hC_72]; rw [va_up_ne _ _ (by omega)]; exact xg3_k
            have x0_c72 : C_72 0 = some (.inr (7, [.ref (A 1), .int (nI (lc_ns (st_B S1))), .ref (A 2), .ref (A 4), .ref (A 5), .ref (A 6), .ref (A 7), .ref (A 8), .ref (A 11)])) := by rw [hC_72]; rw [va_up_ne _ _ (by omega)]; exact x0
            have x1_c72 : C_72 1 = some (.inl (E.2.1 3, 16, .inr (.inr (.inr (.inr f1))))) := by rw [hC_72]; rw [va_up_ne _ _ (by omega)]; exact x1
            have x2_c72 : C_72 2 = some (.inr (3, [.ref (A 3), .int (nI (lc_nh (st_B S1)))])) := by rw [hC_72]; rw [va_up_ne _ _ (by omega)]; exact x2
            have x3_c72 : C_72 3 = some (.inl (E.2.1 4, 60, .inr (.inr (.inr (.inr f3))))) := by rw [hC_72]; rw [va_up_ne _ _ (by omega)]; exact x3
            have x4_c72 : C_72 4 = some (.inl (E.2.1 0, 4, .inl (fun k => nI (st_tm S1 k)))) := by rw [hC_72]; rw [va_up_ne _ _ (by omega)]; exact x4
            have x5_c72 : C_72 5 = some (.inl (E.2.1 5, 4, .inr (.inr (.inr (.inr f5))))) := by rw [hC_72]; rw [va_up_ne _ _ (by omega)]; exact x5
            have x6_c72 : C_72 6 = some (.inl (E.2.1 6, 4, .inr (.inr (.inr (.inr f6))))) := by rw [hC_72]; rw [va_up_ne _ _ (by omega)]; exact x6
            have x8_c72 : C_72 8 = some (.inr (5, [.ref (A 9), .ref (A 10)])) := by rw [hC_72]; rw [va_up_ne _ _ (by omega)]; exact x8
            have x9_c72 : C_72 9 = some (.inl (E.2.1 1, 8, .inr (.inl ((st_lf S1))))) := by rw [hC_72]; rw [va_up_ne _ _ (by omega)]; exact x9
            have x10_c72 : C_72 10 = some (.inl (E.2.1 1, 16, .inr (.inl nd))) := by rw [hC_72]; rw [va_up_ne _ _ (by omega)]; exact x10
            have x11_c72 : C_72 11 = some (.inr (4, [.int (nI (st_pa S1)), .int (nI (st_pb S1)), .long (st_va S1), .long (st_vb S1), .ref (A 12), .int (nI (lc_cnt (st_pa S1) (st_pb S1) 1)), .ref (A 13)])) := by rw [hC_72]; rw [va_up_ne _ _ (by omega)]; exact x11
            have x12_c72 : C_72 12 = some (.inl (E.2.1 1, 4, .inr (.inl ((st_pn S1))))) := by rw [hC_72]; rw [va_up_ne _ _ (by omega)]; exact x12
            have x13_c72 : C_72 13 = some (.inl (E.2.1 1, 16, .inr (.inl rk))) := by rw [hC_72]; rw [va_up_ne _ _ (by omega)]; exact x13
            have xh_t_c72 : C_72 (200 + st_t S1 i) = some (.inr (2, [.int (nI (st_t S1 i)), .int (nI (lc_hh (st_B S1) (st_t S1 i))), .long (lc_hp (st_B S1) (st_t S1 i)), .ref (A (100 + lc_ho (st_B S1) (st_t S1 i))), .ref (A (100 + lc_hx (st_B S1) (st_t S1 i))), .long (lc_hr (st_B S1) (st_t S1 i)), .long (lc_dig (st_B S1) (st_t S1 i)), .int (nI (lc_sg (st_B S1) (st_t S1 i)))])) := by rw [hC_72]; rw [va_up_ne _ _ (by omega)]; exact xh_t
            have xho_t_c72 : C_72 (100 + lc_ho (st_B S1) (st_t S1 i)) = some (.inr (6, [.int (nI ((lc_ho (st_B S1) (st_t S1 i)))), .long (lN (lc_sa (st_B S1) ((lc_ho (st_B S1) (st_t S1 i))))), .long (lN (lc_sb (st_B S1) ((lc_ho (st_B S1) (st_t S1 i))))), .int (nI (lc_tot (lc_sa (st_B S1) ((lc_ho (st_B S1) (st_t S1 i)))) (lc_sb (st_B S1) ((lc_ho (st_B S1) (st_t S1 i))))))])) := by rw [hC_72]; rw [va_up_ne _ _ (by omega)]; exact xho_t
            have xhx_t_c72 : C_72 (100 + lc_hx (st_B S1) (st_t S1 i)) = some (.inr (6, [.int (nI ((lc_hx (st_B S1) (st_t S1 i)))), .long (lN (lc_sa (st_B S1) ((lc_hx (st_B S1) (st_t S1 i))))), .long (lN (lc_sb (st_B S1) ((lc_hx (st_B S1) (st_t S1 i))))), .int (nI (lc_tot (lc_sa (st_B S1) ((lc_hx (st_B S1) (st_t S1 i)))) (lc_sb (st_B S1) ((lc_hx (st_B S1) (st_t S1 i))))))])) := by rw [hC_72]; rw [va_up_ne _ _ (by omega)]; exact xhx_t
            have hDB2 : lc_DB A C_72 (st_B S1) := hDB.same (fun r h1 h2 => by rw [hC_72, va_up_ne _ _ (by omega)])
            refine lv_iload hx hb dX7_climb_75 (lv_at hl 0 rfl) ?_
            refine lv_if_ne (tgt := 102) hx hb dX7_climb_77 (by decide) (fun c_77 => ?_) (fun c_77 => ?_)
            · refine lv_iload hx hb dX7_climb_102 (lv_at hl 0 rfl) ?_
              refine lv_iconst (v := 5) hx hb dX7_climb_104 (by decide) ?_
              refine lv_icmp_eq (tgt := 115) hx hb dX7_climb_105 (by decide) (fun c_105 => ?_) (fun c_105 => ?_)
              · exact absurd c_105 (by decide)
              · refine lv_iload hx hb dX7_climb_108 (lv_at hl 0 rfl) ?_
                refine lv_bipush (v := 6) hx hb dX7_climb_110 (by decide) ?_
                refine lv_icmp_ne (tgt := 145) hx hb dX7_climb_112 (by decide) (fun c_112 => ?_) (fun c_112 => ?_)
                · refine lv_aload_n hx hb dX7_climb_145 rfl (lv_at hl 4 rfl) ?_
                  refine lv_iload hx hb dX7_climb_146 (lv_at hl 0 rfl) ?_
                  refine lv_iload hx hb dX7_climb_148 (lv_at hl 2 rfl) ?_
                  refine wg_ci hS (wg_rVN (As := [.int 7, .int (nI (pl n))]) (rest := []) F hP hS (c_X0_refuse l E A C_72 i (st_cn S1 i) fc_i (st_co S1 i + 1) (st_rb S1 i) (st_ra S1 i) _ _ hi xc1_i_c72) ok_X0_refuse nb_367 rfl rfl ⟨Nat.le_of_ble_eq_true rfl, Nat.le_of_ble_eq_true rfl⟩ xc1_i_c72 rfl rfl rfl hl.1 rfl (Nat.le_of_ble_eq_true rfl) dX7_climb_150 ⟨Nat.le_of_ble_eq_true rfl, Nat.le_of_ble_eq_true rfl⟩) (fun r_150 A1 C_150 H locs w_150 hP hS => ?_)
                  obtain ⟨w_150, rfl, hC_150⟩ := w_150
                  have f7w_c150 : C_150 7 = some (.inl (E.2.1 0, 32, .inl fp)) := by rw [hC_150]; rw [va_up_ne _ _ (by omega)]; exact f7w_c72
                  have xc1_i_c150 : C_150 (20 + i) = some (.inr (0, [.ref (A (24 + i)), .int (st_co S1 i + 1), .int 7, .int (nI (pl n))])) := by rw [hC_150]; exact va_up_self _ _ _
                  have xc2_i_c150 : C_150 (24 + i) = some (.inr (3, [.ref (A (28 + i)), .int (nI (st_cn S1 i))])) := by rw [hC_150]; rw [va_up_ne _ _ (by omega)]; exact xc2_i_c72
                  have xc3_i_c150 : C_150 (28 + i) = some (.inl (E.2.1 4, 11, .inr (.inr (.inr (.inr fc_i))))) := by rw [hC_150]; rw [va_up_ne _ _ (by omega)]; exact xc3_i_c72
                  have xg1_k_c150 : C_150 (32 + k) = some (.inr (1, [.ref (A (36 + k))])) := by rw [hC_150]; rw [va_up_ne _ _ (by omega)]; exact xg1_k_c72
                  have xg2_k_c150 : C_150 (36 + k) = some (.inr (3, [.ref (A (40 + k)), .int (nI (st_gn S1 k))])) := by rw [hC_150]; rw [va_up_ne _ _ (by omega)]; exact xg2_k_c72
                  have xg3_k_c150 : C_150 (40 + k) = some (.inl (E.2.1 4, 60, .inr (.inr (.inr (.inr fg_k))))) := by rw [hC_150]; rw [va_up_ne _ _ (by omega)]; exact xg3_k_c72
                  have x0_c150 : C_150 0 = some (.inr (7, [.ref (A 1), .int (nI (lc_ns (st_B S1))), .ref (A 2), .ref (A 4), .ref (A 5), .ref (A 6), .ref (A 7), .ref (A 8), .ref (A 11)])) := by rw [hC_150]; rw [va_up_ne _ _ (by omega)]; exact x0_c72
                  have x1_c150 : C_150 1 = some (.inl (E.2.1 3, 16, .inr (.inr (.inr (.inr f1))))) := by rw [hC_150]; rw [va_up_ne _ _ (by omega)]; exact x1_c72
                  have x2_c150 : C_150 2 = some (.inr (3, [.ref (A 3), .int (nI (lc_nh (st_B S1)))])) := by rw [hC_150]; rw [va_up_ne _ _ (by omega)]; exact x2_c72
                  have x3_c150 : C_150 3 = some (.inl (E.2.1 4, 60, .inr (.inr (.inr (.inr f3))))) := by rw [hC_150]; rw [va_up_ne _ _ (by omega)]; exact x3_c72
                  have x4_c150 : C_150 4 = some (.inl (E.2.1 0, 4, .inl (fun k => nI (st_tm S1 k)))) := by rw [hC_150]; rw [va_up_ne _ _ (by omega)]; exact x4_c72
                  have x5_c150 : C_150 5 = some (.inl (E.2.1 5, 4, .inr (.inr (.inr (.inr f5))))) := by rw [hC_150]; rw [va_up_ne _ _ (by omega)]; exact x5_c72
                  have x6_c150 : C_150 6 = some (.inl (E.2.1 6, 4, .inr (.inr (.inr (.inr f6))))) := by rw [hC_150]; rw [va_up_ne _ _ (by omega)]; exact x6_c72
                  have x8_c150 : C_150 8 = some (.inr (5, [.ref (A 9), .ref (A 10)])) := by rw [hC_150]; rw [va_up_ne _ _ (by omega)]; exact x8_c72
                  have x9_c150 : C_150 9 = some (.inl (E.2.1 1, 8, .inr (.inl ((st_lf S1))))) := by rw [hC_150]; rw [va_up_ne _ _ (by omega)]; exact x9_c72
                  have x10_c150 : C_150 10 = some (.inl (E.2.1 1, 16, .inr (.inl nd))) := by rw [hC_150]; rw [va_up_ne _ _ (by omega)]; exact x10_c72
                  have x11_c150 : C_150 11 = some (.inr (4, [.int (nI (st_pa S1)), .int (nI (st_pb S1)), .long (st_va S1), .long (st_vb S1), .ref (A 12), .int (nI (lc_cnt (st_pa S1) (st_pb S1) 1)), .ref (A 13)])) := by rw [hC_150]; rw [va_up_ne _ _ (by omega)]; exact x11_c72
                  have x12_c150 : C_150 12 = some (.inl (E.2.1 1, 4, .inr (.inl ((st_pn S1))))) := by rw [hC_150]; rw [va_up_ne _ _ (by omega)]; exact x12_c72
                  have x13_c150 : C_150 13 = some (.inl (E.2.1 1, 16, .inr (.inl rk))) := by rw [hC_150]; rw [va_up_ne _ _ (by omega)]; exact x13_c72
                  have xh_t_c150 : C_150 (200 + st_t S1 i) = some (.inr (2, [.int (nI (st_t S1 i)), .int (nI (lc_hh (st_B S1) (st_t S1 i))), .long (lc_hp (st_B S1) (st_t S1 i)), .ref (A (100 + lc_ho (st_B S1) (st_t S1 i))), .ref (A (100 + lc_hx (st_B S1) (st_t S1 i))), .long (lc_hr (st_B S1) (st_t S1 i)), .long (lc_dig (st_B S1) (st_t S1 i)), .int (nI (lc_sg (st_B S1) (st_t S1 i)))])) := by rw [hC_150]; rw [va_up_ne _ _ (by omega)]; exact xh_t_c72
                  have xho_t_c150 : C_150 (100 + lc_ho (st_B S1) (st_t S1 i)) = some (.inr (6, [.int (nI ((lc_ho (st_B S1) (st_t S1 i)))), .long (lN (lc_sa (st_B S1) ((lc_ho (st_B S1) (st_t S1 i))))), .long (lN (lc_sb (st_B S1) ((lc_ho (st_B S1) (st_t S1 i))))), .int (nI (lc_tot (lc_sa (st_B S1) ((lc_ho (st_B S1) (st_t S1 i)))) (lc_sb (st_B S1) ((lc_ho (st_B S1) (st_t S1 i))))))])) := by rw [hC_150]; rw [va_up_ne _ _ (by omega)]; exact xho_t_c72
                  have xhx_t_c150 : C_150 (100 + lc_hx (st_B S1) (st_t S1 i)) = some (.inr (6, [.int (nI ((lc_hx (st_B S1) (st_t S1 i)))), .long (lN (lc_sa (st_B S1) ((lc_hx (st_B S1) (st_t S1 i))))), .long (lN (lc_sb (st_B S1) ((lc_hx (st_B S1) (st_t S1 i))))), .int (nI (lc_tot (lc_sa (st_B S1) ((lc_hx (st_B S1) (st_t S1 i)))) (lc_sb (st_B S1) ((lc_hx (st_B S1) (st_t S1 i))))))])) := by rw [hC_150]; rw [va_up_ne _ _ (by omega)]; exact xhx_t_c72
                  have hfrw : ∀ r, r ≠ 20 + i → r ≠ 24 + i → r ≠ 28 + i → C_150 r = Cw r := fun r h1 _ _ => by rw [hC_150, va_up_ne _ _ h1, hC_72, va_up_ne _ _ h1]
                  have hcl := lx_cup (S := S1) xc hfrw hi (n := st_cn S1 i) (g := st_cg S1 i) ⟨fc_i, xc1_i_c150, xc2_i_c150, xc3_i_c150, xcf_i⟩
                  rw [lc_vid (st_cn S1), lc_vid (st_cg S1)] at hcl
                  exact wg_iret F hP hS hr hlk (⟨rfl, by rw [hop]; exact w_150, by rw [hop]; exact ⟨(hfrw 0 (by omega) (by omega) (by omega)).trans hX1.1, hX1.2.1.same (hfrw 1 (by omega) (by omega) (by omega)), (hfrw 2 (by omega) (by omega) (by omega)).trans hX1.2.2.1, hX1.2.2.2.1.same (hfrw 3 (by omega) (by omega) (by omega)), (hfrw 4 (by omega) (by omega) (by omega)).trans hX1.2.2.2.2.1, hX1.2.2.2.2.2.1.same (hfrw 5 (by omega) (by omega) (by omega)), hX1.2.2.2.2.2.2.1.same (hfrw 6 (by omega) (by omega) (by omega)), hX1.2.2.2.2.2.2.2.1.same (hfrw 7 (by omega) (by omega) (by omega)), hX1.2.2.2.2.2.2.2.2.1.same (fun r h1 h2 => hfrw r (by omega) (by omega) (by omega)), hX1.2.2.2.2.2.2.2.2.2.1.same (fun r h1 h2 => hfrw r (by omega) (by omega) (by omega)), hcl, fun i2 hi2 => (hX1.2.2.2.2.2.2.2.2.2.2.2.1 i2 hi2).same (fun r h1 => hfrw r (by omega) (by omega) (by omega)), hX1.2.2.2.2.2.2.2.2.2.2.2.2.same (fun r h1 h2 => hfrw r (by omega) (by omega) (by omega))⟩, fun q hq => (hfrw q (by omega) (by omega) (by omega)).trans (hbase q (by omega) (by omega) (by omega) (by omega))⟩) dX7_climb_153
                · exact absurd c_112 (by decide)
            · exact absurd c_77 (by decide)
          · refine wg_some (x := A (200 + st_gg S1 k qa)) (by rw [w_50, hpl]; rfl) ?_
            have hqa := lc_pl_of hpl
            have hgq := igg_k qa hqa.1
            have hh9 : lc_hh (st_B S1) (st_gg S1 k qa) = pl n := hqa.2
            have hat : op_hat S1 k (pl n) = some (st_gg S1 k qa) := by unfold op_hat; rw [hpl]; rfl
            have hcons := hst.trans (op_climb_cons i k q S1 (pl n) (lc_pile pl n))
            rw [hat] at hcons
            simp only [] at hcons
            have xh_v : Cw (200 + st_gg S1 k qa) = some (.inr (2, [.int (nI (st_gg S1 k qa)), .int (nI (lc_hh (st_B S1) (st_gg S1 k qa))), .long (lc_hp (st_B S1) (st_gg S1 k qa)), .ref (A (100 + lc_ho (st_B S1) (st_gg S1 k qa))), .ref (A (100 + lc_hx (st_B S1) (st_gg S1 k qa))), .long (lc_hr (st_B S1) (st_gg S1 k qa)), .long (lc_dig (st_B S1) (st_gg S1 k qa)), .int (nI (lc_sg (st_B S1) (st_gg S1 k qa)))])) := hDB.2.1 _ hgq
            obtain ⟨hk1_v, hk2_v, hk3_v, hk4_v⟩ := iok.2.2.2 _ hgq
            have xho_v : Cw (100 + lc_ho (st_B S1) (st_gg S1 k qa)) = some (.inr (6, [.int (nI ((lc_ho (st_B S1) (st_gg S1 k qa)))), .long (lN (lc_sa (st_B S1) ((lc_ho (st_B S1) (st_gg S1 k qa))))), .long (lN (lc_sb (st_B S1) ((lc_ho (st_B S1) (st_gg S1 k qa))))), .int (nI (lc_tot (lc_sa (st_B S1) ((lc_ho (st_B S1) (st_gg S1 k qa)))) (lc_sb (st_B S1) ((lc_ho (st_B S1) (st_gg S1 k qa))))))])) := hDB.1 _ hk2_v
            have xhx_v : Cw (100 + lc_hx (st_B S1) (st_gg S1 k qa)) = some (.inr (6, [.int (nI ((lc_hx (st_B S1) (st_gg S1 k qa)))), .long (lN (lc_sa (st_B S1) ((lc_hx (st_B S1) (st_gg S1 k qa))))), .long (lN (lc_sb (st_B S1) ((lc_hx (st_B S1) (st_gg S1 k qa))))), .int (nI (lc_tot (lc_sa (st_B S1) ((lc_hx (st_B S1) (st_gg S1 k qa)))) (lc_sb (st_B S1) ((lc_hx (st_B S1) (st_gg S1 k qa))))))])) := hDB.1 _ hk3_v
            refine lv_astore (lv' := [(8, .ref (A (200 + st_gg S1 k qa))), (7, .int (nI (pl n))), (0, .ref (A 0)), (1, .ref (A (20 + i))), (2, .ref (A (32 + k))), (4, .int (nI (n + 1))), (5, .ref (A (200 + st_t S1 i))), (6, .int y6)]) hx hb dX7_climb_53 hl (by decide) rfl (fun ls hl => ?_)
            refine lv_aload_n hx hb dX7_climb_55 rfl (lv_at hl 2 rfl) ?_
            refine lv_aload hx hb dX7_climb_56 (lv_at hl 6 rfl) ?_
            refine lv_aload hx hb dX7_climb_58 (lv_at hl 0 rfl) ?_
            refine wg_ci hS (wg_rV (As := [.ref (A (200 + st_t S1 i)), .ref (A (200 + st_gg S1 k qa))]) (rest := []) F hP hS (c_X7_refusal l E A Cw (lc_ns (st_B S1)) (st_tm S1) (st_B S1) (st_t S1 i) (st_gg S1 k qa) hDB (icg_i (st_cn S1 i - 1) (by omega)) hgq itm x0 x4) ok_X7_refusal tb_355 rfl rfl ⟨Nat.le_of_ble_eq_true rfl, Nat.le_of_ble_eq_true rfl⟩ x0 rfl rfl rfl hl.1 rfl (Nat.le_of_ble_eq_true rfl) dX7_climb_60 ⟨Nat.le_of_ble_eq_true rfl, Nat.le_of_ble_eq_true rfl⟩) (fun r_60 A1 C_60 H locs w_60 hP hS => ?_)
            obtain ⟨w_60, rfl, rfl⟩ := w_60
            have hw6 := lc_why_le (st_B S1) (st_tm S1) (st_t S1 i) (st_gg S1 k qa)
            refine wg_topi (y := nI (lc_why (st_B S1) (st_tm S1) (st_t S1 i) (st_gg S1 k qa))) w_60 ?_
            refine lv_istore (lv' := [(9, .int (nI (lc_why (st_B S1) (st_tm S1) (st_t S1 i) (st_gg S1 k qa)))), (8, .ref (A (200 + st_gg S1 k qa))), (7, .int (nI (pl n))), (0, .ref (A 0)), (1, .ref (A (20 + i))), (2, .ref (A (32 + k))), (4, .int (nI (n + 1))), (5, .ref (A (200 + st_t S1 i))), (6, .int y6)]) hx hb dX7_climb_63 hl (by decide) rfl (fun ls hl => ?_)
            refine lv_aload_n hx hb dX7_climb_65 rfl (lv_at hl 4 rfl) ?_
            refine lv_dup hx hb dX7_climb_66 rfl ?_
            refine wg_getN F hP xc1_i rfl iw_X0 1 (by decide) nb_115 rfl rfl dX7_climb_67 ?_
            refine lv_iconst (v := 1) hx hb dX7_climb_70 (by decide) ?_
            refine lv_iadd hx hb dX7_climb_71 ?_
            refine wg_putN F hP hS xc1_i rfl iw_X0 tyX0_ok nmX0 1 (by decide) nb_115 rfl rfl rfl (Nat.le_of_ble_eq_true rfl) dX7_climb_72 (fun H locs hP hS => ?_)
            obtain ⟨C_72, hC_72⟩ : ∃ z : wg_C, z = va_up Cw (20 + i) (some (.inr (0, [.ref (A (24 + i)), .int ((st_co S1 i) + 1), .int (st_rb S1 i), .int (st_ra S1 i)]))) := ⟨_, rfl⟩
            have hP : wg_P E A C_72 H := by rw [hC_72]; exact hP
            have f7w_c72 : C_72 7 = some (.inl (E.2.1 0, 32, .inl fp)) := by rw [hC_72]; rw [va_up_ne _ _ (by omega)]; exact f7w
            have xc1_i_c72 : C_72 (20 + i) = some (.inr (0, [.ref (A (24 + i)), .int ((st_co S1 i) + 1), .int (st_rb S1 i), .int (st_ra S1 i)])) := by rw [hC_72]; exact va_up_self _ _ _
            have xc2_i_c72 : C_72 (24 + i) = some (.inr (3, [.ref (A (28 + i)), .int (nI (st_cn S1 i))])) := by rw [hC_72]; rw [va_up_ne _ _ (by omega)]; exact xc2_i
            have xc3_i_c72 : C_72 (28 + i) = some (.inl (E.2.1 4, 11, .inr (.inr (.inr (.inr fc_i))))) := by rw [hC_72]; rw [va_up_ne _ _ (by omega)]; exact xc3_i
            have xg1_k_c72 : C_72 (32 + k) = some (.inr (1, [.ref (A (36 + k))])) := by rw [hC_72]; rw [va_up_ne _ _ (by omega)]; exact xg1_k
            have xg2_k_c72 : C_72 (36 + k) = some (.inr (3, [.ref (A (40 + k)), .int (nI (st_gn S1 k))])) := by rw [hC_72]; rw [va_up_ne _ _ (by omega)]; exact xg2_k
            have xg3_k_c72 : C_72 (40 + k) = some (.inl (E.2.1 4, 60, .inr (.inr (.inr (.inr fg_k))))) := by rw [hC_72]; rw [va_up_ne _ _ (by omega)]; exact xg3_k
            have xh_t_c72 : C_72 (200 + st_t S1 i) = some (.inr (2, [.int (nI (st_t S1 i)), .int (nI (lc_hh (st_B S1) (st_t S1 i))), .long (lc_hp (st_B S1) (st_t S1 i)), .ref (A (100 + lc_ho (st_B S1) (st_t S1 i))), .ref (A (100 + lc_hx (st_B S1) (st_t S1 i))), .long (lc_hr (st_B S1) (st_t S1 i)), .long (lc_dig (st_B S1) (st_t S1 i)), .int (nI (lc_sg (st_B S1) (st_t S1 i)))])) := by rw [hC_72]; rw [va_up_ne _ _ (by omega)]; exact xh_t
            have xho_t_c72 : C_72 (100 + lc_ho (st_B S1) (st_t S1 i)) = some (.inr (6, [.int (nI ((lc_ho (st_B S1) (st_t S1 i)))), .long (lN (lc_sa (st_B S1) ((lc_ho (st_B S1) (st_t S1 i))))), .long (lN (lc_sb (st_B S1) ((lc_ho (st_B S1) (st_t S1 i))))), .int (nI (lc_tot (lc_sa (st_B S1) ((lc_ho (st_B S1) (st_t S1 i)))) (lc_sb (st_B S1) ((lc_ho (st_B S1) (st_t S1 i))))))])) := by rw [hC_72]; rw [va_up_ne _ _ (by omega)]; exact xho_t
            have xhx_t_c72 : C_72 (100 + lc_hx (st_B S1) (st_t S1 i)) = some (.inr (6, [.int (nI ((lc_hx (st_B S1) (st_t S1 i)))), .long (lN (lc_sa (st_B S1) ((lc_hx (st_B S1) (st_t S1 i))))), .long (lN (lc_sb (st_B S1) ((lc_hx (st_B S1) (st_t S1 i))))), .int (nI (lc_tot (lc_sa (st_B S1) ((lc_hx (st_B S1) (st_t S1 i)))) (lc_sb (st_B S1) ((lc_hx (st_B S1) (st_t S1 i))))))])) := by rw [hC_72]; rw [va_up_ne _ _ (by omega)]; exact xhx_t
            have x0_c72 : C_72 0 = some (.inr (7, [.ref (A 1), .int (nI (lc_ns (st_B S1))), .ref (A 2), .ref (A 4), .ref (A 5), .ref (A 6), .ref (A 7), .ref (A 8), .ref (A 11)])) := by rw [hC_72]; rw [va_up_ne _ _ (by omega)]; exact x0
            have x1_c72 : C_72 1 = some (.inl (E.2.1 3, 16, .inr (.inr (.inr (.inr f1))))) := by rw [hC_72]; rw [va_up_ne _ _ (by omega)]; exact x1
            have x2_c72 : C_72 2 = some (.inr (3, [.ref (A 3), .int (nI (lc_nh (st_B S1)))])) := by rw [hC_72]; rw [va_up_ne _ _ (by omega)]; exact x2
            have x3_c72 : C_72 3 = some (.inl (E.2.1 4, 60, .inr (.inr (.inr (.inr f3))))) := by rw [hC_72]; rw [va_up_ne _ _ (by omega)]; exact x3
            have x4_c72 : C_72 4 = some (.inl (E.2.1 0, 4, .inl (fun k => nI (st_tm S1 k)))) := by rw [hC_72]; rw [va_up_ne _ _ (by omega)]; exact x4
            have x5_c72 : C_72 5 = some (.inl (E.2.1 5, 4, .inr (.inr (.inr (.inr f5))))) := by rw [hC_72]; rw [va_up_ne _ _ (by omega)]; exact x5
            have x6_c72 : C_72 6 = some (.inl (E.2.1 6, 4, .inr (.inr (.inr (.inr f6))))) := by rw [hC_72]; rw [va_up_ne _ _ (by omega)]; exact x6
            have x8_c72 : C_72 8 = some (.inr (5, [.ref (A 9), .ref (A 10)])) := by rw [hC_72]; rw [va_up_ne _ _ (by omega)]; exact x8
            have x9_c72 : C_72 9 = some (.inl (E.2.1 1, 8, .inr (.inl ((st_lf S1))))) := by rw [hC_72]; rw [va_up_ne _ _ (by omega)]; exact x9
            have x10_c72 : C_72 10 = some (.inl (E.2.1 1, 16, .inr (.inl nd))) := by rw [hC_72]; rw [va_up_ne _ _ (by omega)]; exact x10
            have x11_c72 : C_72 11 = some (.inr (4, [.int (nI (st_pa S1)), .int (nI (st_pb S1)), .long (st_va S1), .long (st_vb S1), .ref (A 12), .int (nI (lc_cnt (st_pa S1) (st_pb S1) 1)), .ref (A 13)])) := by rw [hC_72]; rw [va_up_ne _ _ (by omega)]; exact x11
            have x12_c72 : C_72 12 = some (.inl (E.2.1 1, 4, .inr (.inl ((st_pn S1))))) := by rw [hC_72]; rw [va_up_ne _ _ (by omega)]; exact x12
            have x13_c72 : C_72 13 = some (.inl (E.2.1 1, 16, .inr (.inl rk))) := by rw [hC_72]; rw [va_up_ne _ _ (by omega)]; exact x13
            have xh_v_c72 : C_72 (200 + st_gg S1 k qa) = some (.inr (2, [.int (nI (st_gg S1 k qa)), .int (nI (lc_hh (st_B S1) (st_gg S1 k qa))), .long (lc_hp (st_B S1) (st_gg S1 k qa)), .ref (A (100 + lc_ho (st_B S1) (st_gg S1 k qa))), .ref (A (100 + lc_hx (st_B S1) (st_gg S1 k qa))), .long (lc_hr (st_B S1) (st_gg S1 k qa)), .long (lc_dig (st_B S1) (st_gg S1 k qa)), .int (nI (lc_sg (st_B S1) (st_gg S1 k qa)))])) := by rw [hC_72]; rw [va_up_ne _ _ (by omega)]; exact xh_v
            have xho_v_c72 : C_72 (100 + lc_ho (st_B S1) (st_gg S1 k qa)) = some (.inr (6, [.int (nI ((lc_ho (st_B S1) (st_gg S1 k qa)))), .long (lN (lc_sa (st_B S1) ((lc_ho (st_B S1) (st_gg S1 k qa))))), .long (lN (lc_sb (st_B S1) ((lc_ho (st_B S1) (st_gg S1 k qa))))), .int (nI (lc_tot (lc_sa (st_B S1) ((lc_ho (st_B S1) (st_gg S1 k qa)))) (lc_sb (st_B S1) ((lc_ho (st_B S1) (st_gg S1 k qa))))))])) := by rw [hC_72]; rw [va_up_ne _ _ (by omega)]; exact xho_v
            have xhx_v_c72 : C_72 (100 + lc_hx (st_B S1) (st_gg S1 k qa)) = some (.inr (6, [.int (nI ((lc_hx (st_B S1) (st_gg S1 k qa)))), .long (lN (lc_sa (st_B S1) ((lc_hx (st_B S1) (st_gg S1 k qa))))), .long (lN (lc_sb (st_B S1) ((lc_hx (st_B S1) (st_gg S1 k qa))))), .int (nI (lc_tot (lc_sa (st_B S1) ((lc_hx (st_B S1) (st_gg S1 k qa)))) (lc_sb (st_B S1) ((lc_hx (st_B S1) (st_gg S1 k qa))))))])) := by rw [hC_72]; rw [va_up_ne _ _ (by omega)]; exact xhx_v
            have hDB2 : lc_DB A C_72 (st_B S1) := hDB.same (fun r h1 h2 => by rw [hC_72, va_up_ne _ _ (by omega)])
            refine lv_iload hx hb dX7_climb_75 (lv_at hl 0 rfl) ?_
            refine lv_if_ne (tgt := 102) hx hb dX7_climb_77 (by decide) (fun c_77 => ?_) (fun c_77 => ?_)
            · have hy : ¬ lc_why (st_B S1) (st_tm S1) (st_t S1 i) (st_gg S1 k qa) = 0 := fun z => c_77 (by rw [z]; rfl)
              refine lv_iload hx hb dX7_climb_102 (lv_at hl 0 rfl) ?_
              refine lv_iconst (v := 5) hx hb dX7_climb_104 (by decide) ?_
              refine lv_icmp_eq (tgt := 115) hx hb dX7_climb_105 (by decide) (fun c_105 => ?_) (fun c_105 => ?_)
              · have h56 : lc_why (st_B S1) (st_tm S1) (st_t S1 i) (st_gg S1 k qa) = 5 ∨ lc_why (st_B S1) (st_tm S1) (st_t S1 i) (st_gg S1 k qa) = 6 := Or.inl (by rw [show (5 : Int32) = nI 5 from rfl, nI_eq (by omega) (by decide)] at c_105; exact c_105)
                refine lv_iload hx hb dX7_climb_115 (lv_at hl 6 rfl) ?_
                refine lv_bipush (v := 32) hx hb dX7_climb_117 (by decide) ?_
                refine lv_icmp_ge (tgt := 145) hx hb dX7_climb_119 (by decide) (fun c_119 => ?_) (fun c_119 => ?_)
                · exact absurd c_119 (by rw [show (32 : Int32) = nI 32 from rfl, nI_leI (by decide) (by omega)]; omega)
                · refine lv_aload_n hx hb dX7_climb_122 rfl (lv_at hl 3 rfl) ?_
                  refine wg_get F hP x0_c72 rfl iw_X7 6 (by decide) tb_169 rfl rfl dX7_climb_123 ?_
                  refine lv_iload hx hb dX7_climb_126 (lv_at hl 6 rfl) ?_
                  refine lv_aload hx hb dX7_climb_128 (lv_at hl 7 rfl) ?_
                  refine wg_getN F hP xh_t_c72 rfl iw_X2 1 (by decide) nb_251 rfl rfl dX7_climb_130 ?_
                  refine lv_iload hx hb dX7_climb_133 (lv_at hl 2 rfl) ?_
                  refine lv_iadd hx hb dX7_climb_135 ?_
                  refine lv_iconst (v := 2) hx hb dX7_climb_136 (by decide) ?_
                  refine lv_idiv hx hb dX7_climb_137 (by decide) ?_
                  refine wg_topi (y := nI ((lc_hh (st_B S1) (st_t S1 i) + pl n) / 2)) (by rw [nI_add, show (2 : Int32) = nI 2 from rfl, pk_div (by omega) (by decide) (by decide)]) ?_
                  refine wg_ist F hP hS f7w_c72 (vp_in_nI (by omega) (by decide)) dX7_climb_138 (fun H locs hP hS => ?_)
                  obtain ⟨C_138, hC_138⟩ : ∃ z : wg_C, z = va_up C_72 7 (some (.inl (E.2.1 0, 32, .inl (upd fp (nI (n + 1)).toNatClampNeg (nI ((lc_hh (st_B S1) (st_t S1 i) + pl n) / 2)))))) := ⟨_, rfl⟩
                  have hP : wg_P E A C_138 H := by rw [hC_138]; exact hP
                  have f7w_c138 : C_138 7 = some (.inl (E.2.1 0, 32, .inl (upd fp (nI (n + 1)).toNatClampNeg (nI ((lc_hh (st_B S1) (st_t S1 i) + pl n) / 2))))) := by rw [hC_138]; exact va_up_self _ _ _
                  have xc1_i_c138 : C_138 (20 + i) = some (.inr (0, [.ref (A (24 + i)), .int ((st_co S1 i) + 1), .int (st_rb S1 i), .int (st_ra S1 i)])) := by rw [hC_138]; rw [va_up_ne _ _ (by omega)]; exact xc1_i_c72
                  have xc2_i_c138 : C_138 (24 + i) = some (.inr (3, [.ref (A (28 + i)), .int (nI (st_cn S1 i))])) := by rw [hC_138]; rw [va_up_ne _ _ (by omega)]; exact xc2_i_c72
                  have xc3_i_c138 : C_138 (28 + i) = some (.inl (E.2.1 4, 11, .inr (.inr (.inr (.inr fc_i))))) := by rw [hC_138]; rw [va_up_ne _ _ (by omega)]; exact xc3_i_c72
                  have xg1_k_c138 : C_138 (32 + k) = some (.inr (1, [.ref (A (36 + k))])) := by rw [hC_138]; rw [va_up_ne _ _ (by omega)]; exact xg1_k_c72
                  have xg2_k_c138 : C_138 (36 + k) = some (.inr (3, [.ref (A (40 + k)), .int (nI (st_gn S1 k))])) := by rw [hC_138]; rw [va_up_ne _ _ (by omega)]; exact xg2_k_c72
                  have xg3_k_c138 : C_138 (40 + k) = some (.inl (E.2.1 4, 60, .inr (.inr (.inr (.inr fg_k))))) := by rw [hC_138]; rw [va_up_ne _ _ (by omega)]; exact xg3_k_c72
                  have xh_t_c138 : C_138 (200 + st_t S1 i) = some (.inr (2, [.int (nI (st_t S1 i)), .int (nI (lc_hh (st_B S1) (st_t S1 i))), .long (lc_hp (st_B S1) (st_t S1 i)), .ref (A (100 + lc_ho (st_B S1) (st_t S1 i))), .ref (A (100 + lc_hx (st_B S1) (st_t S1 i))), .long (lc_hr (st_B S1) (st_t S1 i)), .long (lc_dig (st_B S1) (st_t S1 i)), .int (nI (lc_sg (st_B S1) (st_t S1 i)))])) := by rw [hC_138]; rw [va_up_ne _ _ (by omega)]; exact xh_t_c72
                  have xho_t_c138 : C_138 (100 + lc_ho (st_B S1) (st_t S1 i)) = some (.inr (6, [.int (nI ((lc_ho (st_B S1) (st_t S1 i)))), .long (lN (lc_sa (st_B S1) ((lc_ho (st_B S1) (st_t S1 i))))), .long (lN (lc_sb (st_B S1) ((lc_ho (st_B S1) (st_t S1 i))))), .int (nI (lc_tot (lc_sa (st_B S1) ((lc_ho (st_B S1) (st_t S1 i)))) (lc_sb (st_B S1) ((lc_ho (st_B S1) (st_t S1 i))))))])) := by rw [hC_138]; rw [va_up_ne _ _ (by omega)]; exact xho_t_c72
                  have xhx_t_c138 : C_138 (100 + lc_hx (st_B S1) (st_t S1 i)) = some (.inr (6, [.int (nI ((lc_hx (st_B S1) (st_t S1 i)))), .long (lN (lc_sa (st_B S1) ((lc_hx (st_B S1) (st_t S1 i))))), .long (lN (lc_sb (st_B S1) ((lc_hx (st_B S1) (st_t S1 i))))), .int (nI (lc_tot (lc_sa (st_B S1) ((lc_hx (st_B S1) (st_t S1 i)))) (lc_sb (st_B S1) ((lc_hx (st_B S1) (st_t S1 i))))))])) := by rw [hC_138]; rw [va_up_ne _ _ (by omega)]; exact xhx_t_c72
                  have x0_c138 : C_138 0 = some (.inr (7, [.ref (A 1), .int (nI (lc_ns (st_B S1))), .ref (A 2), .ref (A 4), .ref (A 5), .ref (A 6), .ref (A 7), .ref (A 8), .ref (A 11)])) := by rw [hC_138]; rw [va_up_ne _ _ (by decide)]; exact x0_c72
                  have x1_c138 : C_138 1 = some (.inl (E.2.1 3, 16, .inr (.inr (.inr (.inr f1))))) := by rw [hC_138]; rw [va_up_ne _ _ (by decide)]; exact x1_c72
                  have x2_c138 : C_138 2 = some (.inr (3, [.ref (A 3), .int (nI (lc_nh (st_B S1)))])) := by rw [hC_138]; rw [va_up_ne _ _ (by decide)]; exact x2_c72
                  have x3_c138 : C_138 3 = some (.inl (E.2.1 4, 60, .inr (.inr (.inr (.inr f3))))) := by rw [hC_138]; rw [va_up_ne _ _ (by decide)]; exact x3_c72
                  have x4_c138 : C_138 4 = some (.inl (E.2.1 0, 4, .inl (fun k => nI (st_tm S1 k)))) := by rw [hC_138]; rw [va_up_ne _ _ (by decide)]; exact x4_c72
                  have x5_c138 : C_138 5 = some (.inl (E.2.1 5, 4, .inr (.inr (.inr (.inr f5))))) := by rw [hC_138]; rw [va_up_ne _ _ (by decide)]; exact x5_c72
                  have x6_c138 : C_138 6 = some (.inl (E.2.1 6, 4, .inr (.inr (.inr (.inr f6))))) := by rw [hC_138]; rw [va_up_ne _ _ (by decide)]; exact x6_c72
                  have x8_c138 : C_138 8 = some (.inr (5, [.ref (A 9), .ref (A 10)])) := by rw [hC_138]; rw [va_up_ne _ _ (by decide)]; exact x8_c72
                  have x9_c138 : C_138 9 = some (.inl (E.2.1 1, 8, .inr (.inl ((st_lf S1))))) := by rw [hC_138]; rw [va_up_ne _ _ (by decide)]; exact x9_c72
                  have x10_c138 : C_138 10 = some (.inl (E.2.1 1, 16, .inr (.inl nd))) := by rw [hC_138]; rw [va_up_ne _ _ (by decide)]; exact x10_c72
                  have x11_c138 : C_138 11 = some (.inr (4, [.int (nI (st_pa S1)), .int (nI (st_pb S1)), .long (st_va S1), .long (st_vb S1), .ref (A 12), .int (nI (lc_cnt (st_pa S1) (st_pb S1) 1)), .ref (A 13)])) := by rw [hC_138]; rw [va_up_ne _ _ (by decide)]; exact x11_c72
                  have x12_c138 : C_138 12 = some (.inl (E.2.1 1, 4, .inr (.inl ((st_pn S1))))) := by rw [hC_138]; rw [va_up_ne _ _ (by decide)]; exact x12_c72
                  have x13_c138 : C_138 13 = some (.inl (E.2.1 1, 16, .inr (.inl rk))) := by rw [hC_138]; rw [va_up_ne _ _ (by decide)]; exact x13_c72
                  have xh_v_c138 : C_138 (200 + st_gg S1 k qa) = some (.inr (2, [.int (nI (st_gg S1 k qa)), .int (nI (lc_hh (st_B S1) (st_gg S1 k qa))), .long (lc_hp (st_B S1) (st_gg S1 k qa)), .ref (A (100 + lc_ho (st_B S1) (st_gg S1 k qa))), .ref (A (100 + lc_hx (st_B S1) (st_gg S1 k qa))), .long (lc_hr (st_B S1) (st_gg S1 k qa)), .long (lc_dig (st_B S1) (st_gg S1 k qa)), .int (nI (lc_sg (st_B S1) (st_gg S1 k qa)))])) := by rw [hC_138]; rw [va_up_ne _ _ (by omega)]; exact xh_v_c72
                  have xho_v_c138 : C_138 (100 + lc_ho (st_B S1) (st_gg S1 k qa)) = some (.inr (6, [.int (nI ((lc_ho (st_B S1) (st_gg S1 k qa)))), .long (lN (lc_sa (st_B S1) ((lc_ho (st_B S1) (st_gg S1 k qa))))), .long (lN (lc_sb (st_B S1) ((lc_ho (st_B S1) (st_gg S1 k qa))))), .int (nI (lc_tot (lc_sa (st_B S1) ((lc_ho (st_B S1) (st_gg S1 k qa)))) (lc_sb (st_B S1) ((lc_ho (st_B S1) (st_gg S1 k qa))))))])) := by rw [hC_138]; rw [va_up_ne _ _ (by omega)]; exact xho_v_c72
                  have xhx_v_c138 : C_138 (100 + lc_hx (st_B S1) (st_gg S1 k qa)) = some (.inr (6, [.int (nI ((lc_hx (st_B S1) (st_gg S1 k qa)))), .long (lN (lc_sa (st_B S1) ((lc_hx (st_B S1) (st_gg S1 k qa))))), .long (lN (lc_sb (st_B S1) ((lc_hx (st_B S1) (st_gg S1 k qa))))), .int (nI (lc_tot (lc_sa (st_B S1) ((lc_hx (st_B S1) (st_gg S1 k qa)))) (lc_sb (st_B S1) ((lc_hx (st_B S1) (st_gg S1 k qa))))))])) := by rw [hC_138]; rw [va_up_ne _ _ (by omega)]; exact xhx_v_c72
                  rw [if_neg hy, if_pos h56] at hcons
                  have hfar := lc_why_far h56
                  rw [hh9] at hfar
                  have hfrw : ∀ r, r ≠ 7 → r ≠ 20 + i → C_138 r = Cw r := fun r h0 h1 => by rw [hC_138, va_up_ne _ _ h0, hC_72, va_up_ne _ _ h1]
                  have hfrw : ∀ r, r ≠ 7 → r ≠ 20 + i → C_138 r = Cw r := fun r h0 h1 => by rw [hC_138, va_up_ne _ _ h0, hC_72, va_up_ne _ _ h1]
                  have hcl : ∀ i2, i2 < 4 → lx_c E A C_138 i2 (st_cn S1 i2) (st_cg S1 i2) (va_up (st_co S1) i (st_co S1 i + 1) i2) (st_rb S1 i2) (st_ra S1 i2) := by
                    intro i2 hi2
                    by_cases z : i2 = i
                    · rw [z, va_up_self]; exact ⟨fc_i, xc1_i_c138, xc2_i_c138, xc3_i_c138, xcf_i⟩
                    · rw [va_up_ne _ _ z]; exact (xc i2 hi2).same (fun r hr => hfrw r (by omega) (by omega))
                  have hXn : lx E A C_138 (st_pay S1 i) := ⟨(hfrw 0 (by omega) (by omega)).trans hX1.1, hX1.2.1.same (hfrw 1 (by omega) (by omega)), (hfrw 2 (by omega) (by omega)).trans hX1.2.2.1, hX1.2.2.2.1.same (hfrw 3 (by omega) (by omega)), (hfrw 4 (by omega) (by omega)).trans hX1.2.2.2.2.1, hX1.2.2.2.2.2.1.same (hfrw 5 (by omega) (by omega)), hX1.2.2.2.2.2.2.1.same (hfrw 6 (by omega) (by omega)), ⟨_, f7w_c138⟩, hX1.2.2.2.2.2.2.2.2.1.same (fun r h1 h2 => hfrw r (by omega) (by omega)), hX1.2.2.2.2.2.2.2.2.2.1.same (fun r h1 h2 => hfrw r (by omega) (by omega)), hcl, fun i2 hi2 => (hX1.2.2.2.2.2.2.2.2.2.2.2.1 i2 hi2).same (fun r h1 => hfrw r (by omega) (by omega)), hX1.2.2.2.2.2.2.2.2.2.2.2.2.same (fun r h1 h2 => hfrw r (by omega) (by omega))⟩
                  have hbn : ∀ r, r ≠ 7 → r ≠ 20 + i → r ≠ 24 + i → r ≠ 28 + i → C_138 r = C r := fun r h0 h1 h2 h3 => (hfrw r h0 h1).trans (hbase r h0 h1 h2 h3)
                  have hPi2 := lc_Pi_push hPi hfar
                  have hfuel2 : 2 * (100000 - lc_hh (st_B S1) (st_t S1 i)) + 19 ≤ q + (n + 2) := by omega
                  have hst2 : op_climb i k 200020 S [x] = op_climb i k q (st_pay S1 i) (lc_pile (va_up pl (n + 1) ((lc_hh (st_B S1) (st_t S1 i) + pl n) / 2)) (n + 2)) := by rw [lc_pile_push]; exact hcons
                  have hfp2 : ∀ a, a < n + 2 → (upd fp (nI (n + 1)).toNatClampNeg (nI ((lc_hh (st_B S1) (st_t S1 i) + pl n) / 2))) a = nI (va_up pl (n + 1) ((lc_hh (st_B S1) (st_t S1 i) + pl n) / 2) a) := fun a ha => by
                    rw [nI_clamp (by omega)]
                    by_cases z : a = n + 1
                    · rw [z, pk_us, va_up_self]
                    · rw [pk_un z, va_up_ne _ _ z]; exact hfp a (by omega)
                  obtain ⟨x_139, ex_139⟩ : ∃ y : Int32, y = nI (n + 1) + 1 := ⟨_, rfl⟩
                  refine lv_iinc (v := x_139) (lv' := [(4, .int x_139), (9, .int (nI (lc_why (st_B S1) (st_tm S1) (st_t S1 i) (st_gg S1 k qa)))), (8, .ref (A (200 + st_gg S1 k qa))), (7, .int (nI (pl n))), (0, .ref (A 0)), (1, .ref (A (20 + i))), (2, .ref (A (32 + k))), (5, .ref (A (200 + st_t S1 i))), (6, .int y6)]) hx hb dX7_climb_139 hl (k := 6) rfl (by rw [ex_139]; rfl) (by decide) rfl (fun ls hl => ?_)
                  refine lv_goto (tgt := 154) hx hb dX7_climb_142 (by decide) ?_
                  obtain ⟨x_154, ex_154⟩ : ∃ y : Int32, y = y6 + 1 := ⟨_, rfl⟩
                  refine lv_iinc (v := x_154) (lv' := [(6, .int x_154), (4, .int x_139), (9, .int (nI (lc_why (st_B S1) (st_tm S1) (st_t S1 i) (st_gg S1 k qa)))), (8, .ref (A (200 + st_gg S1 k qa))), (7, .int (nI (pl n))), (0, .ref (A 0)), (1, .ref (A (20 + i))), (2, .ref (A (32 + k))), (5, .ref (A (200 + st_t S1 i)))]) hx hb dX7_climb_154 hl (k := 8) rfl (by rw [ex_154]; rfl) (by decide) rfl (fun ls hl => ?_)
                  refine lv_goto (tgt := 19) hx hb dX7_climb_157 (by decide) ?_
                  exact ih_loop_19 (st_pay S1 i) (n + 2) (va_up pl (n + 1) ((lc_hh (st_B S1) (st_t S1 i) + pl n) / 2)) q (tr + 1) x_139 x_154 (upd fp (nI (n + 1)).toNatClampNeg (nI ((lc_hh (st_B S1) (st_t S1 i) + pl n) / 2))) (by omega) hI1 hcn1 hPi2 hfuel2 (by omega) (by rw [ex_139, nI_1]) (by rw [ex_154, ey6, nI_1]) hst2 hfp2 C_138 f7w_c138 hXn hbn _ _ _ hP hS (lv_sub hl [5, 6, 7, 1, 8, 0] rfl)
              · have h5 : ¬ lc_why (st_B S1) (st_tm S1) (st_t S1 i) (st_gg S1 k qa) = 5 := by rw [show (5 : Int32) = nI 5 from rfl, nI_eq (by omega) (by decide)] at c_105; exact c_105
                refine lv_iload hx hb dX7_climb_108 (lv_at hl 0 rfl) ?_
                refine lv_bipush (v := 6) hx hb dX7_climb_110 (by decide) ?_
                refine lv_icmp_ne (tgt := 145) hx hb dX7_climb_112 (by decide) (fun c_112 => ?_) (fun c_112 => ?_)
                · have h6 : ¬ lc_why (st_B S1) (st_tm S1) (st_t S1 i) (st_gg S1 k qa) = 6 := by rw [show (6 : Int32) = nI 6 from rfl, nI_eq (by omega) (by decide)] at c_112; exact c_112
                  rw [if_neg hy, if_neg (by omega)] at hcons
                  have hop := hcons
                  refine lv_aload_n hx hb dX7_climb_145 rfl (lv_at hl 4 rfl) ?_
                  refine lv_iload hx hb dX7_climb_146 (lv_at hl 0 rfl) ?_
                  refine lv_iload hx hb dX7_climb_148 (lv_at hl 2 rfl) ?_
                  refine wg_ci hS (wg_rVN (As := [.int (nI (lc_why (st_B S1) (st_tm S1) (st_t S1 i) (st_gg S1 k qa))), .int (nI (pl n))]) (rest := []) F hP hS (c_X0_refuse l E A C_72 i (st_cn S1 i) fc_i (st_co S1 i + 1) (st_rb S1 i) (st_ra S1 i) _ _ hi xc1_i_c72) ok_X0_refuse nb_367 rfl rfl ⟨Nat.le_of_ble_eq_true rfl, Nat.le_of_ble_eq_true rfl⟩ xc1_i_c72 rfl rfl rfl hl.1 rfl (Nat.le_of_ble_eq_true rfl) dX7_climb_150 ⟨Nat.le_of_ble_eq_true rfl, Nat.le_of_ble_eq_true rfl⟩) (fun r_150 A1 C_150 H locs w_150 hP hS => ?_)
                  obtain ⟨w_150, rfl, hC_150⟩ := w_150
                  have f7w_c150 : C_150 7 = some (.inl (E.2.1 0, 32, .inl fp)) := by rw [hC_150]; rw [va_up_ne _ _ (by omega)]; exact f7w_c72
                  have xc1_i_c150 : C_150 (20 + i) = some (.inr (0, [.ref (A (24 + i)), .int (st_co S1 i + 1), .int (nI (lc_why (st_B S1) (st_tm S1) (st_t S1 i) (st_gg S1 k qa))), .int (nI (pl n))])) := by rw [hC_150]; exact va_up_self _ _ _
                  have xc2_i_c150 : C_150 (24 + i) = some (.inr (3, [.ref (A (28 + i)), .int (nI (st_cn S1 i))])) := by rw [hC_150]; rw [va_up_ne _ _ (by omega)]; exact xc2_i_c72
                  have xc3_i_c150 : C_150 (28 + i) = some (.inl (E.2.1 4, 11, .inr (.inr (.inr (.inr fc_i))))) := by rw [hC_150]; rw [va_up_ne _ _ (by omega)]; exact xc3_i_c72
                  have xg1_k_c150 : C_150 (32 + k) = some (.inr (1, [.ref (A (36 + k))])) := by rw [hC_150]; rw [va_up_ne _ _ (by omega)]; exact xg1_k_c72
                  have xg2_k_c150 : C_150 (36 + k) = some (.inr (3, [.ref (A (40 + k)), .int (nI (st_gn S1 k))])) := by rw [hC_150]; rw [va_up_ne _ _ (by omega)]; exact xg2_k_c72
                  have xg3_k_c150 : C_150 (40 + k) = some (.inl (E.2.1 4, 60, .inr (.inr (.inr (.inr fg_k))))) := by rw [hC_150]; rw [va_up_ne _ _ (by omega)]; exact xg3_k_c72
                  have xh_t_c150 : C_150 (200 + st_t S1 i) = some (.inr (2, [.int (nI (st_t S1 i)), .int (nI (lc_hh (st_B S1) (st_t S1 i))), .long (lc_hp (st_B S1) (st_t S1 i)), .ref (A (100 + lc_ho (st_B S1) (st_t S1 i))), .ref (A (100 + lc_hx (st_B S1) (st_t S1 i))), .long (lc_hr (st_B S1) (st_t S1 i)), .long (lc_dig (st_B S1) (st_t S1 i)), .int (nI (lc_sg (st_B S1) (st_t S1 i)))])) := by rw [hC_150]; rw [va_up_ne _ _ (by omega)]; exact xh_t_c72
                  have xho_t_c150 : C_150 (100 + lc_ho (st_B S1) (st_t S1 i)) = some (.inr (6, [.int (nI ((lc_ho (st_B S1) (st_t S1 i)))), .long (lN (lc_sa (st_B S1) ((lc_ho (st_B S1) (st_t S1 i))))), .long (lN (lc_sb (st_B S1) ((lc_ho (st_B S1) (st_t S1 i))))), .int (nI (lc_tot (lc_sa (st_B S1) ((lc_ho (st_B S1) (st_t S1 i)))) (lc_sb (st_B S1) ((lc_ho (st_B S1) (st_t S1 i))))))])) := by rw [hC_150]; rw [va_up_ne _ _ (by omega)]; exact xho_t_c72
                  have xhx_t_c150 : C_150 (100 + lc_hx (st_B S1) (st_t S1 i)) = some (.inr (6, [.int (nI ((lc_hx (st_B S1) (st_t S1 i)))), .long (lN (lc_sa (st_B S1) ((lc_hx (st_B S1) (st_t S1 i))))), .long (lN (lc_sb (st_B S1) ((lc_hx (st_B S1) (st_t S1 i))))), .int (nI (lc_tot (lc_sa (st_B S1) ((lc_hx (st_B S1) (st_t S1 i)))) (lc_sb (st_B S1) ((lc_hx (st_B S1) (st_t S1 i))))))])) := by rw [hC_150]; rw [va_up_ne _ _ (by omega)]; exact xhx_t_c72
                  have x0_c150 : C_150 0 = some (.inr (7, [.ref (A 1), .int (nI (lc_ns (st_B S1))), .ref (A 2), .ref (A 4), .ref (A 5), .ref (A 6), .ref (A 7), .ref (A 8), .ref (A 11)])) := by rw [hC_150]; rw [va_up_ne _ _ (by omega)]; exact x0_c72
                  have x1_c150 : C_150 1 = some (.inl (E.2.1 3, 16, .inr (.inr (.inr (.inr f1))))) := by rw [hC_150]; rw [va_up_ne _ _ (by omega)]; exact x1_c72
                  have x2_c150 : C_150 2 = some (.inr (3, [.ref (A 3), .int (nI (lc_nh (st_B S1)))])) := by rw [hC_150]; rw [va_up_ne _ _ (by omega)]; exact x2_c72
                  have x3_c150 : C_150 3 = some (.inl (E.2.1 4, 60, .inr (.inr (.inr (.inr f3))))) := by rw [hC_150]; rw [va_up_ne _ _ (by omega)]; exact x3_c72
                  have x4_c150 : C_150 4 = some (.inl (E.2.1 0, 4, .inl (fun k => nI (st_tm S1 k)))) := by rw [hC_150]; rw [va_up_ne _ _ (by omega)]; exact x4_c72
                  have x5_c150 : C_150 5 = some (.inl (E.2.1 5, 4, .inr (.inr (.inr (.inr f5))))) := by rw [hC_150]; rw [va_up_ne _ _ (by omega)]; exact x5_c72
                  have x6_c150 : C_150 6 = some (.inl (E.2.1 6, 4, .inr (.inr (.inr (.inr f6))))) := by rw [hC_150]; rw [va_up_ne _ _ (by omega)]; exact x6_c72
                  have x8_c150 : C_150 8 = some (.inr (5, [.ref (A 9), .ref (A 10)])) := by rw [hC_150]; rw [va_up_ne _ _ (by omega)]; exact x8_c72
                  have x9_c150 : C_150 9 = some (.inl (E.2.1 1, 8, .inr (.inl ((st_lf S1))))) := by rw [hC_150]; rw [va_up_ne _ _ (by omega)]; exact x9_c72
                  have x10_c150 : C_150 10 = some (.inl (E.2.1 1, 16, .inr (.inl nd))) := by rw [hC_150]; rw [va_up_ne _ _ (by omega)]; exact x10_c72
                  have x11_c150 : C_150 11 = some (.inr (4, [.int (nI (st_pa S1)), .int (nI (st_pb S1)), .long (st_va S1), .long (st_vb S1), .ref (A 12), .int (nI (lc_cnt (st_pa S1) (st_pb S1) 1)), .ref (A 13)])) := by rw [hC_150]; rw [va_up_ne _ _ (by omega)]; exact x11_c72
                  have x12_c150 : C_150 12 = some (.inl (E.2.1 1, 4, .inr (.inl ((st_pn S1))))) := by rw [hC_150]; rw [va_up_ne _ _ (by omega)]; exact x12_c72
                  have x13_c150 : C_150 13 = some (.inl (E.2.1 1, 16, .inr (.inl rk))) := by rw [hC_150]; rw [va_up_ne _ _ (by omega)]; exact x13_c72
                  have xh_v_c150 : C_150 (200 + st_gg S1 k qa) = some (.inr (2, [.int (nI (st_gg S1 k qa)), .int (nI (lc_hh (st_B S1) (st_gg S1 k qa))), .long (lc_hp (st_B S1) (st_gg S1 k qa)), .ref (A (100 + lc_ho (st_B S1) (st_gg S1 k qa))), .ref (A (100 + lc_hx (st_B S1) (st_gg S1 k qa))), .long (lc_hr (st_B S1) (st_gg S1 k qa)), .long (lc_dig (st_B S1) (st_gg S1 k qa)), .int (nI (lc_sg (st_B S1) (st_gg S1 k qa)))])) := by rw [hC_150]; rw [va_up_ne _ _ (by omega)]; exact xh_v_c72
                  have xho_v_c150 : C_150 (100 + lc_ho (st_B S1) (st_gg S1 k qa)) = some (.inr (6, [.int (nI ((lc_ho (st_B S1) (st_gg S1 k qa)))), .long (lN (lc_sa (st_B S1) ((lc_ho (st_B S1) (st_gg S1 k qa))))), .long (lN (lc_sb (st_B S1) ((lc_ho (st_B S1) (st_gg S1 k qa))))), .int (nI (lc_tot (lc_sa (st_B S1) ((lc_ho (st_B S1) (st_gg S1 k qa)))) (lc_sb (st_B S1) ((lc_ho (st_B S1) (st_gg S1 k qa))))))])) := by rw [hC_150]; rw [va_up_ne _ _ (by omega)]; exact xho_v_c72
                  have xhx_v_c150 : C_150 (100 + lc_hx (st_B S1) (st_gg S1 k qa)) = some (.inr (6, [.int (nI ((lc_hx (st_B S1) (st_gg S1 k qa)))), .long (lN (lc_sa (st_B S1) ((lc_hx (st_B S1) (st_gg S1 k qa))))), .long (lN (lc_sb (st_B S1) ((lc_hx (st_B S1) (st_gg S1 k qa))))), .int (nI (lc_tot (lc_sa (st_B S1) ((lc_hx (st_B S1) (st_gg S1 k qa)))) (lc_sb (st_B S1) ((lc_hx (st_B S1) (st_gg S1 k qa))))))])) := by rw [hC_150]; rw [va_up_ne _ _ (by omega)]; exact xhx_v_c72
                  have hfrw : ∀ r, r ≠ 20 + i → r ≠ 24 + i → r ≠ 28 + i → C_150 r = Cw r := fun r h1 _ _ => by rw [hC_150, va_up_ne _ _ h1, hC_72, va_up_ne _ _ h1]
                  have hcl := lx_cup (S := S1) xc hfrw hi (n := st_cn S1 i) (g := st_cg S1 i) ⟨fc_i, xc1_i_c150, xc2_i_c150, xc3_i_c150, xcf_i⟩
                  rw [lc_vid (st_cn S1), lc_vid (st_cg S1)] at hcl
                  exact wg_iret F hP hS hr hlk (⟨rfl, by rw [hop]; exact w_150, by rw [hop]; exact ⟨(hfrw 0 (by omega) (by omega) (by omega)).trans hX1.1, hX1.2.1.same (hfrw 1 (by omega) (by omega) (by omega)), (hfrw 2 (by omega) (by omega) (by omega)).trans hX1.2.2.1, hX1.2.2.2.1.same (hfrw 3 (by omega) (by omega) (by omega)), (hfrw 4 (by omega) (by omega) (by omega)).trans hX1.2.2.2.2.1, hX1.2.2.2.2.2.1.same (hfrw 5 (by omega) (by omega) (by omega)), hX1.2.2.2.2.2.2.1.same (hfrw 6 (by omega) (by omega) (by omega)), hX1.2.2.2.2.2.2.2.1.same (hfrw 7 (by omega) (by omega) (by omega)), hX1.2.2.2.2.2.2.2.2.1.same (fun r h1 h2 => hfrw r (by omega) (by omega) (by omega)), hX1.2.2.2.2.2.2.2.2.2.1.same (fun r h1 h2 => hfrw r (by omega) (by omega) (by omega)), hcl, fun i2 hi2 => (hX1.2.2.2.2.2.2.2.2.2.2.2.1 i2 hi2).same (fun r h1 => hfrw r (by omega) (by omega) (by omega)), hX1.2.2.2.2.2.2.2.2.2.2.2.2.same (fun r h1 h2 => hfrw r (by omega) (by omega) (by omega))⟩, fun q hq => (hfrw q (by omega) (by omega) (by omega)).trans (hbase q (by omega) (by omega) (by omega) (by omega))⟩) dX7_climb_153
                · have h56 : lc_why (st_B S1) (st_tm S1) (st_t S1 i) (st_gg S1 k qa) = 5 ∨ lc_why (st_B S1) (st_tm S1) (st_t S1 i) (st_gg S1 k qa) = 6 := Or.inr (by rw [show (6 : Int32) = nI 6 from rfl, nI_eq (by omega) (by decide)] at c_112; exact c_112)
                  refine lv_iload hx hb dX7_climb_115 (lv_at hl 6 rfl) ?_
                  refine lv_bipush (v := 32) hx hb dX7_climb_117 (by decide) ?_
                  refine lv_icmp_ge (tgt := 145) hx hb dX7_climb_119 (by decide) (fun c_119 => ?_) (fun c_119 => ?_)
                  · exact absurd c_119 (by rw [show (32 : Int32) = nI 32 from rfl, nI_leI (by decide) (by omega)]; omega)
                  · refine lv_aload_n hx hb dX7_climb_122 rfl (lv_at hl 3 rfl) ?_
                    refine wg_get F hP x0_c72 rfl iw_X7 6 (by decide) tb_169 rfl rfl dX7_climb_123 ?_
                    refine lv_iload hx hb dX7_climb_126 (lv_at hl 6 rfl) ?_
                    refine lv_aload hx hb dX7_climb_128 (lv_at hl 7 rfl) ?_
                    refine wg_getN F hP xh_t_c72 rfl iw_X2 1 (by decide) nb_251 rfl rfl dX7_climb_130 ?_
                    refine lv_iload hx hb dX7_climb_133 (lv_at hl 2 rfl) ?_
                    refine lv_iadd hx hb dX7_climb_135 ?_
                    refine lv_iconst (v := 2) hx hb dX7_climb_136 (by decide) ?_
                    refine lv_idiv hx hb dX7_climb_137 (by decide) ?_
                    refine wg_topi (y := nI ((lc_hh (st_B S1) (st_t S1 i) + pl n) / 2)) (by rw [nI_add, show (2 : Int32) = nI 2 from rfl, pk_div (by omega) (by decide) (by decide)]) ?_
                    refine wg_ist F hP hS f7w_c72 (vp_in_nI (by omega) (by decide)) dX7_climb_138 (fun H locs hP hS => ?_)
                    obtain ⟨C_138, hC_138⟩ : ∃ z : wg_C, z = va_up C_72 7 (some (.inl (E.2.1 0, 32, .inl (upd fp (nI (n + 1)).toNatClampNeg (nI ((lc_hh (st_B S1) (st_t S1 i) + pl n) / 2)))))) := ⟨_, rfl⟩
                    have hP : wg_P E A C_138 H := by rw [hC_138]; exact hP
                    have f7w_c138 : C_138 7 = some (.inl (E.2.1 0, 32, .inl (upd fp (nI (n + 1)).toNatClampNeg (nI ((lc_hh (st_B S1) (st_t S1 i) + pl n) / 2))))) := by rw [hC_138]; exact va_up_self _ _ _
                    have xc1_i_c138 : C_138 (20 + i) = some (.inr (0, [.ref (A (24 + i)), .int ((st_co S1 i) + 1), .int (st_rb S1 i), .int (st_ra S1 i)])) := by rw [hC_138]; rw [va_up_ne _ _ (by omega)]; exact xc1_i_c72
                    have xc2_i_c138 : C_138 (24 + i) = some (.inr (3, [.ref (A (28 + i)), .int (nI (st_cn S1 i))])) := by rw [hC_138]; rw [va_up_ne _ _ (by omega)]; exact xc2_i_c72
                    have xc3_i_c138 : C_138 (28 + i) = some (.inl (E.2.1 4, 11, .inr (.inr (.inr (.inr fc_i))))) := by rw [hC_138]; rw [va_up_ne _ _ (by omega)]; exact xc3_i_c72
                    have xg1_k_c138 : C_138 (32 + k) = some (.inr (1, [.ref (A (36 + k))])) := by rw [hC_138]; rw [va_up_ne _ _ (by omega)]; exact xg1_k_c72
                    have xg2_k_c138 : C_138 (36 + k) = some (.inr (3, [.ref (A (40 + k)), .int (nI (st_gn S1 k))])) := by rw [hC_138]; rw [va_up_ne _ _ (by omega)]; exact xg2_k_c72
                    have xg3_k_c138 : C_138 (40 + k) = some (.inl (E.2.1 4, 60, .inr (.inr (.inr (.inr fg_k))))) := by rw [hC_138]; rw [va_up_ne _ _ (by omega)]; exact xg3_k_c72
                    have xh_t_c138 : C_138 (200 + st_t S1 i) = some (.inr (2, [.int (nI (st_t S1 i)), .int (nI (lc_hh (st_B S1) (st_t S1 i))), .long (lc_hp (st_B S1) (st_t S1 i)), .ref (A (100 + lc_ho (st_B S1) (st_t S1 i))), .ref (A (100 + lc_hx (st_B S1) (st_t S1 i))), .long (lc_hr (st_B S1) (st_t S1 i)), .long (lc_dig (st_B S1) (st_t S1 i)), .int (nI (lc_sg (st_B S1) (st_t S1 i)))])) := by rw [hC_138]; rw [va_up_ne _ _ (by omega)]; exact xh_t_c72
                    have xho_t_c138 : C_138 (100 + lc_ho (st_B S1) (st_t S1 i)) = some (.inr (6, [.int (nI ((lc_ho (st_B S1) (st_t S1 i)))), .long (lN (lc_sa (st_B S1) ((lc_ho (st_B S1) (st_t S1 i))))), .long (lN (lc_sb (st_B S1) ((lc_ho (st_B S1) (st_t S1 i))))), .int (nI (lc_tot (lc_sa (st_B S1) ((lc_ho (st_B S1) (st_t S1 i)))) (lc_sb (st_B S1) ((lc_ho (st_B S1) (st_t S1 i))))))])) := by rw [hC_138]; rw [va_up_ne _ _ (by omega)]; exact xho_t_c72
                    have xhx_t_c138 : C_138 (100 + lc_hx (st_B S1) (st_t S1 i)) = some (.inr (6, [.int (nI ((lc_hx (st_B S1) (st_t S1 i)))), .long (lN (lc_sa (st_B S1) ((lc_hx (st_B S1) (st_t S1 i))))), .long (lN (lc_sb (st_B S1) ((lc_hx (st_B S1) (st_t S1 i))))), .int (nI (lc_tot (lc_sa (st_B S1) ((lc_hx (st_B S1) (st_t S1 i)))) (lc_sb (st_B S1) ((lc_hx (st_B S1) (st_t S1 i))))))])) := by rw [hC_138]; rw [va_up_ne _ _ (by omega)]; exact xhx_t_c72
                    have x0_c138 : C_138 0 = some (.inr (7, [.ref (A 1), .int (nI (lc_ns (st_B S1))), .ref (A 2), .ref (A 4), .ref (A 5), .ref (A 6), .ref (A 7), .ref (A 8), .ref (A 11)])) := by rw [hC_138]; rw [va_up_ne _ _ (by decide)]; exact x0_c72
                    have x1_c138 : C_138 1 = some (.inl (E.2.1 3, 16, .inr (.inr (.inr (.inr f1))))) := by rw [hC_138]; rw [va_up_ne _ _ (by decide)]; exact x1_c72
                    have x2_c138 : C_138 2 = some (.inr (3, [.ref (A 3), .int (nI (lc_nh (st_B S1)))])) := by rw [hC_138]; rw [va_up_ne _ _ (by decide)]; exact x2_c72
                    have x3_c138 : C_138 3 = some (.inl (E.2.1 4, 60, .inr (.inr (.inr (.inr f3))))) := by rw [hC_138]; rw [va_up_ne _ _ (by decide)]; exact x3_c72
                    have x4_c138 : C_138 4 = some (.inl (E.2.1 0, 4, .inl (fun k => nI (st_tm S1 k)))) := by rw [hC_138]; rw [va_up_ne _ _ (by decide)]; exact x4_c72
                    have x5_c138 : C_138 5 = some (.inl (E.2.1 5, 4, .inr (.inr (.inr (.inr f5))))) := by rw [hC_138]; rw [va_up_ne _ _ (by decide)]; exact x5_c72
                    have x6_c138 : C_138 6 = some (.inl (E.2.1 6, 4, .inr (.inr (.inr (.inr f6))))) := by rw [hC_138]; rw [va_up_ne _ _ (by decide)]; exact x6_c72
                    have x8_c138 : C_138 8 = some (.inr (5, [.ref (A 9), .ref (A 10)])) := by rw [hC_138]; rw [va_up_ne _ _ (by decide)]; exact x8_c72
                    have x9_c138 : C_138 9 = some (.inl (E.2.1 1, 8, .inr (.inl ((st_lf S1))))) := by rw [hC_138]; rw [va_up_ne _ _ (by decide)]; exact x9_c72
                    have x10_c138 : C_138 10 = some (.inl (E.2.1 1, 16, .inr (.inl nd))) := by rw [hC_138]; rw [va_up_ne _ _ (by decide)]; exact x10_c72
                    have x11_c138 : C_138 11 = some (.inr (4, [.int (nI (st_pa S1)), .int (nI (st_pb S1)), .long (st_va S1), .long (st_vb S1), .ref (A 12), .int (nI (lc_cnt (st_pa S1) (st_pb S1) 1)), .ref (A 13)])) := by rw [hC_138]; rw [va_up_ne _ _ (by decide)]; exact x11_c72
                    have x12_c138 : C_138 12 = some (.inl (E.2.1 1, 4, .inr (.inl ((st_pn S1))))) := by rw [hC_138]; rw [va_up_ne _ _ (by decide)]; exact x12_c72
                    have x13_c138 : C_138 13 = some (.inl (E.2.1 1, 16, .inr (.inl rk))) := by rw [hC_138]; rw [va_up_ne _ _ (by decide)]; exact x13_c72
                    have xh_v_c138 : C_138 (200 + st_gg S1 k qa) = some (.inr (2, [.int (nI (st_gg S1 k qa)), .int (nI (lc_hh (st_B S1) (st_gg S1 k qa))), .long (lc_hp (st_B S1) (st_gg S1 k qa)), .ref (A (100 + lc_ho (st_B S1) (st_gg S1 k qa))), .ref (A (100 + lc_hx (st_B S1) (st_gg S1 k qa))), .long (lc_hr (st_B S1) (st_gg S1 k qa)), .long (lc_dig (st_B S1) (st_gg S1 k qa)), .int (nI (lc_sg (st_B S1) (st_gg S1 k qa)))])) := by rw [hC_138]; rw [va_up_ne _ _ (by omega)]; exact xh_v_c72
                    have xho_v_c138 : C_138 (100 + lc_ho (st_B S1) (st_gg S1 k qa)) = some (.inr (6, [.int (nI ((lc_ho (st_B S1) (st_gg S1 k qa)))), .long (lN (lc_sa (st_B S1) ((lc_ho (st_B S1) (st_gg S1 k qa))))), .long (lN (lc_sb (st_B S1) ((lc_ho (st_B S1) (st_gg S1 k qa))))), .int (nI (lc_tot (lc_sa (st_B S1) ((lc_ho (st_B S1) (st_gg S1 k qa)))) (lc_sb (st_B S1) ((lc_ho (st_B S1) (st_gg S1 k qa))))))])) := by rw [hC_138]; rw [va_up_ne _ _ (by omega)]; exact xho_v_c72
                    have xhx_v_c138 : C_138 (100 + lc_hx (st_B S1) (st_gg S1 k qa)) = some (.inr (6, [.int (nI ((lc_hx (st_B S1) (st_gg S1 k qa)))), .long (lN (lc_sa (st_B S1) ((lc_hx (st_B S1) (st_gg S1 k qa))))), .long (lN (lc_sb (st_B S1) ((lc_hx (st_B S1) (st_gg S1 k qa))))), .int (nI (lc_tot (lc_sa (st_B S1) ((lc_hx (st_B S1) (st_gg S1 k qa)))) (lc_sb (st_B S1) ((lc_hx (st_B S1) (st_gg S1 k qa))))))])) := by rw [hC_138]; rw [va_up_ne _ _ (by omega)]; exact xhx_v_c72
                    rw [if_neg hy, if_pos h56] at hcons
                    have hfar := lc_why_far h56
                    rw [hh9] at hfar
                    have hfrw : ∀ r, r ≠ 7 → r ≠ 20 + i → C_138 r = Cw r := fun r h0 h1 => by rw [hC_138, va_up_ne _ _ h0, hC_72, va_up_ne _ _ h1]
                    have hfrw : ∀ r, r ≠ 7 → r ≠ 20 + i → C_138 r = Cw r := fun r h0 h1 => by rw [hC_138, va_up_ne _ _ h0, hC_72, va_up_ne _ _ h1]
                    have hcl : ∀ i2, i2 < 4 → lx_c E A C_138 i2 (st_cn S1 i2) (st_cg S1 i2) (va_up (st_co S1) i (st_co S1 i + 1) i2) (st_rb S1 i2) (st_ra S1 i2) := by
                      intro i2 hi2
                      by_cases z : i2 = i
                      · rw [z, va_up_self]; exact ⟨fc_i, xc1_i_c138, xc2_i_c138, xc3_i_c138, xcf_i⟩
                      · rw [va_up_ne _ _ z]; exact (xc i2 hi2).same (fun r hr => hfrw r (by omega) (by omega))
                    have hXn : lx E A C_138 (st_pay S1 i) := ⟨(hfrw 0 (by omega) (by omega)).trans hX1.1, hX1.2.1.same (hfrw 1 (by omega) (by omega)), (hfrw 2 (by omega) (by omega)).trans hX1.2.2.1, hX1.2.2.2.1.same (hfrw 3 (by omega) (by omega)), (hfrw 4 (by omega) (by omega)).trans hX1.2.2.2.2.1, hX1.2.2.2.2.2.1.same (hfrw 5 (by omega) (by omega)), hX1.2.2.2.2.2.2.1.same (hfrw 6 (by omega) (by omega)), ⟨_, f7w_c138⟩, hX1.2.2.2.2.2.2.2.2.1.same (fun r h1 h2 => hfrw r (by omega) (by omega)), hX1.2.2.2.2.2.2.2.2.2.1.same (fun r h1 h2 => hfrw r (by omega) (by omega)), hcl, fun i2 hi2 => (hX1.2.2.2.2.2.2.2.2.2.2.2.1 i2 hi2).same (fun r h1 => hfrw r (by omega) (by omega)), hX1.2.2.2.2.2.2.2.2.2.2.2.2.same (fun r h1 h2 => hfrw r (by omega) (by omega))⟩
                    have hbn : ∀ r, r ≠ 7 → r ≠ 20 + i → r ≠ 24 + i → r ≠ 28 + i → C_138 r = C r := fun r h0 h1 h2 h3 => (hfrw r h0 h1).trans (hbase r h0 h1 h2 h3)
                    have hPi2 := lc_Pi_push hPi hfar
                    have hfuel2 : 2 * (100000 - lc_hh (st_B S1) (st_t S1 i)) + 19 ≤ q + (n + 2) := by omega
                    have hst2 : op_climb i k 200020 S [x] = op_climb i k q (st_pay S1 i) (lc_pile (va_up pl (n + 1) ((lc_hh (st_B S1) (st_t S1 i) + pl n) / 2)) (n + 2)) := by rw [lc_pile_push]; exact hcons
                    have hfp2 : ∀ a, a < n + 2 → (upd fp (nI (n + 1)).toNatClampNeg (nI ((lc_hh (st_B S1) (st_t S1 i) + pl n) / 2))) a = nI (va_up pl (n + 1) ((lc_hh (st_B S1) (st_t S1 i) + pl n) / 2) a) := fun a ha => by
                      rw [nI_clamp (by omega)]
                      by_cases z : a = n + 1
                      · rw [z, pk_us, va_up_self]
                      · rw [pk_un z, va_up_ne _ _ z]; exact hfp a (by omega)
                    obtain ⟨x_139, ex_139⟩ : ∃ y : Int32, y = nI (n + 1) + 1 := ⟨_, rfl⟩
                    refine lv_iinc (v := x_139) (lv' := [(4, .int x_139), (9, .int (nI (lc_why (st_B S1) (st_tm S1) (st_t S1 i) (st_gg S1 k qa)))), (8, .ref (A (200 + st_gg S1 k qa))), (7, .int (nI (pl n))), (0, .ref (A 0)), (1, .ref (A (20 + i))), (2, .ref (A (32 + k))), (5, .ref (A (200 + st_t S1 i))), (6, .int y6)]) hx hb dX7_climb_139 hl (k := 6) rfl (by rw [ex_139]; rfl) (by decide) rfl (fun ls hl => ?_)
                    refine lv_goto (tgt := 154) hx hb dX7_climb_142 (by decide) ?_
                    obtain ⟨x_154, ex_154⟩ : ∃ y : Int32, y = y6 + 1 := ⟨_, rfl⟩
                    refine lv_iinc (v := x_154) (lv' := [(6, .int x_154), (4, .int x_139), (9, .int (nI (lc_why (st_B S1) (st_tm S1) (st_t S1 i) (st_gg S1 k qa)))), (8, .ref (A (200 + st_gg S1 k qa))), (7, .int (nI (pl n))), (0, .ref (A 0)), (1, .ref (A (20 + i))), (2, .ref (A (32 + k))), (5, .ref (A (200 + st_t S1 i)))]) hx hb dX7_climb_154 hl (k := 8) rfl (by rw [ex_154]; rfl) (by decide) rfl (fun ls hl => ?_)
                    refine lv_goto (tgt := 19) hx hb dX7_climb_157 (by decide) ?_
                    exact ih_loop_19 (st_pay S1 i) (n + 2) (va_up pl (n + 1) ((lc_hh (st_B S1) (st_t S1 i) + pl n) / 2)) q (tr + 1) x_139 x_154 (upd fp (nI (n + 1)).toNatClampNeg (nI ((lc_hh (st_B S1) (st_t S1 i) + pl n) / 2))) (by omega) hI1 hcn1 hPi2 hfuel2 (by omega) (by rw [ex_139, nI_1]) (by rw [ex_154, ey6, nI_1]) hst2 hfp2 C_138 f7w_c138 hXn hbn _ _ _ hP hS (lv_sub hl [5, 6, 7, 1, 8, 0] rfl)
            · have hy : lc_why (st_B S1) (st_tm S1) (st_t S1 i) (st_gg S1 k qa) = 0 := by rw [← nI_0, nI_eq (by omega) (by decide)] at c_77; exact c_77
              rw [if_pos hy] at hcons
              refine lv_aload_n hx hb dX7_climb_80 rfl (lv_at hl 4 rfl) ?_
              refine lv_aload hx hb dX7_climb_81 (lv_at hl 1 rfl) ?_
              refine lv_aload_n hx hb dX7_climb_83 rfl (lv_at hl 3 rfl) ?_
              refine wg_get F hP x0_c72 rfl iw_X7 3 (by decide) tb_166 rfl rfl dX7_climb_84 ?_
              refine lv_iconst (v := 3) hx hb dX7_climb_87 (by decide) ?_
              refine wg_ild F hP x4_c72 (vp_in_nI (n := 3) (by decide) (by decide)) dX7_climb_88 ?_
              refine wg_topi (y := nI (st_tm S1 3)) rfl ?_
              refine wg_cv hS (wg_rVN (As := [.ref (A (200 + st_gg S1 k qa)), .int (nI (st_tm S1 3))]) (rest := []) F hP hS (c_X0_keep l E A C_72 i (st_cn S1 i) fc_i (st_co S1 i + 1) (st_rb S1 i) (st_ra S1 i) (st_cg S1 i) (st_B S1) (st_gg S1 k qa) (st_tm S1 3) hi icn_i (by omega) itm3b xcf_i icg_i hDB2 hgq xc1_i_c72 xc2_i_c72 xc3_i_c72) ok_X0_keep nb_371 rfl rfl ⟨Nat.le_of_ble_eq_true rfl, Nat.le_of_ble_eq_true rfl⟩ xc1_i_c72 rfl rfl rfl hl.1 rfl (Nat.le_of_ble_eq_true rfl) dX7_climb_89 ⟨Nat.le_of_ble_eq_true rfl, Nat.le_of_ble_eq_true rfl⟩) (fun A1 C_89 H locs w_89 hP hS => ?_)
              obtain ⟨rfl, hfr_89, n2, fn, n3, nf⟩ := w_89
              have f7w_c89 : C_89 7 = some (.inl (E.2.1 0, 32, .inl fp)) := by rw [hfr_89 7 (by omega) (by omega)]; exact f7w_c72
              have xc1_i_c89 : C_89 (20 + i) = some (.inr (0, [.ref (A (24 + i)), .int ((st_co S1 i) + 1), .int (st_rb S1 i), .int (st_ra S1 i)])) := by rw [hfr_89 (20 + i) (by omega) (by omega)]; exact xc1_i_c72
              have xg1_k_c89 : C_89 (32 + k) = some (.inr (1, [.ref (A (36 + k))])) := by rw [hfr_89 (32 + k) (by omega) (by omega)]; exact xg1_k_c72
              have xg2_k_c89 : C_89 (36 + k) = some (.inr (3, [.ref (A (40 + k)), .int (nI (st_gn S1 k))])) := by rw [hfr_89 (36 + k) (by omega) (by omega)]; exact xg2_k_c72
              have xg3_k_c89 : C_89 (40 + k) = some (.inl (E.2.1 4, 60, .inr (.inr (.inr (.inr fg_k))))) := by rw [hfr_89 (40 + k) (by omega) (by omega)]; exact xg3_k_c72
              have xh_t_c89 : C_89 (200 + st_t S1 i) = some (.inr (2, [.int (nI (st_t S1 i)), .int (nI (lc_hh (st_B S1) (st_t S1 i))), .long (lc_hp (st_B S1) (st_t S1 i)), .ref (A (100 + lc_ho (st_B S1) (st_t S1 i))), .ref (A (100 + lc_hx (st_B S1) (st_t S1 i))), .long (lc_hr (st_B S1) (st_t S1 i)), .long (lc_dig (st_B S1) (st_t S1 i)), .int (nI (lc_sg (st_B S1) (st_t S1 i)))])) := by rw [hfr_89 (200 + st_t S1 i) (by omega) (by omega)]; exact xh_t_c72
              have xho_t_c89 : C_89 (100 + lc_ho (st_B S1) (st_t S1 i)) = some (.inr (6, [.int (nI ((lc_ho (st_B S1) (st_t S1 i)))), .long (lN (lc_sa (st_B S1) ((lc_ho (st_B S1) (st_t S1 i))))), .long (lN (lc_sb (st_B S1) ((lc_ho (st_B S1) (st_t S1 i))))), .int (nI (lc_tot (lc_sa (st_B S1) ((lc_ho (st_B S1) (st_t S1 i)))) (lc_sb (st_B S1) ((lc_ho (st_B S1) (st_t S1 i))))))])) := by rw [hfr_89 (100 + lc_ho (st_B S1) (st_t S1 i)) (by omega) (by omega)]; exact xho_t_c72
              have xhx_t_c89 : C_89 (100 + lc_hx (st_B S1) (st_t S1 i)) = some (.inr (6, [.int (nI ((lc_hx (st_B S1) (st_t S1 i)))), .long (lN (lc_sa (st_B S1) ((lc_hx (st_B S1) (st_t S1 i))))), .long (lN (lc_sb (st_B S1) ((lc_hx (st_B S1) (st_t S1 i))))), .int (nI (lc_tot (lc_sa (st_B S1) ((lc_hx (st_B S1) (st_t S1 i)))) (lc_sb (st_B S1) ((lc_hx (st_B S1) (st_t S1 i))))))])) := by rw [hfr_89 (100 + lc_hx (st_B S1) (st_t S1 i)) (by omega) (by omega)]; exact xhx_t_c72
              have x0_c89 : C_89 0 = some (.inr (7, [.ref (A 1), .int (nI (lc_ns (st_B S1))), .ref (A 2), .ref (A 4), .ref (A 5), .ref (A 6), .ref (A 7), .ref (A 8), .ref (A 11)])) := by rw [hfr_89 0 (by omega) (by omega)]; exact x0_c72
              have x1_c89 : C_89 1 = some (.inl (E.2.1 3, 16, .inr (.inr (.inr (.inr f1))))) := by rw [hfr_89 1 (by omega) (by omega)]; exact x1_c72
              have x2_c89 : C_89 2 = some (.inr (3, [.ref (A 3), .int (nI (lc_nh (st_B S1)))])) := by rw [hfr_89 2 (by omega) (by omega)]; exact x2_c72
              have x3_c89 : C_89 3 = some (.inl (E.2.1 4, 60, .inr (.inr (.inr (.inr f3))))) := by rw [hfr_89 3 (by omega) (by omega)]; exact x3_c72
              have x4_c89 : C_89 4 = some (.inl (E.2.1 0, 4, .inl (fun k => nI (st_tm S1 k)))) := by rw [hfr_89 4 (by omega) (by omega)]; exact x4_c72
              have x5_c89 : C_89 5 = some (.inl (E.2.1 5, 4, .inr (.inr (.inr (.inr f5))))) := by rw [hfr_89 5 (by omega) (by omega)]; exact x5_c72
              have x6_c89 : C_89 6 = some (.inl (E.2.1 6, 4, .inr (.inr (.inr (.inr f6))))) := by rw [hfr_89 6 (by omega) (by omega)]; exact x6_c72
              have x8_c89 : C_89 8 = some (.inr (5, [.ref (A 9), .ref (A 10)])) := by rw [hfr_89 8 (by omega) (by omega)]; exact x8_c72
              have x9_c89 : C_89 9 = some (.inl (E.2.1 1, 8, .inr (.inl ((st_lf S1))))) := by rw [hfr_89 9 (by omega) (by omega)]; exact x9_c72
              have x10_c89 : C_89 10 = some (.inl (E.2.1 1, 16, .inr (.inl nd))) := by rw [hfr_89 10 (by omega) (by omega)]; exact x10_c72
              have x11_c89 : C_89 11 = some (.inr (4, [.int (nI (st_pa S1)), .int (nI (st_pb S1)), .long (st_va S1), .long (st_vb S1), .ref (A 12), .int (nI (lc_cnt (st_pa S1) (st_pb S1) 1)), .ref (A 13)])) := by rw [hfr_89 11 (by omega) (by omega)]; exact x11_c72
              have x12_c89 : C_89 12 = some (.inl (E.2.1 1, 4, .inr (.inl ((st_pn S1))))) := by rw [hfr_89 12 (by omega) (by omega)]; exact x12_c72
              have x13_c89 : C_89 13 = some (.inl (E.2.1 1, 16, .inr (.inl rk))) := by rw [hfr_89 13 (by omega) (by omega)]; exact x13_c72
              have xh_v_c89 : C_89 (200 + st_gg S1 k qa) = some (.inr (2, [.int (nI (st_gg S1 k qa)), .int (nI (lc_hh (st_B S1) (st_gg S1 k qa))), .long (lc_hp (st_B S1) (st_gg S1 k qa)), .ref (A (100 + lc_ho (st_B S1) (st_gg S1 k qa))), .ref (A (100 + lc_hx (st_B S1) (st_gg S1 k qa))), .long (lc_hr (st_B S1) (st_gg S1 k qa)), .long (lc_dig (st_B S1) (st_gg S1 k qa)), .int (nI (lc_sg (st_B S1) (st_gg S1 k qa)))])) := by rw [hfr_89 (200 + st_gg S1 k qa) (by omega) (by omega)]; exact xh_v_c72
              have xho_v_c89 : C_89 (100 + lc_ho (st_B S1) (st_gg S1 k qa)) = some (.inr (6, [.int (nI ((lc_ho (st_B S1) (st_gg S1 k qa)))), .long (lN (lc_sa (st_B S1) ((lc_ho (st_B S1) (st_gg S1 k qa))))), .long (lN (lc_sb (st_B S1) ((lc_ho (st_B S1) (st_gg S1 k qa))))), .int (nI (lc_tot (lc_sa (st_B S1) ((lc_ho (st_B S1) (st_gg S1 k qa)))) (lc_sb (st_B S1) ((lc_ho (st_B S1) (st_gg S1 k qa))))))])) := by rw [hfr_89 (100 + lc_ho (st_B S1) (st_gg S1 k qa)) (by omega) (by omega)]; exact xho_v_c72
              have xhx_v_c89 : C_89 (100 + lc_hx (st_B S1) (st_gg S1 k qa)) = some (.inr (6, [.int (nI ((lc_hx (st_B S1) (st_gg S1 k qa)))), .long (lN (lc_sa (st_B S1) ((lc_hx (st_B S1) (st_gg S1 k qa))))), .long (lN (lc_sb (st_B S1) ((lc_hx (st_B S1) (st_gg S1 k qa))))), .int (nI (lc_tot (lc_sa (st_B S1) ((lc_hx (st_B S1) (st_gg S1 k qa)))) (lc_sb (st_B S1) ((lc_hx (st_B S1) (st_gg S1 k qa))))))])) := by rw [hfr_89 (100 + lc_hx (st_B S1) (st_gg S1 k qa)) (by omega) (by omega)]; exact xhx_v_c72
              have hfrw : ∀ r, r ≠ 20 + i → r ≠ 24 + i → r ≠ 28 + i → C_89 r = Cw r := fun r h1 h2 h3 => by rw [hfr_89 r h2 h3, hC_72, va_up_ne _ _ h1]
              have hcl := lx_cup (S := S1) xc hfrw hi (co := st_co S1 i + 1) (rb := st_rb S1 i) (ra := st_ra S1 i) ⟨fn, xc1_i_c89, n2, n3, nf⟩
              rw [lc_vid (st_rb S1), lc_vid (st_ra S1)] at hcl
              have hXn : lx E A C_89 (st_keep (st_pay S1 i) i (st_gg S1 k qa)) := ⟨(hfrw 0 (by omega) (by omega) (by omega)).trans hX1.1, hX1.2.1.same (hfrw 1 (by omega) (by omega) (by omega)), (hfrw 2 (by omega) (by omega) (by omega)).trans hX1.2.2.1, hX1.2.2.2.1.same (hfrw 3 (by omega) (by omega) (by omega)), (hfrw 4 (by omega) (by omega) (by omega)).trans hX1.2.2.2.2.1, hX1.2.2.2.2.2.1.same (hfrw 5 (by omega) (by omega) (by omega)), hX1.2.2.2.2.2.2.1.same (hfrw 6 (by omega) (by omega) (by omega)), hX1.2.2.2.2.2.2.2.1.same (hfrw 7 (by omega) (by omega) (by omega)), hX1.2.2.2.2.2.2.2.2.1.same (fun r h1 h2 => hfrw r (by omega) (by omega) (by omega)), hX1.2.2.2.2.2.2.2.2.2.1.same (fun r h1 h2 => hfrw r (by omega) (by omega) (by omega)), hcl, fun i2 hi2 => (hX1.2.2.2.2.2.2.2.2.2.2.2.1 i2 hi2).same (fun r h1 => hfrw r (by omega) (by omega) (by omega)), hX1.2.2.2.2.2.2.2.2.2.2.2.2.same (fun r h1 h2 => hfrw r (by omega) (by omega) (by omega))⟩
              have hbn : ∀ r, r ≠ 7 → r ≠ 20 + i → r ≠ 24 + i → r ≠ 28 + i → C_89 r = C r := fun r h0 h1 h2 h3 => (hfrw r h1 h2 h3).trans (hbase r h0 h1 h2 h3)
              have hI2 : lc_inv (st_keep (st_pay S1 i) i (st_gg S1 k qa)) := lc_inv_keep (S := st_pay S1 i) hI1 hgq
              have ht2 : st_t (st_keep (st_pay S1 i) i (st_gg S1 k qa)) i = st_gg S1 k qa := st_keep_t (st_pay S1 i) i _ itm3a
              have htl : lc_hh (st_B (st_keep (st_pay S1 i) i (st_gg S1 k qa))) (st_t (st_keep (st_pay S1 i) i (st_gg S1 k qa)) i) = pl n := by rw [ht2]; exact hh9
              have hup := lc_why_lt hy
              rw [hh9] at hup
              have hPi2 : lc_Pi (lc_hh (st_B (st_keep (st_pay S1 i) i (st_gg S1 k qa))) (st_t (st_keep (st_pay S1 i) i (st_gg S1 k qa)) i)) n pl := by rw [htl]; exact lc_Pi_pop hPi hup
              have hfuel2 : 2 * (100000 - lc_hh (st_B (st_keep (st_pay S1 i) i (st_gg S1 k qa))) (st_t (st_keep (st_pay S1 i) i (st_gg S1 k qa)) i)) + 19 ≤ q + n := by rw [htl]; omega
              have hst2 : op_climb i k 200020 S [x] = op_climb i k q (st_keep (st_pay S1 i) i (st_gg S1 k qa)) (lc_pile pl n) := hcons
              have hfp2 : ∀ a, a < n → fp a = nI (pl a) := fun a ha => hfp a (by omega)
              refine lv_aload hx hb dX7_climb_92 (lv_at hl 1 rfl) ?_
              refine lv_astore (lv' := [(5, .ref (A (200 + st_gg S1 k qa))), (9, .int (nI (lc_why (st_B S1) (st_tm S1) (st_t S1 i) (st_gg S1 k qa)))), (8, .ref (A (200 + st_gg S1 k qa))), (7, .int (nI (pl n))), (0, .ref (A 0)), (1, .ref (A (20 + i))), (2, .ref (A (32 + k))), (4, .int (nI (n + 1))), (6, .int y6)]) hx hb dX7_climb_94 hl (by decide) rfl (fun ls hl => ?_)
              obtain ⟨x_96, ex_96⟩ : ∃ y : Int32, y = nI (n + 1) + (-1) := ⟨_, rfl⟩
              refine lv_iinc (v := x_96) (lv' := [(4, .int x_96), (5, .ref (A (200 + st_gg S1 k qa))), (9, .int (nI (lc_why (st_B S1) (st_tm S1) (st_t S1 i) (st_gg S1 k qa)))), (8, .ref (A (200 + st_gg S1 k qa))), (7, .int (nI (pl n))), (0, .ref (A 0)), (1, .ref (A (20 + i))), (2, .ref (A (32 + k))), (6, .int y6)]) hx hb dX7_climb_96 hl (k := 7) rfl (by rw [ex_96]; rfl) (by decide) rfl (fun ls hl => ?_)
              refine lv_goto (tgt := 154) hx hb dX7_climb_99 (by decide) ?_
              obtain ⟨x_154, ex_154⟩ : ∃ y : Int32, y = y6 + 1 := ⟨_, rfl⟩
              refine lv_iinc (v := x_154) (lv' := [(6, .int x_154), (4, .int x_96), (5, .ref (A (200 + st_gg S1 k qa))), (9, .int (nI (lc_why (st_B S1) (st_tm S1) (st_t S1 i) (st_gg S1 k qa)))), (8, .ref (A (200 + st_gg S1 k qa))), (7, .int (nI (pl n))), (0, .ref (A 0)), (1, .ref (A (20 + i))), (2, .ref (A (32 + k)))]) hx hb dX7_climb_154 hl (k := 8) rfl (by rw [ex_154]; rfl) (by decide) rfl (fun ls hl => ?_)
              refine lv_goto (tgt := 19) hx hb dX7_climb_157 (by decide) ?_
              exact ih_loop_19 ((st_keep (st_pay S1 i) i (st_gg S1 k qa))) n pl q (tr + 1) x_96 x_154 fp (by omega) hI2 (by rw [st_keep_n]; exact lc_kn_pos itm3a) hPi2 hfuel2 (by omega) (by rw [ex_96]; exact pk_m1 n) (by rw [ex_154, ey6, nI_1]) hst2 hfp2 C_89 f7w_c89 hXn hbn _ _ _ hP hS (by rw [ht2]; exact lv_sub hl [6, 7, 8, 1, 2, 0] rfl)
  exact loop_19 _ S 1 (fun _ => x) 200020 0 1 0 (upd f7 (0 : Int32).toNatClampNeg (nI x)) (Nat.lt_succ_self _) hI hcn (⟨fun h => absurd h (by omega), fun a _ => hx5⟩) (by omega) rfl rfl rfl rfl (fun a ha => by rw [show a = 0 by omega]; rfl) C_6 x7_c6 hX0 (fun r h0 _ _ _ => hfr0 r h0) _ _ _ hP hS (lv_sub hl [3, 4, 5, 2, 1, 0] rfl)
set_option maxHeartbeats 4000000 in
set_option maxRecDepth 100000 in
theorem c_X7_seek (l : Launch) (E : wg_E) (A : Nat → Nat) (C : wg_C) (S : lc_S) (c0 g0 ht : Int32) (hX : lx E A C S) (hI : lc_inv S)  : Met l yX7_seek (wg_ws yX7_seek cX7_seek 6 (some .int)) (wg_rm 6 0 0) (wg_Pc E A C [.ref (A 0), .int c0, .int g0, .int ht]) (wg_Qi E (fun r A1 C1 => A = A1 ∧ r = (op_seek S c0 g0 ht).1 ∧ lx E A C1 (op_seek S c0 g0 ht).2 ∧ ∀ q, 1000 ≤ q → C1 q = C q)) 0 0 (wg_A E) := by
  refine wg_met (by decide) (Nat.le_of_ble_eq_true rfl) ?_
  intro p e s m below meth c ls F hr hlk hnm hP hS hl
  have F : wg_F p m c cX7_seek 6 s ([.ref (A 0), .int c0, .int g0, .int ht] : List Value).toArray "LightChecks" E := F
  have hx := F.1
  have hb := F.2.1
  have hml := F.2.2.1
  have hown := F.2.2.2.1
  have hts := F.2.2.2.2.1
  have hl : lv_has ls 6 [(0, .ref (A 0)), (1, .int c0), (2, .int g0), (3, .int ht)] := hl
  obtain ⟨x0, ⟨f1, x1, x1f⟩, x2, ⟨f3, x3, x3f⟩, x4, ⟨f5, x5, x5f⟩, ⟨f6, x6, x6f⟩, ⟨f7, x7⟩, ⟨x8, x9, nd, x10, hnd⟩, ⟨x11, x12, rk, x13⟩, xc, xg, hDB⟩ := id hX
  obtain ⟨iok, ⟨itm, itm3a, itm3b⟩, icl, igv, ipa, ipb, ipab⟩ := id hI
  have ins := iok.1
  have inh := iok.2.1
  refine lv_aload_n hx hb dX7_seek_0 rfl (lv_at hl 0 rfl) ?_
  refine lv_iload_n hx hb dX7_seek_1 rfl (lv_at hl 1 rfl) ?_
  refine wg_cq hS (wg_rV (As := [.int c0]) (rest := []) F hP hS (c_X7_clientAt l E A C (lc_ns (st_B S)) f5 c0 x0 x5) ok_X7_clientAt tb_330 rfl rfl ⟨Nat.le_of_ble_eq_true rfl, Nat.le_of_ble_eq_true rfl⟩ x0 rfl rfl rfl hl.1 rfl (Nat.le_of_ble_eq_true rfl) dX7_seek_2 ⟨Nat.le_of_ble_eq_true rfl, Nat.le_of_ble_eq_true rfl⟩) (fun r_2 A1 C_2 H locs w_2 hP hS => ?_)
  obtain ⟨w_2, rfl, rfl⟩ := w_2
  rcases hx_i : lc_ix c0 4 with _ | i
  · refine wg_none (by rw [w_2, lc_at_ix (by omega) x5f, hx_i]; rfl) ?_
    refine lv_astoreN (lv' := [(4, .null), (0, .ref (A 0)), (1, .int c0), (2, .int g0), (3, .int ht)]) hx hb dX7_seek_5 hl (by decide) rfl (fun ls hl => ?_)
    refine lv_aload_n hx hb dX7_seek_7 rfl (lv_at hl 1 rfl) ?_
    refine lv_iload_n hx hb dX7_seek_8 rfl (lv_at hl 3 rfl) ?_
    refine wg_cq hS (wg_rV (As := [.int g0]) (rest := []) F hP hS (c_X7_giverAt l E A C (lc_ns (st_B S)) f6 g0 x0 x6) ok_X7_giverAt tb_383 rfl rfl ⟨Nat.le_of_ble_eq_true rfl, Nat.le_of_ble_eq_true rfl⟩ x0 rfl rfl rfl hl.1 rfl (Nat.le_of_ble_eq_true rfl) dX7_seek_9 ⟨Nat.le_of_ble_eq_true rfl, Nat.le_of_ble_eq_true rfl⟩) (fun r_9 A1 C_9 H locs w_9 hP hS => ?_)
    obtain ⟨w_9, rfl, rfl⟩ := w_9
    rcases hx_k : lc_ix g0 4 with _ | k
    · refine wg_none (by rw [w_9, lc_at_ix (by omega) x6f, hx_k]; rfl) ?_
      refine lv_astoreN (lv' := [(5, .null), (4, .null), (0, .ref (A 0)), (1, .int c0), (2, .int g0), (3, .int ht)]) hx hb dX7_seek_12 hl (by decide) rfl (fun ls hl => ?_)
      refine lv_aloadN hx hb dX7_seek_14 (lv_at hl 1 rfl) ?_
      refine lv_ifnullN (tgt := 31) hx hb dX7_seek_16 (by decide) ?_
      have hop : op_seek S c0 g0 ht = (-1, S) := by unfold op_seek; rw [hx_i, hx_k]
      refine lv_iconst (v := (-1)) hx hb dX7_seek_31 (by decide) ?_
      exact wg_iret F hP hS hr hlk (⟨rfl, by rw [hop], by rw [hop]; exact hX, fun _ _ => rfl⟩) dX7_seek_32
    · refine wg_some (x := A (32 + k)) (by rw [w_9, lc_at_ix (by omega) x6f, hx_k]; rfl) ?_
      obtain ⟨hk, ek, tk⟩ := lc_ix_some hx_k
      obtain ⟨fg_k, xg1_k, xg2_k, xg3_k, xgf_k⟩ := xg k hk
      obtain ⟨ign_k, igg_k, igd_k⟩ := igv k hk
      refine lv_astore (lv' := [(5, .ref (A (32 + k))), (4, .null), (0, .ref (A 0)), (1, .int c0), (2, .int g0), (3, .int ht)]) hx hb dX7_seek_12 hl (by decide) rfl (fun ls hl => ?_)
      refine lv_aloadN hx hb dX7_seek_14 (lv_at hl 1 rfl) ?_
      refine lv_ifnullN (tgt := 31) hx hb dX7_seek_16 (by decide) ?_
      have hop : op_seek S c0 g0 ht = (-1, S) := by unfold op_seek; rw [hx_i, hx_k]
      refine lv_iconst (v := (-1)) hx hb dX7_seek_31 (by decide) ?_
      exact wg_iret F hP hS hr hlk (⟨rfl, by rw [hop], by rw [hop]; exact hX, fun _ _ => rfl⟩) dX7_seek_32
  · refine wg_some (x := A (20 + i)) (by rw [w_2, lc_at_ix (by omega) x5f, hx_i]; rfl) ?_
    obtain ⟨hi, ei, ti⟩ := lc_ix_some hx_i
    obtain ⟨fc_i, xc1_i, xc2_i, xc3_i, xcf_i⟩ := xc i hi
    obtain ⟨icn_i, icg_i⟩ := icl i hi
    refine lv_astore (lv' := [(4, .ref (A (20 + i))), (0, .ref (A 0)), (1, .int c0), (2, .int g0), (3, .int ht)]) hx hb dX7_seek_5 hl (by decide) rfl (fun ls hl => ?_)
    refine lv_aload_n hx hb dX7_seek_7 rfl (lv_at hl 1 rfl) ?_
    refine lv_iload_n hx hb dX7_seek_8 rfl (lv_at hl 3 rfl) ?_
    refine wg_cq hS (wg_rV (As := [.int g0]) (rest := []) F hP hS (c_X7_giverAt l E A C (lc_ns (st_B S)) f6 g0 x0 x6) ok_X7_giverAt tb_383 rfl rfl ⟨Nat.le_of_ble_eq_true rfl, Nat.le_of_ble_eq_true rfl⟩ x0 rfl rfl rfl hl.1 rfl (Nat.le_of_ble_eq_true rfl) dX7_seek_9 ⟨Nat.le_of_ble_eq_true rfl, Nat.le_of_ble_eq_true rfl⟩) (fun r_9 A1 C_9 H locs w_9 hP hS => ?_)
    obtain ⟨w_9, rfl, rfl⟩ := w_9
    rcases hx_k : lc_ix g0 4 with _ | k
    · refine wg_none (by rw [w_9, lc_at_ix (by omega) x6f, hx_k]; rfl) ?_
      refine lv_astoreN (lv' := [(5, .null), (4, .ref (A (20 + i))), (0, .ref (A 0)), (1, .int c0), (2, .int g0), (3, .int ht)]) hx hb dX7_seek_12 hl (by decide) rfl (fun ls hl => ?_)
      refine lv_aload hx hb dX7_seek_14 (lv_at hl 1 rfl) ?_
      refine lv_ifnull hx hb dX7_seek_16 ?_
      refine lv_aloadN hx hb dX7_seek_19 (lv_at hl 0 rfl) ?_
      refine lv_ifnullN (tgt := 31) hx hb dX7_seek_21 (by decide) ?_
      have hop : op_seek S c0 g0 ht = (-1, S) := by unfold op_seek; rw [hx_i, hx_k]
      refine lv_iconst (v := (-1)) hx hb dX7_seek_31 (by decide) ?_
      exact wg_iret F hP hS hr hlk (⟨rfl, by rw [hop], by rw [hop]; exact hX, fun _ _ => rfl⟩) dX7_seek_32
    · refine wg_some (x := A (32 + k)) (by rw [w_9, lc_at_ix (by omega) x6f, hx_k]; rfl) ?_
      obtain ⟨hk, ek, tk⟩ := lc_ix_some hx_k
      obtain ⟨fg_k, xg1_k, xg2_k, xg3_k, xgf_k⟩ := xg k hk
      obtain ⟨ign_k, igg_k, igd_k⟩ := igv k hk
      refine lv_astore (lv' := [(5, .ref (A (32 + k))), (4, .ref (A (20 + i))), (0, .ref (A 0)), (1, .int c0), (2, .int g0), (3, .int ht)]) hx hb dX7_seek_12 hl (by decide) rfl (fun ls hl => ?_)
      refine lv_aload hx hb dX7_seek_14 (lv_at hl 1 rfl) ?_
      refine lv_ifnull hx hb dX7_seek_16 ?_
      refine lv_aload hx hb dX7_seek_19 (lv_at hl 0 rfl) ?_
      refine lv_ifnull hx hb dX7_seek_21 ?_
      refine lv_iload_n hx hb dX7_seek_24 rfl (lv_at hl 5 rfl) ?_
      refine wg_ci hS (wg_rS (As := [.int ht]) (rest := []) F hP hS (c_X7_isHeight l E A C ht) ok_X7_isHeight tb_231 rfl rfl ⟨Nat.le_of_ble_eq_true rfl, Nat.le_of_ble_eq_true rfl⟩ rfl hl.1 rfl (Nat.le_of_ble_eq_true rfl) dX7_seek_25 ⟨Nat.le_of_ble_eq_true rfl, Nat.le_of_ble_eq_true rfl⟩) (fun r_25 A1 C_25 H locs w_25 hP hS => ?_)
      obtain ⟨w_25, rfl, rfl⟩ := w_25
      rcases w_25 with ⟨x, hx5, ex, w2⟩ | ⟨ho, w2⟩
      · have hxh : lc_ix ht 100001 = some x := by rw [ex]; exact lc_ix_in (by omega) (by decide)
        refine lv_if_ne (tgt := 33) hx hb dX7_seek_28 (by decide) (fun c_28 => ?_) (fun c_28 => ?_)
        · refine lv_aload hx hb dX7_seek_33 (lv_at hl 1 rfl) ?_
          refine wg_cq hS (wg_rVN (As := []) (rest := []) F hP hS (c_X0_trusted l E A C i (st_cn S i) fc_i (st_co S i) (st_rb S i) (st_ra S i) (by omega) xc1_i xc2_i xc3_i) ok_X0_trusted nb_350 rfl rfl ⟨Nat.le_of_ble_eq_true rfl, Nat.le_of_ble_eq_true rfl⟩ xc1_i rfl rfl rfl hl.1 rfl (Nat.le_of_ble_eq_true rfl) dX7_seek_35 ⟨Nat.le_of_ble_eq_true rfl, Nat.le_of_ble_eq_true rfl⟩) (fun r_35 A1 C_35 H locs w_35 hP hS => ?_)
          obtain ⟨w_35, rfl, rfl⟩ := w_35
          by_cases hcn : st_cn S i = 0
          · refine wg_none (by rw [w_35, hcn]; exact lc_at_out (Or.inl (by decide)) (by decide)) ?_
            refine lv_ifnonnullN hx hb dX7_seek_38 ?_
            have hop : op_seek S c0 g0 ht = (-2, S) := by unfold op_seek; rw [hx_i, hx_k, hxh]; exact if_pos hcn
            refine lv_bipush (v := (-2)) hx hb dX7_seek_41 (by decide) ?_
            exact wg_iret F hP hS hr hlk (⟨rfl, by rw [hop], by rw [hop]; exact hX, fun _ _ => rfl⟩) dX7_seek_43
          · refine wg_some (x := A (200 + st_t S i)) (by rw [w_35, show (1 : Int32) = nI 1 from rfl, pk_sub (by omega), lc_at_in (by omega) (by omega)]; exact xcf_i _ (by omega)) ?_
            have xh_t : C (200 + st_t S i) = some (.inr (2, [.int (nI (st_t S i)), .int (nI (lc_hh (st_B S) (st_t S i))), .long (lc_hp (st_B S) (st_t S i)), .ref (A (100 + lc_ho (st_B S) (st_t S i))), .ref (A (100 + lc_hx (st_B S) (st_t S i))), .long (lc_hr (st_B S) (st_t S i)), .long (lc_dig (st_B S) (st_t S i)), .int (nI (lc_sg (st_B S) (st_t S i)))])) := hDB.2.1 _ (icg_i (st_cn S i - 1) (by omega))
            obtain ⟨hk1_t, hk2_t, hk3_t, hk4_t⟩ := iok.2.2.2 _ (icg_i (st_cn S i - 1) (by omega))
            have xho_t : C (100 + lc_ho (st_B S) (st_t S i)) = some (.inr (6, [.int (nI ((lc_ho (st_B S) (st_t S i)))), .long (lN (lc_sa (st_B S) ((lc_ho (st_B S) (st_t S i))))), .long (lN (lc_sb (st_B S) ((lc_ho (st_B S) (st_t S i))))), .int (nI (lc_tot (lc_sa (st_B S) ((lc_ho (st_B S) (st_t S i)))) (lc_sb (st_B S) ((lc_ho (st_B S) (st_t S i))))))])) := hDB.1 _ hk2_t
            have xhx_t : C (100 + lc_hx (st_B S) (st_t S i)) = some (.inr (6, [.int (nI ((lc_hx (st_B S) (st_t S i)))), .long (lN (lc_sa (st_B S) ((lc_hx (st_B S) (st_t S i))))), .long (lN (lc_sb (st_B S) ((lc_hx (st_B S) (st_t S i))))), .int (nI (lc_tot (lc_sa (st_B S) ((lc_hx (st_B S) (st_t S i)))) (lc_sb (st_B S) ((lc_hx (st_B S) (st_t S i))))))])) := hDB.1 _ hk3_t
            refine lv_ifnonnull (tgt := 44) hx hb dX7_seek_38 (by decide) ?_
            have hop : op_seek S c0 g0 ht = op_climb i k 200020 S [x] := by unfold op_seek; rw [hx_i, hx_k, hxh]; exact if_neg hcn
            refine lv_aload_n hx hb dX7_seek_44 rfl (lv_at hl 2 rfl) ?_
            refine lv_aload hx hb dX7_seek_45 (lv_at hl 1 rfl) ?_
            refine lv_aload hx hb dX7_seek_47 (lv_at hl 0 rfl) ?_
            refine lv_iload_n hx hb dX7_seek_49 rfl (lv_at hl 5 rfl) ?_
            refine wg_topi (y := nI x) ex ?_
            refine wg_ci hS (wg_rV (As := [.ref (A (20 + i)), .ref (A (32 + k)), .int (nI x)]) (rest := []) F hP hS (c_X7_climb l E A C S i k x hX hI hi hk hx5 hcn) ok_X7_climb tb_402 rfl rfl ⟨Nat.le_of_ble_eq_true rfl, Nat.le_of_ble_eq_true rfl⟩ x0 rfl rfl rfl hl.1 rfl (Nat.le_of_ble_eq_true rfl) dX7_seek_50 ⟨Nat.le_of_ble_eq_true rfl, Nat.le_of_ble_eq_true rfl⟩) (fun r_50 A1 C_50 H locs w_50 hP hS => ?_)
            obtain ⟨rfl, w2, w3, w4⟩ := w_50
            exact wg_iret F hP hS hr hlk (⟨rfl, by rw [hop]; exact w2, by rw [hop]; exact w3, w4⟩) dX7_seek_53
        · exact absurd (w2.symm.trans c_28) (by decide)
      · simp only [Int32.lt_iff_toInt_lt, lc_t0i, nI_toInt (show 100000 < 2 ^ 31 by decide)] at ho
        have hxh : lc_ix ht 100001 = none := lc_ix_no (by omega)
        refine lv_if_ne (tgt := 33) hx hb dX7_seek_28 (by decide) (fun c_28 => ?_) (fun c_28 => ?_)
        · exact absurd w2 c_28
        · have hop : op_seek S c0 g0 ht = (-1, S) := by unfold op_seek; rw [hx_i, hx_k, hxh]
          refine lv_iconst (v := (-1)) hx hb dX7_seek_31 (by decide) ?_
          exact wg_iret F hP hS hr hlk (⟨rfl, by rw [hop], by rw [hop]; exact hX, fun _ _ => rfl⟩) dX7_seek_32
