set_option maxHeartbeats 4000000 in
set_option maxRecDepth 100000 in
theorem c_X8_grow0 (l : Launch) (E : wg_E) (A : Nat → Nat) (C : wg_C) (ns nh a0 b0 ct0 : Int32) (va0 vb0 : Int64) (lf g18 : Nat → Int64)  (f1000 : C 1000 = some (.inr (8, [.int ns, .ref (A 1001), .int nh, .ref (A 1003), .ref (A 1004), .ref (A 1005), .ref (A 1006), .ref (A 1007), .ref (A 1008), .ref (A 1009), .ref (A 1010), .ref (A 1011), .ref (A 1012), .ref (A 1013), .ref (A 1014), .ref (A 1015), .ref (A 1016), .ref (A 1017), .ref (A 1018), .int a0, .int b0, .long va0, .long vb0, .int ct0, .ref (A 1024), .ref (A 1025), .ref (A 1026), .ref (A 1027), .ref (A 1028)]))) (f1017 : C 1017 = some (.inl (E.2.1 1, 8, .inr (.inl lf)))) (f1018 : C 1018 = some (.inl (E.2.1 1, 16, .inr (.inl g18)))) : Met l yX8_grow (wg_ws yX8_grow cX8_grow 2 none) (wg_rm 2 0 0) (wg_Pc E A C [.ref (A 1000)]) (wg_Qv E (fun A1 C1 => A = A1 ∧ (∀ q, q ≠ 1018 → C1 q = C q) ∧ ∃ nd : Nat → Int64, C1 1018 = some (.inl (E.2.1 1, 16, .inr (.inl nd))) ∧ ∀ q, 1 ≤ q → q < 16 → nd q = lc_node lf q)) 0 0 (wg_A E) := by
  refine wg_met (by decide) (Nat.le_of_ble_eq_true rfl) ?_
  intro p e s m below meth c ls F hr hlk hnm hP hS hl
  have F : wg_F p m c cX8_grow 2 s ([.ref (A 1000)] : List Value).toArray "LightChecksModel" E := F
  have hx := F.1
  have hb := F.2.1
  have hml := F.2.2.1
  have hown := F.2.2.2.1
  have hts := F.2.2.2.2.1
  have hl : lv_has ls 2 [(0, .ref (A 1000))] := hl
  refine lv_bipush (v := 15) hx hb dX8_grow_0 (by decide) ?_
  refine lv_istore_n (lv' := [(1, .int 15), (0, .ref (A 1000))]) hx hb dX8_grow_2 rfl hl (by decide) rfl (fun ls hl => ?_)
  have loop_3 : ∀ (fuel : Nat) (k : Nat) (y1 : Int32) (fk : Nat → Int64), k < fuel → (k ≤ 15) → (y1 = nI k) → (∀ q, k < q → q < 16 → fk q = lc_node lf q) → ∀ (Cw : wg_C) , Cw 1000 = some (.inr (8, [.int ns, .ref (A 1001), .int nh, .ref (A 1003), .ref (A 1004), .ref (A 1005), .ref (A 1006), .ref (A 1007), .ref (A 1008), .ref (A 1009), .ref (A 1010), .ref (A 1011), .ref (A 1012), .ref (A 1013), .ref (A 1014), .ref (A 1015), .ref (A 1016), .ref (A 1017), .ref (A 1018), .int a0, .int b0, .long va0, .long vb0, .int ct0, .ref (A 1024), .ref (A 1025), .ref (A 1026), .ref (A 1027), .ref (A 1028)])) → Cw 1017 = some (.inl (E.2.1 1, 8, .inr (.inl lf))) → Cw 1018 = some (.inl (E.2.1 1, 16, .inr (.inl fk))) → (∀ r, r ≠ 1018 → Cw r = C r) → ∀ (H : Heap) (locs : List Loc) (ls : Array Slot), wg_P E A Cw H → va_S (wg_A E) s.heap H locs → lv_has ls 2 [(0, .ref (A 1000)), (1, .int y1)] → W p l e (wg_rm 2 0 0) s m ([.ref (A 1000)] : List Value).toArray below meth c H locs 0 0 (MQ below (wg_Qv E (fun A1 C1 => A = A1 ∧ (∀ q, q ≠ 1018 → C1 q = C q) ∧ ∃ nd : Nat → Int64, C1 1018 = some (.inl (E.2.1 1, 16, .inr (.inl nd))) ∧ ∀ q, 1 ≤ q → q < 16 → nd q = lc_node lf q)) ([.ref (A 1000)] : List Value).toArray s 0 0 (wg_A E)) (F0 m 3 ls []) := by
    intro fuel
    induction fuel with
    | zero => intro k y1 fk hm; exact absurd hm (Nat.not_lt_zero _)
    | succ fuel ih_loop_3 =>
      intro k y1 fk hm_loop_3 hk ey1 hfk Cw f1000w f1017w f1018w hbase H locs ls hP hS hl
      subst ey1
      refine lv_iload_n hx hb dX8_grow_3 rfl (lv_at hl 1 rfl) ?_
      refine lv_if_le (tgt := 61) hx hb dX8_grow_4 (by decide) (fun c_4 => ?_) (fun c_4 => ?_)
      · have hk0 : k = 0 := by rw [← nI_0, nI_leI (by omega) (by decide)] at c_4; omega
        subst hk0
        exact wg_vret F hP hS hr hlk (⟨rfl, hbase, fk, f1018w, fun q h1 h2 => hfk q (by omega) h2⟩) dX8_grow_61
      · obtain ⟨k, rfl⟩ : ∃ z, k = z + 1 := ⟨k - 1, by rw [← nI_0, nI_leI (by omega) (by decide)] at c_4; omega⟩
        refine lv_aload_n hx hb dX8_grow_7 rfl (lv_at hl 0 rfl) ?_
        refine wg_get F hP f1000w rfl iw_X8 18 (by decide) tb_567 rfl rfl dX8_grow_8 ?_
        refine lv_iload_n hx hb dX8_grow_11 rfl (lv_at hl 1 rfl) ?_
        refine lv_iload_n hx hb dX8_grow_12 rfl (lv_at hl 1 rfl) ?_
        refine lv_bipush (v := 7) hx hb dX8_grow_13 (by decide) ?_
        refine lv_icmp_le (tgt := 33) hx hb dX8_grow_15 (by decide) (fun c_15 => ?_) (fun c_15 => ?_)
        · have h8 : k + 1 < 8 := by rw [show (7 : Int32) = nI 7 from rfl, nI_leI (by omega) (by decide)] at c_15; omega
          refine lv_aload_n hx hb dX8_grow_33 rfl (lv_at hl 0 rfl) ?_
          refine wg_get F hP f1000w rfl iw_X8 18 (by decide) tb_567 rfl rfl dX8_grow_34 ?_
          refine lv_iconst (v := 2) hx hb dX8_grow_37 (by decide) ?_
          refine lv_iload_n hx hb dX8_grow_38 rfl (lv_at hl 1 rfl) ?_
          refine lv_imul hx hb dX8_grow_39 ?_
          refine wg_topi (y := nI (2 * (k + 1))) (by rw [show (2 : Int32) = nI 2 from rfl, pk_mul]) ?_
          refine wg_lld F hP f1018w (vp_in_nI (by omega) (by decide)) dX8_grow_40 ?_
          refine wg_topl (y := lc_node lf (2 * (k + 1))) ((by rw [nI_clamp (by omega)]; exact hfk _ (by omega) (by omega))) ?_
          refine lv_aload_n hx hb dX8_grow_41 rfl (lv_at hl 0 rfl) ?_
          refine wg_get F hP f1000w rfl iw_X8 18 (by decide) tb_567 rfl rfl dX8_grow_42 ?_
          refine lv_iconst (v := 2) hx hb dX8_grow_45 (by decide) ?_
          refine lv_iload_n hx hb dX8_grow_46 rfl (lv_at hl 1 rfl) ?_
          refine lv_imul hx hb dX8_grow_47 ?_
          refine wg_topi (y := nI (2 * (k + 1))) (by rw [show (2 : Int32) = nI 2 from rfl, pk_mul]) ?_
          refine lv_iconst (v := 1) hx hb dX8_grow_48 (by decide) ?_
          refine lv_iadd hx hb dX8_grow_49 ?_
          refine wg_topi (y := nI (2 * (k + 1) + 1)) (by rw [nI_1]) ?_
          refine wg_lld F hP f1018w (vp_in_nI (by omega) (by decide)) dX8_grow_50 ?_
          refine wg_topl (y := lc_node lf (2 * (k + 1) + 1)) ((by rw [nI_clamp (by omega)]; exact hfk _ (by omega) (by omega))) ?_
          refine wg_cl_ hS (wg_rS (As := [.long (lc_node lf (2 * (k + 1))), .long (lc_node lf (2 * (k + 1) + 1))]) (rest := [.int (nI (k + 1)), .ref (A 1018)]) F hP hS (c_X8_pair l E A Cw _ _) ok_X8_pair tb_544 rfl rfl ⟨Nat.le_of_ble_eq_true rfl, Nat.le_of_ble_eq_true rfl⟩ rfl hl.1 rfl (Nat.le_of_ble_eq_true rfl) dX8_grow_51 ⟨Nat.le_of_ble_eq_true rfl, Nat.le_of_ble_eq_true rfl⟩) (fun r_51 A1 C_51 H locs w_51 hP hS => ?_)
          obtain ⟨w_51, rfl, rfl⟩ := w_51
          refine wg_topl (y := lc_node lf (k + 1)) (by rw [w_51, lc_node_lo (by omega) h8]) ?_
          refine wg_lst F hP hS f1018w (vp_in_nI (by omega) (by decide)) dX8_grow_54 (fun H locs hP hS => ?_)
          obtain ⟨C_54, hC_54⟩ : ∃ z : wg_C, z = va_up Cw 1018 (some (.inl (E.2.1 1, 16, .inr (.inl (vp_updL fk (nI (k + 1)).toNatClampNeg (lc_node lf (k + 1))))))) := ⟨_, rfl⟩
          have hP : wg_P E A C_54 H := by rw [hC_54]; exact hP
          have f1000w_c54 : C_54 1000 = some (.inr (8, [.int ns, .ref (A 1001), .int nh, .ref (A 1003), .ref (A 1004), .ref (A 1005), .ref (A 1006), .ref (A 1007), .ref (A 1008), .ref (A 1009), .ref (A 1010), .ref (A 1011), .ref (A 1012), .ref (A 1013), .ref (A 1014), .ref (A 1015), .ref (A 1016), .ref (A 1017), .ref (A 1018), .int a0, .int b0, .long va0, .long vb0, .int ct0, .ref (A 1024), .ref (A 1025), .ref (A 1026), .ref (A 1027), .ref (A 1028)])) := by rw [hC_54]; rw [va_up_ne _ _ (by decide)]; exact f1000w
          have f1017w_c54 : C_54 1017 = some (.inl (E.2.1 1, 8, .inr (.inl lf))) := by rw [hC_54]; rw [va_up_ne _ _ (by decide)]; exact f1017w
          have f1018w_c54 : C_54 1018 = some (.inl (E.2.1 1, 16, .inr (.inl (vp_updL fk (nI (k + 1)).toNatClampNeg (lc_node lf (k + 1)))))) := by rw [hC_54]; exact va_up_self _ _ _
          have hfn : ∀ q, k < q → q < 16 → (vp_updL fk (nI (k + 1)).toNatClampNeg (lc_node lf (k + 1))) q = lc_node lf q := by
            intro q h1 h2
            rw [nI_clamp (by omega)]
            by_cases z : q = k + 1
            · subst z; rw [lm_uLs]
            · rw [lm_uLn _ _ z]; exact hfk q (by omega) h2
          obtain ⟨x_55, ex_55⟩ : ∃ y : Int32, y = nI (k + 1) + (-1) := ⟨_, rfl⟩
          refine lv_iinc (v := x_55) (lv' := [(1, .int x_55), (0, .ref (A 1000))]) hx hb dX8_grow_55 hl (k := 1) rfl (by rw [ex_55]; rfl) (by decide) rfl (fun ls hl => ?_)
          refine lv_goto (tgt := 3) hx hb dX8_grow_58 (by decide) ?_
          exact ih_loop_3 k x_55 (vp_updL fk (nI (k + 1)).toNatClampNeg (lc_node lf (k + 1))) (by omega) (by omega) (by rw [ex_55]; exact pk_m1 k) hfn C_54 f1000w_c54 f1017w_c54 f1018w_c54 ((fun r h1 => by rw [hC_54, va_up_ne _ _ h1]; exact hbase r h1)) _ _ _ hP hS (lv_sub hl [1, 0] rfl)
        · have h8 : 8 ≤ k + 1 := by rw [show (7 : Int32) = nI 7 from rfl, nI_leI (by omega) (by decide)] at c_15; omega
          refine lv_aload_n hx hb dX8_grow_18 rfl (lv_at hl 0 rfl) ?_
          refine wg_get F hP f1000w rfl iw_X8 17 (by decide) tb_566 rfl rfl dX8_grow_19 ?_
          refine lv_iload_n hx hb dX8_grow_22 rfl (lv_at hl 1 rfl) ?_
          refine lv_bipush (v := 8) hx hb dX8_grow_23 (by decide) ?_
          refine lv_isub hx hb dX8_grow_25 ?_
          refine wg_topi (y := nI (k + 1 - 8)) (by rw [show (8 : Int32) = nI 8 from rfl, pk_sub (by omega)]) ?_
          refine wg_lld F hP f1017w (vp_in_nI (by omega) (by decide)) dX8_grow_26 ?_
          refine wg_topl (y := lf (k + 1 - 8)) (by rw [nI_clamp (by omega)]) ?_
          refine wg_cl_ hS (wg_rS (As := [.long (lf (k + 1 - 8))]) (rest := [.int (nI (k + 1)), .ref (A 1018)]) F hP hS (c_X8_mix l E A Cw _) ok_X8_mix tb_539 rfl rfl ⟨Nat.le_of_ble_eq_true rfl, Nat.le_of_ble_eq_true rfl⟩ rfl hl.1 rfl (Nat.le_of_ble_eq_true rfl) dX8_grow_27 ⟨Nat.le_of_ble_eq_true rfl, Nat.le_of_ble_eq_true rfl⟩) (fun r_27 A1 C_27 H locs w_27 hP hS => ?_)
          obtain ⟨w_27, rfl, rfl⟩ := w_27
          refine wg_topl (y := lc_node lf (k + 1)) (by rw [w_27, lc_node_hi h8]) ?_
          refine lv_goto (tgt := 54) hx hb dX8_grow_30 (by decide) ?_
          refine wg_topl (y := lc_node lf (k + 1)) rfl ?_
          refine wg_lst F hP hS f1018w (vp_in_nI (by omega) (by decide)) dX8_grow_54 (fun H locs hP hS => ?_)
          obtain ⟨C_54_1, hC_54_1⟩ : ∃ z : wg_C, z = va_up Cw 1018 (some (.inl (E.2.1 1, 16, .inr (.inl (vp_updL fk (nI (k + 1)).toNatClampNeg (lc_node lf (k + 1))))))) := ⟨_, rfl⟩
          have hP : wg_P E A C_54_1 H := by rw [hC_54_1]; exact hP
          have f1000w_c54_1 : C_54_1 1000 = some (.inr (8, [.int ns, .ref (A 1001), .int nh, .ref (A 1003), .ref (A 1004), .ref (A 1005), .ref (A 1006), .ref (A 1007), .ref (A 1008), .ref (A 1009), .ref (A 1010), .ref (A 1011), .ref (A 1012), .ref (A 1013), .ref (A 1014), .ref (A 1015), .ref (A 1016), .ref (A 1017), .ref (A 1018), .int a0, .int b0, .long va0, .long vb0, .int ct0, .ref (A 1024), .ref (A 1025), .ref (A 1026), .ref (A 1027), .ref (A 1028)])) := by rw [hC_54_1]; rw [va_up_ne _ _ (by decide)]; exact f1000w
          have f1017w_c54_1 : C_54_1 1017 = some (.inl (E.2.1 1, 8, .inr (.inl lf))) := by rw [hC_54_1]; rw [va_up_ne _ _ (by decide)]; exact f1017w
          have f1018w_c54_1 : C_54_1 1018 = some (.inl (E.2.1 1, 16, .inr (.inl (vp_updL fk (nI (k + 1)).toNatClampNeg (lc_node lf (k + 1)))))) := by rw [hC_54_1]; exact va_up_self _ _ _
          have hfn : ∀ q, k < q → q < 16 → (vp_updL fk (nI (k + 1)).toNatClampNeg (lc_node lf (k + 1))) q = lc_node lf q := by
            intro q h1 h2
            rw [nI_clamp (by omega)]
            by_cases z : q = k + 1
            · subst z; rw [lm_uLs]
            · rw [lm_uLn _ _ z]; exact hfk q (by omega) h2
          obtain ⟨x_55, ex_55⟩ : ∃ y : Int32, y = nI (k + 1) + (-1) := ⟨_, rfl⟩
          refine lv_iinc (v := x_55) (lv' := [(1, .int x_55), (0, .ref (A 1000))]) hx hb dX8_grow_55 hl (k := 1) rfl (by rw [ex_55]; rfl) (by decide) rfl (fun ls hl => ?_)
          refine lv_goto (tgt := 3) hx hb dX8_grow_58 (by decide) ?_
          exact ih_loop_3 k x_55 (vp_updL fk (nI (k + 1)).toNatClampNeg (lc_node lf (k + 1))) (by omega) (by omega) (by rw [ex_55]; exact pk_m1 k) hfn C_54_1 f1000w_c54_1 f1017w_c54_1 f1018w_c54_1 ((fun r h1 => by rw [hC_54_1, va_up_ne _ _ h1]; exact hbase r h1)) _ _ _ hP hS (lv_sub hl [1, 0] rfl)
  exact loop_3 _ 15 15 g18 (Nat.lt_succ_self _) (by omega) rfl (fun q h1 h2 => by omega) C f1000 f1017 f1018 (fun r _ => rfl) _ _ _ hP hS (lv_sub hl [1, 0] rfl)
set_option maxHeartbeats 4000000 in
set_option maxRecDepth 100000 in
theorem c_X8_prove0 (l : Launch) (E : wg_E) (A : Nat → Nat) (C : wg_C) (i j : Nat) (ns nh a0 b0 ct0 : Int32) (va0 vb0 : Int64) (lf g18 : Nat → Int64) (g25 : Nat → Int64) (g24 g27 : Nat → Int32) (hi : i < 8) (hj : j < 8) (hij : i ≠ j) (f1000 : C 1000 = some (.inr (8, [.int ns, .ref (A 1001), .int nh, .ref (A 1003), .ref (A 1004), .ref (A 1005), .ref (A 1006), .ref (A 1007), .ref (A 1008), .ref (A 1009), .ref (A 1010), .ref (A 1011), .ref (A 1012), .ref (A 1013), .ref (A 1014), .ref (A 1015), .ref (A 1016), .ref (A 1017), .ref (A 1018), .int a0, .int b0, .long va0, .long vb0, .int ct0, .ref (A 1024), .ref (A 1025), .ref (A 1026), .ref (A 1027), .ref (A 1028)]))) (f1017 : C 1017 = some (.inl (E.2.1 1, 8, .inr (.inl lf)))) (f1018 : C 1018 = some (.inl (E.2.1 1, 16, .inr (.inl g18)))) (f1024 : C 1024 = some (.inl (E.2.1 0, 4, .inl g24))) (f1025 : C 1025 = some (.inl (E.2.1 1, 4, .inr (.inl g25)))) (f1027 : C 1027 = some (.inl (E.2.1 2, 16, .inl g27))) : Met l yX8_prove (wg_ws yX8_prove cX8_prove 5 (some .int)) (wg_rm 3 0 0) (wg_Pc E A C [.ref (A 1000), .int (nI i), .int (nI j)]) (wg_Qi E (fun r A1 C1 => r = nI (lc_cnt i j 1) ∧ A = A1 ∧ (∀ q, q ≠ 1000 → q ≠ 1018 → q ≠ 1024 → q ≠ 1025 → q ≠ 1027 → C1 q = C q) ∧ C1 1000 = some (.inr (8, [.int ns, .ref (A 1001), .int nh, .ref (A 1003), .ref (A 1004), .ref (A 1005), .ref (A 1006), .ref (A 1007), .ref (A 1008), .ref (A 1009), .ref (A 1010), .ref (A 1011), .ref (A 1012), .ref (A 1013), .ref (A 1014), .ref (A 1015), .ref (A 1016), .ref (A 1017), .ref (A 1018), .int (nI i), .int (nI j), .long (lf i), .long (lf j), .int (nI (lc_cnt i j 1)), .ref (A 1024), .ref (A 1025), .ref (A 1026), .ref (A 1027), .ref (A 1028)])) ∧ (∃ nd : Nat → Int64, C1 1018 = some (.inl (E.2.1 1, 16, .inr (.inl nd)))) ∧ (∃ fn : Nat → Int32, C1 1024 = some (.inl (E.2.1 0, 4, .inl fn)) ∧ ∀ z, z < lc_cnt i j 1 → fn z = nI (lc_nth i j z)) ∧ (∃ fv : Nat → Int64, C1 1025 = some (.inl (E.2.1 1, 4, .inr (.inl fv))) ∧ ∀ z, z < lc_cnt i j 1 → fv z = lc_node lf (lc_nth i j z)) ∧ ∃ fz : Nat → Int32, C1 1027 = some (.inl (E.2.1 2, 16, .inl fz)))) 0 0 (wg_A E) := by
  refine wg_met (by decide) (Nat.le_of_ble_eq_true rfl) ?_
  intro p e s m below meth c ls F hr hlk hnm hP hS hl
  have F : wg_F p m c cX8_prove 5 s ([.ref (A 1000), .int (nI i), .int (nI j)] : List Value).toArray "LightChecksModel" E := F
  have hx := F.1
  have hb := F.2.1
  have hml := F.2.2.1
  have hown := F.2.2.2.1
  have hts := F.2.2.2.2.1
  have hl : lv_has ls 5 [(0, .ref (A 1000)), (1, .int (nI i)), (2, .int (nI j))] := hl
  refine lv_iload_n hx hb dX8_prove_0 rfl (lv_at hl 1 rfl) ?_
  refine lv_i2l (v := (nI i).toInt64) hx hb dX8_prove_1 rfl ?_
  refine lv_lconst (v := 0) hx hb dX8_prove_2 (by decide) ?_
  refine lv_ldc2 (v := 7) hx hb hown (hts _ tb_531) dX8_prove_3 ?_
  refine wg_ci hS (wg_rS (As := [.long ((nI i).toInt64), .long 0, .long 7]) (rest := []) F hP hS (c_X8_in l E A C _ _ _) ok_X8_in tb_532 rfl rfl ⟨Nat.le_of_ble_eq_true rfl, Nat.le_of_ble_eq_true rfl⟩ rfl hl.1 rfl (Nat.le_of_ble_eq_true rfl) dX8_prove_6 ⟨Nat.le_of_ble_eq_true rfl, Nat.le_of_ble_eq_true rfl⟩) (fun r_6 A1 C_6 H locs w_6 hP hS => ?_)
  obtain ⟨w_6, rfl, rfl⟩ := w_6
  simp only [lc_i2l, show (0 : Int64).toInt = 0 from by decide, show (7 : Int64).toInt = 7 from by decide, nI_toInt (show i < 2 ^ 31 by omega)] at w_6
  refine lv_if_eq (tgt := 29) hx hb dX8_prove_9 (by decide) (fun c_9 => ?_) (fun c_9 => ?_)
  · exact absurd (show _ from ⟨by omega, by omega⟩) (lc_if1 w_6 c_9)
  · refine lv_iload_n hx hb dX8_prove_12 rfl (lv_at hl 2 rfl) ?_
    refine lv_i2l (v := (nI j).toInt64) hx hb dX8_prove_13 rfl ?_
    refine lv_lconst (v := 0) hx hb dX8_prove_14 (by decide) ?_
    refine lv_ldc2 (v := 7) hx hb hown (hts _ tb_531) dX8_prove_15 ?_
    refine wg_ci hS (wg_rS (As := [.long ((nI j).toInt64), .long 0, .long 7]) (rest := []) F hP hS (c_X8_in l E A C _ _ _) ok_X8_in tb_532 rfl rfl ⟨Nat.le_of_ble_eq_true rfl, Nat.le_of_ble_eq_true rfl⟩ rfl hl.1 rfl (Nat.le_of_ble_eq_true rfl) dX8_prove_18 ⟨Nat.le_of_ble_eq_true rfl, Nat.le_of_ble_eq_true rfl⟩) (fun r_18 A1 C_18 H locs w_18 hP hS => ?_)
    obtain ⟨w_18, rfl, rfl⟩ := w_18
    simp only [lc_i2l, show (0 : Int64).toInt = 0 from by decide, show (7 : Int64).toInt = 7 from by decide, nI_toInt (show j < 2 ^ 31 by omega)] at w_18
    refine lv_if_eq (tgt := 29) hx hb dX8_prove_21 (by decide) (fun c_21 => ?_) (fun c_21 => ?_)
    · exact absurd (show _ from ⟨by omega, by omega⟩) (lc_if1 w_18 c_21)
    · refine lv_iload_n hx hb dX8_prove_24 rfl (lv_at hl 1 rfl) ?_
      refine lv_iload_n hx hb dX8_prove_25 rfl (lv_at hl 2 rfl) ?_
      refine lv_icmp_ne (tgt := 31) hx hb dX8_prove_26 (by decide) (fun c_26 => ?_) (fun c_26 => ?_)
      · refine lv_aload_n hx hb dX8_prove_31 rfl (lv_at hl 0 rfl) ?_
        refine wg_cv hS (wg_rV (As := []) (rest := []) F hP hS (c_X8_grow0 l E A C ns nh a0 b0 ct0 va0 vb0 lf g18 f1000 f1017 f1018) ok_X8_grow tb_535 rfl rfl ⟨Nat.le_of_ble_eq_true rfl, Nat.le_of_ble_eq_true rfl⟩ f1000 rfl rfl rfl hl.1 rfl (Nat.le_of_ble_eq_true rfl) dX8_prove_32 ⟨Nat.le_of_ble_eq_true rfl, Nat.le_of_ble_eq_true rfl⟩) (fun A1 C_32 H locs w_32 hP hS => ?_)
        obtain ⟨rfl, hfr_32, nd, hnd, hn⟩ := w_32
        have f1000_c32 : C_32 1000 = some (.inr (8, [.int ns, .ref (A 1001), .int nh, .ref (A 1003), .ref (A 1004), .ref (A 1005), .ref (A 1006), .ref (A 1007), .ref (A 1008), .ref (A 1009), .ref (A 1010), .ref (A 1011), .ref (A 1012), .ref (A 1013), .ref (A 1014), .ref (A 1015), .ref (A 1016), .ref (A 1017), .ref (A 1018), .int a0, .int b0, .long va0, .long vb0, .int ct0, .ref (A 1024), .ref (A 1025), .ref (A 1026), .ref (A 1027), .ref (A 1028)])) := by rw [hfr_32 1000 (by decide)]; exact f1000
        have f1017_c32 : C_32 1017 = some (.inl (E.2.1 1, 8, .inr (.inl lf))) := by rw [hfr_32 1017 (by decide)]; exact f1017
        have f1024_c32 : C_32 1024 = some (.inl (E.2.1 0, 4, .inl g24)) := by rw [hfr_32 1024 (by decide)]; exact f1024
        have f1025_c32 : C_32 1025 = some (.inl (E.2.1 1, 4, .inr (.inl g25))) := by rw [hfr_32 1025 (by decide)]; exact f1025
        have f1027_c32 : C_32 1027 = some (.inl (E.2.1 2, 16, .inl g27)) := by rw [hfr_32 1027 (by decide)]; exact f1027
        have f1018_c32 : C_32 1018 = some (.inl (E.2.1 1, 16, .inr (.inl nd))) := hnd
        refine lv_iconst (v := 0) hx hb dX8_prove_35 (by decide) ?_
        refine lv_istore_n (lv' := [(3, .int 0), (0, .ref (A 1000)), (1, .int (nI i)), (2, .int (nI j))]) hx hb dX8_prove_36 rfl hl (by decide) rfl (fun ls hl => ?_)
        have loop_37 : ∀ (fuel : Nat) (k : Nat) (y3 : Int32) (fz : Nat → Int32), 16 - k < fuel → (k ≤ 16) → (y3 = nI k) → (∀ q, q < k → fz q = if q = 8 + i ∨ q = 8 + j then 1 else 0) → ∀ (Cw : wg_C) , Cw 1000 = some (.inr (8, [.int ns, .ref (A 1001), .int nh, .ref (A 1003), .ref (A 1004), .ref (A 1005), .ref (A 1006), .ref (A 1007), .ref (A 1008), .ref (A 1009), .ref (A 1010), .ref (A 1011), .ref (A 1012), .ref (A 1013), .ref (A 1014), .ref (A 1015), .ref (A 1016), .ref (A 1017), .ref (A 1018), .int a0, .int b0, .long va0, .long vb0, .int ct0, .ref (A 1024), .ref (A 1025), .ref (A 1026), .ref (A 1027), .ref (A 1028)])) → Cw 1017 = some (.inl (E.2.1 1, 8, .inr (.inl lf))) → Cw 1018 = some (.inl (E.2.1 1, 16, .inr (.inl nd))) → Cw 1024 = some (.inl (E.2.1 0, 4, .inl g24)) → Cw 1025 = some (.inl (E.2.1 1, 4, .inr (.inl g25))) → Cw 1027 = some (.inl (E.2.1 2, 16, .inl fz)) → (∀ r, r ≠ 1018 → r ≠ 1027 → Cw r = C r) → ∀ (H : Heap) (locs : List Loc) (ls : Array Slot), wg_P E A Cw H → va_S (wg_A E) s.heap H locs → lv_has ls 5 [(0, .ref (A 1000)), (1, .int (nI i)), (2, .int (nI j)), (3, .int y3)] → W p l e (wg_rm 3 0 0) s m ([.ref (A 1000), .int (nI i), .int (nI j)] : List Value).toArray below meth c H locs 0 0 (MQ below (wg_Qi E (fun r A1 C1 => r = nI (lc_cnt i j 1) ∧ A = A1 ∧ (∀ q, q ≠ 1000 → q ≠ 1018 → q ≠ 1024 → q ≠ 1025 → q ≠ 1027 → C1 q = C q) ∧ C1 1000 = some (.inr (8, [.int ns, .ref (A 1001), .int nh, .ref (A 1003), .ref (A 1004), .ref (A 1005), .ref (A 1006), .ref (A 1007), .ref (A 1008), .ref (A 1009), .ref (A 1010), .ref (A 1011), .ref (A 1012), .ref (A 1013), .ref (A 1014), .ref (A 1015), .ref (A 1016), .ref (A 1017), .ref (A 1018), .int (nI i), .int (nI j), .long (lf i), .long (lf j), .int (nI (lc_cnt i j 1)), .ref (A 1024), .ref (A 1025), .ref (A 1026), .ref (A 1027), .ref (A 1028)])) ∧ (∃ nd : Nat → Int64, C1 1018 = some (.inl (E.2.1 1, 16, .inr (.inl nd)))) ∧ (∃ fn : Nat → Int32, C1 1024 = some (.inl (E.2.1 0, 4, .inl fn)) ∧ ∀ z, z < lc_cnt i j 1 → fn z = nI (lc_nth i j z)) ∧ (∃ fv : Nat → Int64, C1 1025 = some (.inl (E.2.1 1, 4, .inr (.inl fv))) ∧ ∀ z, z < lc_cnt i j 1 → fv z = lc_node lf (lc_nth i j z)) ∧ ∃ fz : Nat → Int32, C1 1027 = some (.inl (E.2.1 2, 16, .inl fz)))) ([.ref (A 1000), .int (nI i), .int (nI j)] : List Value).toArray s 0 0 (wg_A E)) (F0 m 37 ls []) := by
          intro fuel
          induction fuel with
          | zero => intro k y3 fz hm; exact absurd hm (Nat.not_lt_zero _)
          | succ fuel ih_loop_37 =>
            intro k y3 fz hm_loop_37 hk ey3 hz Cw f1000w f1017w f1018w f1024w f1025w f1027w hbase H locs ls hP hS hl
            subst ey3
            refine lv_iload_n hx hb dX8_prove_37 rfl (lv_at hl 3 rfl) ?_
            refine lv_bipush (v := 16) hx hb dX8_prove_38 (by decide) ?_
            refine lv_icmp_ge (tgt := 76) hx hb dX8_prove_40 (by decide) (fun c_40 => ?_) (fun c_40 => ?_)
            · have hk9 : k = 16 := by rw [show (16 : Int32) = nI 16 from rfl, nI_leI (by decide) (by omega)] at c_40; omega
              rw [hk9] at hz
              have hpk0 := lm_pk0 hi hj hz
              refine lv_aload_n hx hb dX8_prove_76 rfl (lv_at hl 0 rfl) ?_
              refine lv_iload_n hx hb dX8_prove_77 rfl (lv_at hl 1 rfl) ?_
              refine wg_put F hP hS f1000w rfl iw_X8 tyX8_ok nmX8 19 (by decide) tb_568 rfl rfl rfl (Nat.le_of_ble_eq_true rfl) dX8_prove_78 (fun H locs hP hS => ?_)
              obtain ⟨C_78, hC_78⟩ : ∃ z : wg_C, z = va_up Cw 1000 (some (.inr (8, [.int ns, .ref (A 1001), .int nh, .ref (A 1003), .ref (A 1004), .ref (A 1005), .ref (A 1006), .ref (A 1007), .ref (A 1008), .ref (A 1009), .ref (A 1010), .ref (A 1011), .ref (A 1012), .ref (A 1013), .ref (A 1014), .ref (A 1015), .ref (A 1016), .ref (A 1017), .ref (A 1018), .int (nI i), .int b0, .long va0, .long vb0, .int ct0, .ref (A 1024), .ref (A 1025), .ref (A 1026), .ref (A 1027), .ref (A 1028)]))) := ⟨_, rfl⟩
              have hP : wg_P E A C_78 H := by rw [hC_78]; exact hP
              have f1000w_c78 : C_78 1000 = some (.inr (8, [.int ns, .ref (A 1001), .int nh, .ref (A 1003), .ref (A 1004), .ref (A 1005), .ref (A 1006), .ref (A 1007), .ref (A 1008), .ref (A 1009), .ref (A 1010), .ref (A 1011), .ref (A 1012), .ref (A 1013), .ref (A 1014), .ref (A 1015), .ref (A 1016), .ref (A 1017), .ref (A 1018), .int (nI i), .int b0, .long va0, .long vb0, .int ct0, .ref (A 1024), .ref (A 1025), .ref (A 1026), .ref (A 1027), .ref (A 1028)])) := by rw [hC_78]; exact va_up_self _ _ _
              have f1017w_c78 : C_78 1017 = some (.inl (E.2.1 1, 8, .inr (.inl lf))) := by rw [hC_78]; rw [va_up_ne _ _ (by decide)]; exact f1017w
              have f1018w_c78 : C_78 1018 = some (.inl (E.2.1 1, 16, .inr (.inl nd))) := by rw [hC_78]; rw [va_up_ne _ _ (by decide)]; exact f1018w
              have f1024w_c78 : C_78 1024 = some (.inl (E.2.1 0, 4, .inl g24)) := by rw [hC_78]; rw [va_up_ne _ _ (by decide)]; exact f1024w
              have f1025w_c78 : C_78 1025 = some (.inl (E.2.1 1, 4, .inr (.inl g25))) := by rw [hC_78]; rw [va_up_ne _ _ (by decide)]; exact f1025w
              have f1027w_c78 : C_78 1027 = some (.inl (E.2.1 2, 16, .inl fz)) := by rw [hC_78]; rw [va_up_ne _ _ (by decide)]; exact f1027w
              refine lv_aload_n hx hb dX8_prove_81 rfl (lv_at hl 0 rfl) ?_
              refine lv_iload_n hx hb dX8_prove_82 rfl (lv_at hl 2 rfl) ?_
              refine wg_put F hP hS f1000w_c78 rfl iw_X8 tyX8_ok nmX8 20 (by decide) tb_569 rfl rfl rfl (Nat.le_of_ble_eq_true rfl) dX8_prove_83 (fun H locs hP hS => ?_)
              obtain ⟨C_83, hC_83⟩ : ∃ z : wg_C, z = va_up C_78 1000 (some (.inr (8, [.int ns, .ref (A 1001), .int nh, .ref (A 1003), .ref (A 1004), .ref (A 1005), .ref (A 1006), .ref (A 1007), .ref (A 1008), .ref (A 1009), .ref (A 1010), .ref (A 1011), .ref (A 1012), .ref (A 1013), .ref (A 1014), .ref (A 1015), .ref (A 1016), .ref (A 1017), .ref (A 1018), .int (nI i), .int (nI j), .long va0, .long vb0, .int ct0, .ref (A 1024), .ref (A 1025), .ref (A 1026), .ref (A 1027), .ref (A 1028)]))) := ⟨_, rfl⟩
              have hP : wg_P E A C_83 H := by rw [hC_83]; exact hP
              have f1000w_c83 : C_83 1000 = some (.inr (8, [.int ns, .ref (A 1001), .int nh, .ref (A 1003), .ref (A 1004), .ref (A 1005), .ref (A 1006), .ref (A 1007), .ref (A 1008), .ref (A 1009), .ref (A 1010), .ref (A 1011), .ref (A 1012), .ref (A 1013), .ref (A 1014), .ref (A 1015), .ref (A 1016), .ref (A 1017), .ref (A 1018), .int (nI i), .int (nI j), .long va0, .long vb0, .int ct0, .ref (A 1024), .ref (A 1025), .ref (A 1026), .ref (A 1027), .ref (A 1028)])) := by rw [hC_83]; exact va_up_self _ _ _
              have f1017w_c83 : C_83 1017 = some (.inl (E.2.1 1, 8, .inr (.inl lf))) := by rw [hC_83]; rw [va_up_ne _ _ (by decide)]; exact f1017w_c78
              have f1018w_c83 : C_83 1018 = some (.inl (E.2.1 1, 16, .inr (.inl nd))) := by rw [hC_83]; rw [va_up_ne _ _ (by decide)]; exact f1018w_c78
              have f1024w_c83 : C_83 1024 = some (.inl (E.2.1 0, 4, .inl g24)) := by rw [hC_83]; rw [va_up_ne _ _ (by decide)]; exact f1024w_c78
              have f1025w_c83 : C_83 1025 = some (.inl (E.2.1 1, 4, .inr (.inl g25))) := by rw [hC_83]; rw [va_up_ne _ _ (by decide)]; exact f1025w_c78
              have f1027w_c83 : C_83 1027 = some (.inl (E.2.1 2, 16, .inl fz)) := by rw [hC_83]; rw [va_up_ne _ _ (by decide)]; exact f1027w_c78
              refine lv_aload_n hx hb dX8_prove_86 rfl (lv_at hl 0 rfl) ?_
              refine lv_aload_n hx hb dX8_prove_87 rfl (lv_at hl 0 rfl) ?_
              refine wg_get F hP f1000w_c83 rfl iw_X8 17 (by decide) tb_566 rfl rfl dX8_prove_88 ?_
              refine lv_iload_n hx hb dX8_prove_91 rfl (lv_at hl 1 rfl) ?_
              refine wg_lld F hP f1017w_c83 (vp_in_nI (by omega) (by decide)) dX8_prove_92 ?_
              refine wg_topl (y := lf i) (by rw [nI_clamp (by omega)]) ?_
              refine wg_put F hP hS f1000w_c83 rfl iw_X8 tyX8_ok nmX8 21 (by decide) tb_570 rfl rfl rfl (Nat.le_of_ble_eq_true rfl) dX8_prove_93 (fun H locs hP hS => ?_)
              obtain ⟨C_93, hC_93⟩ : ∃ z : wg_C, z = va_up C_83 1000 (some (.inr (8, [.int ns, .ref (A 1001), .int nh, .ref (A 1003), .ref (A 1004), .ref (A 1005), .ref (A 1006), .ref (A 1007), .ref (A 1008), .ref (A 1009), .ref (A 1010), .ref (A 1011), .ref (A 1012), .ref (A 1013), .ref (A 1014), .ref (A 1015), .ref (A 1016), .ref (A 1017), .ref (A 1018), .int (nI i), .int (nI j), .long (lf i), .long vb0, .int ct0, .ref (A 1024), .ref (A 1025), .ref (A 1026), .ref (A 1027), .ref (A 1028)]))) := ⟨_, rfl⟩
              have hP : wg_P E A C_93 H := by rw [hC_93]; exact hP
              have f1000w_c93 : C_93 1000 = some (.inr (8, [.int ns, .ref (A 1001), .int nh, .ref (A 1003), .ref (A 1004), .ref (A 1005), .ref (A 1006), .ref (A 1007), .ref (A 1008), .ref (A 1009), .ref (A 1010), .ref (A 1011), .ref (A 1012), .ref (A 1013), .ref (A 1014), .ref (A 1015), .ref (A 1016), .ref (A 1017), .ref (A 1018), .int (nI i), .int (nI j), .long (lf i), .long vb0, .int ct0, .ref (A 1024), .ref (A 1025), .ref (A 1026), .ref (A 1027), .ref (A 1028)])) := by rw [hC_93]; exact va_up_self _ _ _
              have f1017w_c93 : C_93 1017 = some (.inl (E.2.1 1, 8, .inr (.inl lf))) := by rw [hC_93]; rw [va_up_ne _ _ (by decide)]; exact f1017w_c83
              have f1018w_c93 : C_93 1018 = some (.inl (E.2.1 1, 16, .inr (.inl nd))) := by rw [hC_93]; rw [va_up_ne _ _ (by decide)]; exact f1018w_c83
              have f1024w_c93 : C_93 1024 = some (.inl (E.2.1 0, 4, .inl g24)) := by rw [hC_93]; rw [va_up_ne _ _ (by decide)]; exact f1024w_c83
              have f1025w_c93 : C_93 1025 = some (.inl (E.2.1 1, 4, .inr (.inl g25))) := by rw [hC_93]; rw [va_up_ne _ _ (by decide)]; exact f1025w_c83
              have f1027w_c93 : C_93 1027 = some (.inl (E.2.1 2, 16, .inl fz)) := by rw [hC_93]; rw [va_up_ne _ _ (by decide)]; exact f1027w_c83
              refine lv_aload_n hx hb dX8_prove_96 rfl (lv_at hl 0 rfl) ?_
              refine lv_aload_n hx hb dX8_prove_97 rfl (lv_at hl 0 rfl) ?_
              refine wg_get F hP f1000w_c93 rfl iw_X8 17 (by decide) tb_566 rfl rfl dX8_prove_98 ?_
              refine lv_iload_n hx hb dX8_prove_101 rfl (lv_at hl 2 rfl) ?_
              refine wg_lld F hP f1017w_c93 (vp_in_nI (by omega) (by decide)) dX8_prove_102 ?_
              refine wg_topl (y := lf j) (by rw [nI_clamp (by omega)]) ?_
              refine wg_put F hP hS f1000w_c93 rfl iw_X8 tyX8_ok nmX8 22 (by decide) tb_571 rfl rfl rfl (Nat.le_of_ble_eq_true rfl) dX8_prove_103 (fun H locs hP hS => ?_)
              obtain ⟨C_103, hC_103⟩ : ∃ z : wg_C, z = va_up C_93 1000 (some (.inr (8, [.int ns, .ref (A 1001), .int nh, .ref (A 1003), .ref (A 1004), .ref (A 1005), .ref (A 1006), .ref (A 1007), .ref (A 1008), .ref (A 1009), .ref (A 1010), .ref (A 1011), .ref (A 1012), .ref (A 1013), .ref (A 1014), .ref (A 1015), .ref (A 1016), .ref (A 1017), .ref (A 1018), .int (nI i), .int (nI j), .long (lf i), .long (lf j), .int ct0, .ref (A 1024), .ref (A 1025), .ref (A 1026), .ref (A 1027), .ref (A 1028)]))) := ⟨_, rfl⟩
              have hP : wg_P E A C_103 H := by rw [hC_103]; exact hP
              have f1000w_c103 : C_103 1000 = some (.inr (8, [.int ns, .ref (A 1001), .int nh, .ref (A 1003), .ref (A 1004), .ref (A 1005), .ref (A 1006), .ref (A 1007), .ref (A 1008), .ref (A 1009), .ref (A 1010), .ref (A 1011), .ref (A 1012), .ref (A 1013), .ref (A 1014), .ref (A 1015), .ref (A 1016), .ref (A 1017), .ref (A 1018), .int (nI i), .int (nI j), .long (lf i), .long (lf j), .int ct0, .ref (A 1024), .ref (A 1025), .ref (A 1026), .ref (A 1027), .ref (A 1028)])) := by rw [hC_103]; exact va_up_self _ _ _
              have f1017w_c103 : C_103 1017 = some (.inl (E.2.1 1, 8, .inr (.inl lf))) := by rw [hC_103]; rw [va_up_ne _ _ (by decide)]; exact f1017w_c93
              have f1018w_c103 : C_103 1018 = some (.inl (E.2.1 1, 16, .inr (.inl nd))) := by rw [hC_103]; rw [va_up_ne _ _ (by decide)]; exact f1018w_c93
              have f1024w_c103 : C_103 1024 = some (.inl (E.2.1 0, 4, .inl g24)) := by rw [hC_103]; rw [va_up_ne _ _ (by decide)]; exact f1024w_c93
              have f1025w_c103 : C_103 1025 = some (.inl (E.2.1 1, 4, .inr (.inl g25))) := by rw [hC_103]; rw [va_up_ne _ _ (by decide)]; exact f1025w_c93
              have f1027w_c103 : C_103 1027 = some (.inl (E.2.1 2, 16, .inl fz)) := by rw [hC_103]; rw [va_up_ne _ _ (by decide)]; exact f1027w_c93
              refine lv_aload_n hx hb dX8_prove_106 rfl (lv_at hl 0 rfl) ?_
              refine lv_iconst (v := 0) hx hb dX8_prove_107 (by decide) ?_
              refine wg_topi (y := nI (lc_cnt i j 15)) rfl ?_
              refine wg_put F hP hS f1000w_c103 rfl iw_X8 tyX8_ok nmX8 23 (by decide) tb_572 rfl rfl rfl (Nat.le_of_ble_eq_true rfl) dX8_prove_108 (fun H locs hP hS => ?_)
              obtain ⟨C_108, hC_108⟩ : ∃ z : wg_C, z = va_up C_103 1000 (some (.inr (8, [.int ns, .ref (A 1001), .int nh, .ref (A 1003), .ref (A 1004), .ref (A 1005), .ref (A 1006), .ref (A 1007), .ref (A 1008), .ref (A 1009), .ref (A 1010), .ref (A 1011), .ref (A 1012), .ref (A 1013), .ref (A 1014), .ref (A 1015), .ref (A 1016), .ref (A 1017), .ref (A 1018), .int (nI i), .int (nI j), .long (lf i), .long (lf j), .int (nI (lc_cnt i j 15)), .ref (A 1024), .ref (A 1025), .ref (A 1026), .ref (A 1027), .ref (A 1028)]))) := ⟨_, rfl⟩
              have hP : wg_P E A C_108 H := by rw [hC_108]; exact hP
              have f1000w_c108 : C_108 1000 = some (.inr (8, [.int ns, .ref (A 1001), .int nh, .ref (A 1003), .ref (A 1004), .ref (A 1005), .ref (A 1006), .ref (A 1007), .ref (A 1008), .ref (A 1009), .ref (A 1010), .ref (A 1011), .ref (A 1012), .ref (A 1013), .ref (A 1014), .ref (A 1015), .ref (A 1016), .ref (A 1017), .ref (A 1018), .int (nI i), .int (nI j), .long (lf i), .long (lf j), .int (nI (lc_cnt i j 15)), .ref (A 1024), .ref (A 1025), .ref (A 1026), .ref (A 1027), .ref (A 1028)])) := by rw [hC_108]; exact va_up_self _ _ _
              have f1017w_c108 : C_108 1017 = some (.inl (E.2.1 1, 8, .inr (.inl lf))) := by rw [hC_108]; rw [va_up_ne _ _ (by decide)]; exact f1017w_c103
              have f1018w_c108 : C_108 1018 = some (.inl (E.2.1 1, 16, .inr (.inl nd))) := by rw [hC_108]; rw [va_up_ne _ _ (by decide)]; exact f1018w_c103
              have f1024w_c108 : C_108 1024 = some (.inl (E.2.1 0, 4, .inl g24)) := by rw [hC_108]; rw [va_up_ne _ _ (by decide)]; exact f1024w_c103
              have f1025w_c108 : C_108 1025 = some (.inl (E.2.1 1, 4, .inr (.inl g25))) := by rw [hC_108]; rw [va_up_ne _ _ (by decide)]; exact f1025w_c103
              have f1027w_c108 : C_108 1027 = some (.inl (E.2.1 2, 16, .inl fz)) := by rw [hC_108]; rw [va_up_ne _ _ (by decide)]; exact f1027w_c103
              refine lv_bipush (v := 15) hx hb dX8_prove_111 (by decide) ?_
              refine lv_istore_n (lv' := [(3, .int 15), (0, .ref (A 1000)), (1, .int (nI i)), (2, .int (nI j))]) hx hb dX8_prove_113 rfl hl (by decide) rfl (fun ls hl => ?_)
              have loop_114 : ∀ (fuel : Nat) (k : Nat) (y3 : Int32) (fz : Nat → Int32) (fn : Nat → Int32) (fv : Nat → Int64), k < fuel → (k ≤ 15) → (k % 2 = 1) → (y3 = nI k) → (∀ q, 1 ≤ q → q < 16 → fz q = lm_b (lm_pk i j k q)) → (∀ z, z < lc_cnt i j k → fn z = nI (lc_nth i j z)) → (∀ z, z < lc_cnt i j k → fv z = lc_node lf (lc_nth i j z)) → ∀ (Cw : wg_C) , Cw 1000 = some (.inr (8, [.int ns, .ref (A 1001), .int nh, .ref (A 1003), .ref (A 1004), .ref (A 1005), .ref (A 1006), .ref (A 1007), .ref (A 1008), .ref (A 1009), .ref (A 1010), .ref (A 1011), .ref (A 1012), .ref (A 1013), .ref (A 1014), .ref (A 1015), .ref (A 1016), .ref (A 1017), .ref (A 1018), .int (nI i), .int (nI j), .long (lf i), .long (lf j), .int (nI (lc_cnt i j k)), .ref (A 1024), .ref (A 1025), .ref (A 1026), .ref (A 1027), .ref (A 1028)])) → Cw 1018 = some (.inl (E.2.1 1, 16, .inr (.inl nd))) → Cw 1024 = some (.inl (E.2.1 0, 4, .inl fn)) → Cw 1025 = some (.inl (E.2.1 1, 4, .inr (.inl fv))) → Cw 1027 = some (.inl (E.2.1 2, 16, .inl fz)) → (∀ r, r ≠ 1000 → r ≠ 1018 → r ≠ 1024 → r ≠ 1025 → r ≠ 1027 → Cw r = C r) → ∀ (H : Heap) (locs : List Loc) (ls : Array Slot), wg_P E A Cw H → va_S (wg_A E) s.heap H locs → lv_has ls 5 [(0, .ref (A 1000)), (1, .int (nI i)), (2, .int (nI j)), (3, .int y3)] → W p l e (wg_rm 3 0 0) s m ([.ref (A 1000), .int (nI i), .int (nI j)] : List Value).toArray below meth c H locs 0 0 (MQ below (wg_Qi E (fun r A1 C1 => r = nI (lc_cnt i j 1) ∧ A = A1 ∧ (∀ q, q ≠ 1000 → q ≠ 1018 → q ≠ 1024 → q ≠ 1025 → q ≠ 1027 → C1 q = C q) ∧ C1 1000 = some (.inr (8, [.int ns, .ref (A 1001), .int nh, .ref (A 1003), .ref (A 1004), .ref (A 1005), .ref (A 1006), .ref (A 1007), .ref (A 1008), .ref (A 1009), .ref (A 1010), .ref (A 1011), .ref (A 1012), .ref (A 1013), .ref (A 1014), .ref (A 1015), .ref (A 1016), .ref (A 1017), .ref (A 1018), .int (nI i), .int (nI j), .long (lf i), .long (lf j), .int (nI (lc_cnt i j 1)), .ref (A 1024), .ref (A 1025), .ref (A 1026), .ref (A 1027), .ref (A 1028)])) ∧ (∃ nd : Nat → Int64, C1 1018 = some (.inl (E.2.1 1, 16, .inr (.inl nd)))) ∧ (∃ fn : Nat → Int32, C1 1024 = some (.inl (E.2.1 0, 4, .inl fn)) ∧ ∀ z, z < lc_cnt i j 1 → fn z = nI (lc_nth i j z)) ∧ (∃ fv : Nat → Int64, C1 1025 = some (.inl (E.2.1 1, 4, .inr (.inl fv))) ∧ ∀ z, z < lc_cnt i j 1 → fv z = lc_node lf (lc_nth i j z)) ∧ ∃ fz : Nat → Int32, C1 1027 = some (.inl (E.2.1 2, 16, .inl fz)))) ([.ref (A 1000), .int (nI i), .int (nI j)] : List Value).toArray s 0 0 (wg_A E)) (F0 m 114 ls []) := by
                intro fuel
                induction fuel with
                | zero => intro k y3 fz fn fv hm; exact absurd hm (Nat.not_lt_zero _)
                | succ fuel ih_loop_114 =>
                  intro k y3 fz fn fv hm_loop_114 hk hodd ey3 hpk hfn hfv Cw f1000w f1018w f1024w f1025w f1027w hbase H locs ls hP hS hl
                  subst ey3
                  refine lv_iload_n hx hb dX8_prove_114 rfl (lv_at hl 3 rfl) ?_
                  refine lv_iconst (v := 1) hx hb dX8_prove_115 (by decide) ?_
                  refine lv_icmp_le (tgt := 241) hx hb dX8_prove_116 (by decide) (fun c_116 => ?_) (fun c_116 => ?_)
                  · have hk1 : k = 1 := by rw [show (1 : Int32) = nI 1 from rfl, nI_leI (by omega) (by decide)] at c_116; omega
                    subst hk1
                    refine lv_aload_n hx hb dX8_prove_241 rfl (lv_at hl 0 rfl) ?_
                    refine wg_get F hP f1000w rfl iw_X8 23 (by decide) tb_572 rfl rfl dX8_prove_242 ?_
                    exact wg_iret F hP hS hr hlk (⟨rfl, rfl, hbase, f1000w, ⟨nd, f1018w⟩, ⟨fn, f1024w, hfn⟩, ⟨fv, f1025w, hfv⟩, ⟨fz, f1027w⟩⟩) dX8_prove_245
                  · have h3 : 3 ≤ k := by rw [show (1 : Int32) = nI 1 from rfl, nI_leI (by omega) (by decide)] at c_116; omega
                    have pt := lm_prv hi hj (show k < 16 by omega) ⟨hij, hodd, h3⟩
                    have k0 : fz (k / 2) = 0 := by rw [hpk _ (by omega) (by omega), lm_pk_no (by omega) (by omega)]; rfl
                    have k3 : fz k = lm_b (lc_on i j (k)) := by rw [hpk _ (by omega) (by omega), lm_pk_at (Or.inr (by omega))]
                    have k2 : fz (k - 1) = lm_b (lc_on i j (k - 1)) := by rw [hpk _ (by omega) (by omega), lm_pk_at (Or.inr (by omega))]
                    cases hk1 : lc_on i j (k) <;> cases hk2 : lc_on i j (k - 1)
                    · rw [hk1] at k3
                      rw [hk2] at k2
                      have ho : lc_on i j (k / 2) = false := by rw [pt.1, hk1, hk2]; rfl
                      have hct : lc_cnt i j (k - 2) = lc_cnt i j k := pt.2.1 (hk1.trans hk2.symm)
                      refine lv_aload_n hx hb dX8_prove_119 rfl (lv_at hl 0 rfl) ?_
                      refine wg_get F hP f1000w rfl iw_X8 27 (by decide) tb_576 rfl rfl dX8_prove_120 ?_
                      refine lv_iload_n hx hb dX8_prove_123 rfl (lv_at hl 3 rfl) ?_
                      refine wg_zld F hP f1027w (vp_in_nI (by omega) (by decide)) dX8_prove_124 ?_
                      refine wg_topi (y := 0) ((by rw [nI_clamp (by omega)]; exact k3)) ?_
                      refine lv_aload_n hx hb dX8_prove_125 rfl (lv_at hl 0 rfl) ?_
                      refine wg_get F hP f1000w rfl iw_X8 27 (by decide) tb_576 rfl rfl dX8_prove_126 ?_
                      refine lv_iload_n hx hb dX8_prove_129 rfl (lv_at hl 3 rfl) ?_
                      refine lv_iconst (v := 1) hx hb dX8_prove_130 (by decide) ?_
                      refine lv_isub hx hb dX8_prove_131 ?_
                      refine wg_topi (y := nI (k - 1)) (by rw [show (1 : Int32) = nI 1 from rfl, pk_sub (by omega)]) ?_
                      refine wg_zld F hP f1027w (vp_in_nI (by omega) (by decide)) dX8_prove_132 ?_
                      refine wg_topi (y := 0) ((by rw [nI_clamp (by omega)]; exact k2)) ?_
                      refine lv_icmp_eq (tgt := 191) hx hb dX8_prove_133 (by decide) (fun c_133 => ?_) (fun c_133 => ?_)
                      · refine lv_aload_n hx hb dX8_prove_191 rfl (lv_at hl 0 rfl) ?_
                        refine wg_get F hP f1000w rfl iw_X8 27 (by decide) tb_576 rfl rfl dX8_prove_192 ?_
                        refine lv_iload_n hx hb dX8_prove_195 rfl (lv_at hl 3 rfl) ?_
                        refine lv_iconst (v := 2) hx hb dX8_prove_196 (by decide) ?_
                        refine lv_idiv hx hb dX8_prove_197 (by decide) ?_
                        refine wg_topi (y := nI (k / 2)) (by rw [show (2 : Int32) = nI 2 from rfl, pk_div (by omega) (by decide) (by decide)]) ?_
                        refine lv_aload_n hx hb dX8_prove_198 rfl (lv_at hl 0 rfl) ?_
                        refine wg_get F hP f1000w rfl iw_X8 27 (by decide) tb_576 rfl rfl dX8_prove_199 ?_
                        refine lv_iload_n hx hb dX8_prove_202 rfl (lv_at hl 3 rfl) ?_
                        refine lv_iconst (v := 2) hx hb dX8_prove_203 (by decide) ?_
                        refine lv_idiv hx hb dX8_prove_204 (by decide) ?_
                        refine wg_topi (y := nI (k / 2)) (by rw [show (2 : Int32) = nI 2 from rfl, pk_div (by omega) (by decide) (by decide)]) ?_
                        refine wg_zld F hP f1027w (vp_in_nI (by omega) (by decide)) dX8_prove_205 ?_
                        refine wg_topi (y := 0) ((by rw [nI_clamp (by omega)]; exact k0)) ?_
                        refine lv_if_ne (tgt := 229) hx hb dX8_prove_206 (by decide) (fun c_206 => ?_) (fun c_206 => ?_)
                        · exact absurd rfl c_206
                        · refine lv_aload_n hx hb dX8_prove_209 rfl (lv_at hl 0 rfl) ?_
                          refine wg_get F hP f1000w rfl iw_X8 27 (by decide) tb_576 rfl rfl dX8_prove_210 ?_
                          refine lv_iload_n hx hb dX8_prove_213 rfl (lv_at hl 3 rfl) ?_
                          refine wg_zld F hP f1027w (vp_in_nI (by omega) (by decide)) dX8_prove_214 ?_
                          refine wg_topi (y := 0) ((by rw [nI_clamp (by omega)]; exact k3)) ?_
                          refine lv_if_ne (tgt := 229) hx hb dX8_prove_215 (by decide) (fun c_215 => ?_) (fun c_215 => ?_)
                          · exact absurd rfl c_215
                          · refine lv_aload_n hx hb dX8_prove_218 rfl (lv_at hl 0 rfl) ?_
                            refine wg_get F hP f1000w rfl iw_X8 27 (by decide) tb_576 rfl rfl dX8_prove_219 ?_
                            refine lv_iload_n hx hb dX8_prove_222 rfl (lv_at hl 3 rfl) ?_
                            refine lv_iconst (v := 1) hx hb dX8_prove_223 (by decide) ?_
                            refine lv_isub hx hb dX8_prove_224 ?_
                            refine wg_topi (y := nI (k - 1)) (by rw [show (1 : Int32) = nI 1 from rfl, pk_sub (by omega)]) ?_
                            refine wg_zld F hP f1027w (vp_in_nI (by omega) (by decide)) dX8_prove_225 ?_
                            refine wg_topi (y := 0) ((by rw [nI_clamp (by omega)]; exact k2)) ?_
                            refine lv_if_eq (tgt := 233) hx hb dX8_prove_226 (by decide) (fun c_226 => ?_) (fun c_226 => ?_)
                            · refine lv_iconst (v := 0) hx hb dX8_prove_233 (by decide) ?_
                              refine wg_zst F hP hS f1027w (by decide) (vp_in_nI (by omega) (by decide)) dX8_prove_234 (fun H locs hP hS => ?_)
                              obtain ⟨C_234, hC_234⟩ : ∃ z : wg_C, z = va_up Cw 1027 (some (.inl (E.2.1 2, 16, .inl (upd fz (nI (k / 2)).toNatClampNeg 0)))) := ⟨_, rfl⟩
                              have hP : wg_P E A C_234 H := by rw [hC_234]; exact hP
                              have f1000w_c234 : C_234 1000 = some (.inr (8, [.int ns, .ref (A 1001), .int nh, .ref (A 1003), .ref (A 1004), .ref (A 1005), .ref (A 1006), .ref (A 1007), .ref (A 1008), .ref (A 1009), .ref (A 1010), .ref (A 1011), .ref (A 1012), .ref (A 1013), .ref (A 1014), .ref (A 1015), .ref (A 1016), .ref (A 1017), .ref (A 1018), .int (nI i), .int (nI j), .long (lf i), .long (lf j), .int (nI (lc_cnt i j k)), .ref (A 1024), .ref (A 1025), .ref (A 1026), .ref (A 1027), .ref (A 1028)])) := by rw [hC_234]; rw [va_up_ne _ _ (by decide)]; exact f1000w
                              have f1018w_c234 : C_234 1018 = some (.inl (E.2.1 1, 16, .inr (.inl nd))) := by rw [hC_234]; rw [va_up_ne _ _ (by decide)]; exact f1018w
                              have f1024w_c234 : C_234 1024 = some (.inl (E.2.1 0, 4, .inl fn)) := by rw [hC_234]; rw [va_up_ne _ _ (by decide)]; exact f1024w
                              have f1025w_c234 : C_234 1025 = some (.inl (E.2.1 1, 4, .inr (.inl fv))) := by rw [hC_234]; rw [va_up_ne _ _ (by decide)]; exact f1025w
                              have f1027w_c234 : C_234 1027 = some (.inl (E.2.1 2, 16, .inl (upd fz (nI (k / 2)).toNatClampNeg 0))) := by rw [hC_234]; exact va_up_self _ _ _
                              have hpkn : ∀ q, 1 ≤ q → q < 16 → (upd fz (nI (k / 2)).toNatClampNeg 0) q = lm_b (lm_pk i j (k - 2) q) := by
                                have hp := lm_pks (show k < 16 by omega) hodd h3 hpk
                                rw [ho] at hp
                                rw [nI_clamp (by omega)]
                                exact hp
                              have mo9 : C_234 1000 = some (.inr (8, [.int ns, .ref (A 1001), .int nh, .ref (A 1003), .ref (A 1004), .ref (A 1005), .ref (A 1006), .ref (A 1007), .ref (A 1008), .ref (A 1009), .ref (A 1010), .ref (A 1011), .ref (A 1012), .ref (A 1013), .ref (A 1014), .ref (A 1015), .ref (A 1016), .ref (A 1017), .ref (A 1018), .int (nI i), .int (nI j), .long (lf i), .long (lf j), .int (nI (lc_cnt i j (k - 2))), .ref (A 1024), .ref (A 1025), .ref (A 1026), .ref (A 1027), .ref (A 1028)])) := by rw [hct]; exact f1000w_c234
                              have hfnn : ∀ z, z < lc_cnt i j (k - 2) → fn z = nI (lc_nth i j z) := by rw [hct]; exact hfn
                              have hfvn : ∀ z, z < lc_cnt i j (k - 2) → fv z = lc_node lf (lc_nth i j z) := by rw [hct]; exact hfv
                              obtain ⟨x_235, ex_235⟩ : ∃ y : Int32, y = nI k + (-2) := ⟨_, rfl⟩
                              refine lv_iinc (v := x_235) (lv' := [(3, .int x_235), (0, .ref (A 1000)), (1, .int (nI i)), (2, .int (nI j))]) hx hb dX8_prove_235 hl (k := 3) rfl (by rw [ex_235]; rfl) (by decide) rfl (fun ls hl => ?_)
                              refine lv_goto (tgt := 114) hx hb dX8_prove_238 (by decide) ?_
                              exact ih_loop_114 (k - 2) x_235 (upd fz (nI (k / 2)).toNatClampNeg 0) fn fv (by omega) (by omega) (by omega) (by rw [ex_235]; exact lm_m2 (by omega)) hpkn hfnn hfvn C_234 mo9 f1018w_c234 f1024w_c234 f1025w_c234 f1027w_c234 (fun r h0 h1 h2 h3 h4 => by rw [hC_234, va_up_ne _ _ h4, hbase r h0 h1 h2 h3 h4]) _ _ _ hP hS (lv_sub hl [1, 2, 3, 0] rfl)
                            · exact absurd rfl c_226
                      · exact absurd rfl c_133
                    · rw [hk1] at k3
                      rw [hk2] at k2
                      have ho : lc_on i j (k / 2) = true := by rw [pt.1, hk1, hk2]; rfl
                      obtain ⟨hnt, hct, hc3⟩ := pt.2.2.2 ⟨hk1, hk2⟩
                      refine lv_aload_n hx hb dX8_prove_119 rfl (lv_at hl 0 rfl) ?_
                      refine wg_get F hP f1000w rfl iw_X8 27 (by decide) tb_576 rfl rfl dX8_prove_120 ?_
                      refine lv_iload_n hx hb dX8_prove_123 rfl (lv_at hl 3 rfl) ?_
                      refine wg_zld F hP f1027w (vp_in_nI (by omega) (by decide)) dX8_prove_124 ?_
                      refine wg_topi (y := 0) ((by rw [nI_clamp (by omega)]; exact k3)) ?_
                      refine lv_aload_n hx hb dX8_prove_125 rfl (lv_at hl 0 rfl) ?_
                      refine wg_get F hP f1000w rfl iw_X8 27 (by decide) tb_576 rfl rfl dX8_prove_126 ?_
                      refine lv_iload_n hx hb dX8_prove_129 rfl (lv_at hl 3 rfl) ?_
                      refine lv_iconst (v := 1) hx hb dX8_prove_130 (by decide) ?_
                      refine lv_isub hx hb dX8_prove_131 ?_
                      refine wg_topi (y := nI (k - 1)) (by rw [show (1 : Int32) = nI 1 from rfl, pk_sub (by omega)]) ?_
                      refine wg_zld F hP f1027w (vp_in_nI (by omega) (by decide)) dX8_prove_132 ?_
                      refine wg_topi (y := 1) ((by rw [nI_clamp (by omega)]; exact k2)) ?_
                      refine lv_icmp_eq (tgt := 191) hx hb dX8_prove_133 (by decide) (fun c_133 => ?_) (fun c_133 => ?_)
                      · exact absurd c_133 (by decide)
                      · refine lv_aload_n hx hb dX8_prove_136 rfl (lv_at hl 0 rfl) ?_
                        refine wg_get F hP f1000w rfl iw_X8 27 (by decide) tb_576 rfl rfl dX8_prove_137 ?_
                        refine lv_iload_n hx hb dX8_prove_140 rfl (lv_at hl 3 rfl) ?_
                        refine wg_zld F hP f1027w (vp_in_nI (by omega) (by decide)) dX8_prove_141 ?_
                        refine wg_topi (y := 0) ((by rw [nI_clamp (by omega)]; exact k3)) ?_
                        refine lv_if_eq (tgt := 151) hx hb dX8_prove_142 (by decide) (fun c_142 => ?_) (fun c_142 => ?_)
                        · refine lv_iload_n hx hb dX8_prove_151 rfl (lv_at hl 3 rfl) ?_
                          refine lv_istore (lv' := [(4, .int (nI k)), (0, .ref (A 1000)), (1, .int (nI i)), (2, .int (nI j)), (3, .int (nI k))]) hx hb dX8_prove_152 hl (by decide) rfl (fun ls hl => ?_)
                          refine lv_aload_n hx hb dX8_prove_154 rfl (lv_at hl 1 rfl) ?_
                          refine wg_get F hP f1000w rfl iw_X8 24 (by decide) tb_573 rfl rfl dX8_prove_155 ?_
                          refine lv_aload_n hx hb dX8_prove_158 rfl (lv_at hl 1 rfl) ?_
                          refine wg_get F hP f1000w rfl iw_X8 23 (by decide) tb_572 rfl rfl dX8_prove_159 ?_
                          refine lv_iload hx hb dX8_prove_162 (lv_at hl 0 rfl) ?_
                          refine wg_ist F hP hS f1024w (vp_in_nI (by omega) (by decide)) dX8_prove_164 (fun H locs hP hS => ?_)
                          obtain ⟨C_164, hC_164⟩ : ∃ z : wg_C, z = va_up Cw 1024 (some (.inl (E.2.1 0, 4, .inl (upd fn (nI (lc_cnt i j k)).toNatClampNeg (nI k))))) := ⟨_, rfl⟩
                          have hP : wg_P E A C_164 H := by rw [hC_164]; exact hP
                          have f1000w_c164 : C_164 1000 = some (.inr (8, [.int ns, .ref (A 1001), .int nh, .ref (A 1003), .ref (A 1004), .ref (A 1005), .ref (A 1006), .ref (A 1007), .ref (A 1008), .ref (A 1009), .ref (A 1010), .ref (A 1011), .ref (A 1012), .ref (A 1013), .ref (A 1014), .ref (A 1015), .ref (A 1016), .ref (A 1017), .ref (A 1018), .int (nI i), .int (nI j), .long (lf i), .long (lf j), .int (nI (lc_cnt i j k)), .ref (A 1024), .ref (A 1025), .ref (A 1026), .ref (A 1027), .ref (A 1028)])) := by rw [hC_164]; rw [va_up_ne _ _ (by decide)]; exact f1000w
                          have f1018w_c164 : C_164 1018 = some (.inl (E.2.1 1, 16, .inr (.inl nd))) := by rw [hC_164]; rw [va_up_ne _ _ (by decide)]; exact f1018w
                          have f1024w_c164 : C_164 1024 = some (.inl (E.2.1 0, 4, .inl (upd fn (nI (lc_cnt i j k)).toNatClampNeg (nI k)))) := by rw [hC_164]; exact va_up_self _ _ _
                          have f1025w_c164 : C_164 1025 = some (.inl (E.2.1 1, 4, .inr (.inl fv))) := by rw [hC_164]; rw [va_up_ne _ _ (by decide)]; exact f1025w
                          have f1027w_c164 : C_164 1027 = some (.inl (E.2.1 2, 16, .inl fz)) := by rw [hC_164]; rw [va_up_ne _ _ (by decide)]; exact f1027w
                          refine lv_aload_n hx hb dX8_prove_165 rfl (lv_at hl 1 rfl) ?_
                          refine wg_get F hP f1000w_c164 rfl iw_X8 25 (by decide) tb_574 rfl rfl dX8_prove_166 ?_
                          refine lv_aload_n hx hb dX8_prove_169 rfl (lv_at hl 1 rfl) ?_
                          refine wg_get F hP f1000w_c164 rfl iw_X8 23 (by decide) tb_572 rfl rfl dX8_prove_170 ?_
                          refine lv_aload_n hx hb dX8_prove_173 rfl (lv_at hl 1 rfl) ?_
                          refine wg_get F hP f1000w_c164 rfl iw_X8 18 (by decide) tb_567 rfl rfl dX8_prove_174 ?_
                          refine lv_iload hx hb dX8_prove_177 (lv_at hl 0 rfl) ?_
                          refine wg_lld F hP f1018w_c164 (vp_in_nI (by omega) (by decide)) dX8_prove_179 ?_
                          refine wg_topl (y := lc_node lf (k)) ((by rw [nI_clamp (by omega)]; exact hn _ (by omega) (by omega))) ?_
                          refine wg_lst F hP hS f1025w_c164 (vp_in_nI (by omega) (by decide)) dX8_prove_180 (fun H locs hP hS => ?_)
                          obtain ⟨C_180, hC_180⟩ : ∃ z : wg_C, z = va_up C_164 1025 (some (.inl (E.2.1 1, 4, .inr (.inl (vp_updL fv (nI (lc_cnt i j k)).toNatClampNeg (lc_node lf (k))))))) := ⟨_, rfl⟩
                          have hP : wg_P E A C_180 H := by rw [hC_180]; exact hP
                          have f1000w_c180 : C_180 1000 = some (.inr (8, [.int ns, .ref (A 1001), .int nh, .ref (A 1003), .ref (A 1004), .ref (A 1005), .ref (A 1006), .ref (A 1007), .ref (A 1008), .ref (A 1009), .ref (A 1010), .ref (A 1011), .ref (A 1012), .ref (A 1013), .ref (A 1014), .ref (A 1015), .ref (A 1016), .ref (A 1017), .ref (A 1018), .int (nI i), .int (nI j), .long (lf i), .long (lf j), .int (nI (lc_cnt i j k)), .ref (A 1024), .ref (A 1025), .ref (A 1026), .ref (A 1027), .ref (A 1028)])) := by rw [hC_180]; rw [va_up_ne _ _ (by decide)]; exact f1000w_c164
                          have f1018w_c180 : C_180 1018 = some (.inl (E.2.1 1, 16, .inr (.inl nd))) := by rw [hC_180]; rw [va_up_ne _ _ (by decide)]; exact f1018w_c164
                          have f1024w_c180 : C_180 1024 = some (.inl (E.2.1 0, 4, .inl (upd fn (nI (lc_cnt i j k)).toNatClampNeg (nI k)))) := by rw [hC_180]; rw [va_up_ne _ _ (by decide)]; exact f1024w_c164
                          have f1025w_c180 : C_180 1025 = some (.inl (E.2.1 1, 4, .inr (.inl (vp_updL fv (nI (lc_cnt i j k)).toNatClampNeg (lc_node lf (k)))))) := by rw [hC_180]; exact va_up_self _ _ _
                          have f1027w_c180 : C_180 1027 = some (.inl (E.2.1 2, 16, .inl fz)) := by rw [hC_180]; rw [va_up_ne _ _ (by decide)]; exact f1027w_c164
                          refine lv_aload_n hx hb dX8_prove_181 rfl (lv_at hl 1 rfl) ?_
                          refine lv_dup hx hb dX8_prove_182 rfl ?_
                          refine wg_get F hP f1000w_c180 rfl iw_X8 23 (by decide) tb_572 rfl rfl dX8_prove_183 ?_
                          refine lv_iconst (v := 1) hx hb dX8_prove_186 (by decide) ?_
                          refine lv_iadd hx hb dX8_prove_187 ?_
                          refine wg_topi (y := nI (lc_cnt i j k + 1)) (by rw [nI_1]) ?_
                          refine wg_put F hP hS f1000w_c180 rfl iw_X8 tyX8_ok nmX8 23 (by decide) tb_572 rfl rfl rfl (Nat.le_of_ble_eq_true rfl) dX8_prove_188 (fun H locs hP hS => ?_)
                          obtain ⟨C_188, hC_188⟩ : ∃ z : wg_C, z = va_up C_180 1000 (some (.inr (8, [.int ns, .ref (A 1001), .int nh, .ref (A 1003), .ref (A 1004), .ref (A 1005), .ref (A 1006), .ref (A 1007), .ref (A 1008), .ref (A 1009), .ref (A 1010), .ref (A 1011), .ref (A 1012), .ref (A 1013), .ref (A 1014), .ref (A 1015), .ref (A 1016), .ref (A 1017), .ref (A 1018), .int (nI i), .int (nI j), .long (lf i), .long (lf j), .int (nI (lc_cnt i j k + 1)), .ref (A 1024), .ref (A 1025), .ref (A 1026), .ref (A 1027), .ref (A 1028)]))) := ⟨_, rfl⟩
                          have hP : wg_P E A C_188 H := by rw [hC_188]; exact hP
                          have f1000w_c188 : C_188 1000 = some (.inr (8, [.int ns, .ref (A 1001), .int nh, .ref (A 1003), .ref (A 1004), .ref (A 1005), .ref (A 1006), .ref (A 1007), .ref (A 1008), .ref (A 1009), .ref (A 1010), .ref (A 1011), .ref (A 1012), .ref (A 1013), .ref (A 1014), .ref (A 1015), .ref (A 1016), .ref (A 1017), .ref (A 1018), .int (nI i), .int (nI j), .long (lf i), .long (lf j), .int (nI (lc_cnt i j k + 1)), .ref (A 1024), .ref (A 1025), .ref (A 1026), .ref (A 1027), .ref (A 1028)])) := by rw [hC_188]; exact va_up_self _ _ _
                          have f1018w_c188 : C_188 1018 = some (.inl (E.2.1 1, 16, .inr (.inl nd))) := by rw [hC_188]; rw [va_up_ne _ _ (by decide)]; exact f1018w_c180
                          have f1024w_c188 : C_188 1024 = some (.inl (E.2.1 0, 4, .inl (upd fn (nI (lc_cnt i j k)).toNatClampNeg (nI k)))) := by rw [hC_188]; rw [va_up_ne _ _ (by decide)]; exact f1024w_c180
                          have f1025w_c188 : C_188 1025 = some (.inl (E.2.1 1, 4, .inr (.inl (vp_updL fv (nI (lc_cnt i j k)).toNatClampNeg (lc_node lf (k)))))) := by rw [hC_188]; rw [va_up_ne _ _ (by decide)]; exact f1025w_c180
                          have f1027w_c188 : C_188 1027 = some (.inl (E.2.1 2, 16, .inl fz)) := by rw [hC_188]; rw [va_up_ne _ _ (by decide)]; exact f1027w_c180
                          refine lv_aload_n hx hb dX8_prove_191 rfl (lv_at hl 1 rfl) ?_
                          refine wg_get F hP f1000w_c188 rfl iw_X8 27 (by decide) tb_576 rfl rfl dX8_prove_192 ?_
                          refine lv_iload_n hx hb dX8_prove_195 rfl (lv_at hl 4 rfl) ?_
                          refine lv_iconst (v := 2) hx hb dX8_prove_196 (by decide) ?_
                          refine lv_idiv hx hb dX8_prove_197 (by decide) ?_
                          refine wg_topi (y := nI (k / 2)) (by rw [show (2 : Int32) = nI 2 from rfl, pk_div (by omega) (by decide) (by decide)]) ?_
                          refine lv_aload_n hx hb dX8_prove_198 rfl (lv_at hl 1 rfl) ?_
                          refine wg_get F hP f1000w_c188 rfl iw_X8 27 (by decide) tb_576 rfl rfl dX8_prove_199 ?_
                          refine lv_iload_n hx hb dX8_prove_202 rfl (lv_at hl 4 rfl) ?_
                          refine lv_iconst (v := 2) hx hb dX8_prove_203 (by decide) ?_
                          refine lv_idiv hx hb dX8_prove_204 (by decide) ?_
                          refine wg_topi (y := nI (k / 2)) (by rw [show (2 : Int32) = nI 2 from rfl, pk_div (by omega) (by decide) (by decide)]) ?_
                          refine wg_zld F hP f1027w_c188 (vp_in_nI (by omega) (by decide)) dX8_prove_205 ?_
                          refine wg_topi (y := 0) ((by rw [nI_clamp (by omega)]; exact k0)) ?_
                          refine lv_if_ne (tgt := 229) hx hb dX8_prove_206 (by decide) (fun c_206 => ?_) (fun c_206 => ?_)
                          · exact absurd rfl c_206
                          · refine lv_aload_n hx hb dX8_prove_209 rfl (lv_at hl 1 rfl) ?_
                            refine wg_get F hP f1000w_c188 rfl iw_X8 27 (by decide) tb_576 rfl rfl dX8_prove_210 ?_
                            refine lv_iload_n hx hb dX8_prove_213 rfl (lv_at hl 4 rfl) ?_
                            refine wg_zld F hP f1027w_c188 (vp_in_nI (by omega) (by decide)) dX8_prove_214 ?_
                            refine wg_topi (y := 0) ((by rw [nI_clamp (by omega)]; exact k3)) ?_
                            refine lv_if_ne (tgt := 229) hx hb dX8_prove_215 (by decide) (fun c_215 => ?_) (fun c_215 => ?_)
                            · exact absurd rfl c_215
                            · refine lv_aload_n hx hb dX8_prove_218 rfl (lv_at hl 1 rfl) ?_
                              refine wg_get F hP f1000w_c188 rfl iw_X8 27 (by decide) tb_576 rfl rfl dX8_prove_219 ?_
                              refine lv_iload_n hx hb dX8_prove_222 rfl (lv_at hl 4 rfl) ?_
                              refine lv_iconst (v := 1) hx hb dX8_prove_223 (by decide) ?_
                              refine lv_isub hx hb dX8_prove_224 ?_
                              refine wg_topi (y := nI (k - 1)) (by rw [show (1 : Int32) = nI 1 from rfl, pk_sub (by omega)]) ?_
                              refine wg_zld F hP f1027w_c188 (vp_in_nI (by omega) (by decide)) dX8_prove_225 ?_
                              refine wg_topi (y := 1) ((by rw [nI_clamp (by omega)]; exact k2)) ?_
                              refine lv_if_eq (tgt := 233) hx hb dX8_prove_226 (by decide) (fun c_226 => ?_) (fun c_226 => ?_)
                              · exact absurd c_226 (by decide)
                              · refine lv_iconst (v := 1) hx hb dX8_prove_229 (by decide) ?_
                                refine lv_goto (tgt := 234) hx hb dX8_prove_230 (by decide) ?_
                                refine wg_zst F hP hS f1027w_c188 (by decide) (vp_in_nI (by omega) (by decide)) dX8_prove_234 (fun H locs hP hS => ?_)
                                obtain ⟨C_234_1, hC_234_1⟩ : ∃ z : wg_C, z = va_up C_188 1027 (some (.inl (E.2.1 2, 16, .inl (upd fz (nI (k / 2)).toNatClampNeg 1)))) := ⟨_, rfl⟩
                                have hP : wg_P E A C_234_1 H := by rw [hC_234_1]; exact hP
                                have f1000w_c234_1 : C_234_1 1000 = some (.inr (8, [.int ns, .ref (A 1001), .int nh, .ref (A 1003), .ref (A 1004), .ref (A 1005), .ref (A 1006), .ref (A 1007), .ref (A 1008), .ref (A 1009), .ref (A 1010), .ref (A 1011), .ref (A 1012), .ref (A 1013), .ref (A 1014), .ref (A 1015), .ref (A 1016), .ref (A 1017), .ref (A 1018), .int (nI i), .int (nI j), .long (lf i), .long (lf j), .int (nI (lc_cnt i j k + 1)), .ref (A 1024), .ref (A 1025), .ref (A 1026), .ref (A 1027), .ref (A 1028)])) := by rw [hC_234_1]; rw [va_up_ne _ _ (by decide)]; exact f1000w_c188
                                have f1018w_c234_1 : C_234_1 1018 = some (.inl (E.2.1 1, 16, .inr (.inl nd))) := by rw [hC_234_1]; rw [va_up_ne _ _ (by decide)]; exact f1018w_c188
                                have f1024w_c234_1 : C_234_1 1024 = some (.inl (E.2.1 0, 4, .inl (upd fn (nI (lc_cnt i j k)).toNatClampNeg (nI k)))) := by rw [hC_234_1]; rw [va_up_ne _ _ (by decide)]; exact f1024w_c188
                                have f1025w_c234_1 : C_234_1 1025 = some (.inl (E.2.1 1, 4, .inr (.inl (vp_updL fv (nI (lc_cnt i j k)).toNatClampNeg (lc_node lf (k)))))) := by rw [hC_234_1]; rw [va_up_ne _ _ (by decide)]; exact f1025w_c188
                                have f1027w_c234_1 : C_234_1 1027 = some (.inl (E.2.1 2, 16, .inl (upd fz (nI (k / 2)).toNatClampNeg 1))) := by rw [hC_234_1]; exact va_up_self _ _ _
                                have hpkn : ∀ q, 1 ≤ q → q < 16 → (upd fz (nI (k / 2)).toNatClampNeg 1) q = lm_b (lm_pk i j (k - 2) q) := by
                                  have hp := lm_pks (show k < 16 by omega) hodd h3 hpk
                                  rw [ho] at hp
                                  rw [nI_clamp (by omega)]
                                  exact hp
                                have mo9 : C_234_1 1000 = some (.inr (8, [.int ns, .ref (A 1001), .int nh, .ref (A 1003), .ref (A 1004), .ref (A 1005), .ref (A 1006), .ref (A 1007), .ref (A 1008), .ref (A 1009), .ref (A 1010), .ref (A 1011), .ref (A 1012), .ref (A 1013), .ref (A 1014), .ref (A 1015), .ref (A 1016), .ref (A 1017), .ref (A 1018), .int (nI i), .int (nI j), .long (lf i), .long (lf j), .int (nI (lc_cnt i j (k - 2))), .ref (A 1024), .ref (A 1025), .ref (A 1026), .ref (A 1027), .ref (A 1028)])) := by rw [hct]; exact f1000w_c234_1
                                have hfnn : ∀ z, z < lc_cnt i j (k - 2) → (upd fn (nI (lc_cnt i j k)).toNatClampNeg (nI k)) z = nI (lc_nth i j z) := by rw [hct, nI_clamp (by omega)]; exact lm_ext1 hfn hnt
                                have hfvn : ∀ z, z < lc_cnt i j (k - 2) → (vp_updL fv (nI (lc_cnt i j k)).toNatClampNeg (lc_node lf (k))) z = lc_node lf (lc_nth i j z) := by rw [hct, nI_clamp (by omega)]; exact lm_ext2 (g := fun z => lc_node lf (lc_nth i j z)) hfv (by show lc_node lf (lc_nth i j (lc_cnt i j k)) = _; rw [hnt])
                                obtain ⟨x_235, ex_235⟩ : ∃ y : Int32, y = nI k + (-2) := ⟨_, rfl⟩
                                refine lv_iinc (v := x_235) (lv' := [(3, .int x_235), (4, .int (nI k)), (0, .ref (A 1000)), (1, .int (nI i)), (2, .int (nI j))]) hx hb dX8_prove_235 hl (k := 4) rfl (by rw [ex_235]; rfl) (by decide) rfl (fun ls hl => ?_)
                                refine lv_goto (tgt := 114) hx hb dX8_prove_238 (by decide) ?_
                                exact ih_loop_114 (k - 2) x_235 (upd fz (nI (k / 2)).toNatClampNeg 1) (upd fn (nI (lc_cnt i j k)).toNatClampNeg (nI k)) (vp_updL fv (nI (lc_cnt i j k)).toNatClampNeg (lc_node lf (k))) (by omega) (by omega) (by omega) (by rw [ex_235]; exact lm_m2 (by omega)) hpkn hfnn hfvn C_234_1 mo9 f1018w_c234_1 f1024w_c234_1 f1025w_c234_1 f1027w_c234_1 (fun r h0 h1 h2 h3 h4 => by rw [hC_234_1, va_up_ne _ _ h4, hC_188, va_up_ne _ _ h0, hC_180, va_up_ne _ _ h3, hC_164, va_up_ne _ _ h2, hbase r h0 h1 h2 h3 h4]) _ _ _ hP hS (lv_sub hl [2, 3, 4, 0] rfl)
                        · exact absurd rfl c_142
                    · rw [hk1] at k3
                      rw [hk2] at k2
                      have ho : lc_on i j (k / 2) = true := by rw [pt.1, hk1, hk2]; rfl
                      obtain ⟨hnt, hct, hc3⟩ := pt.2.2.1 ⟨hk1, hk2⟩
                      refine lv_aload_n hx hb dX8_prove_119 rfl (lv_at hl 0 rfl) ?_
                      refine wg_get F hP f1000w rfl iw_X8 27 (by decide) tb_576 rfl rfl dX8_prove_120 ?_
                      refine lv_iload_n hx hb dX8_prove_123 rfl (lv_at hl 3 rfl) ?_
                      refine wg_zld F hP f1027w (vp_in_nI (by omega) (by decide)) dX8_prove_124 ?_
                      refine wg_topi (y := 1) ((by rw [nI_clamp (by omega)]; exact k3)) ?_
                      refine lv_aload_n hx hb dX8_prove_125 rfl (lv_at hl 0 rfl) ?_
                      refine wg_get F hP f1000w rfl iw_X8 27 (by decide) tb_576 rfl rfl dX8_prove_126 ?_
                      refine lv_iload_n hx hb dX8_prove_129 rfl (lv_at hl 3 rfl) ?_
                      refine lv_iconst (v := 1) hx hb dX8_prove_130 (by decide) ?_
                      refine lv_isub hx hb dX8_prove_131 ?_
                      refine wg_topi (y := nI (k - 1)) (by rw [show (1 : Int32) = nI 1 from rfl, pk_sub (by omega)]) ?_
                      refine wg_zld F hP f1027w (vp_in_nI (by omega) (by decide)) dX8_prove_132 ?_
                      refine wg_topi (y := 0) ((by rw [nI_clamp (by omega)]; exact k2)) ?_
                      refine lv_icmp_eq (tgt := 191) hx hb dX8_prove_133 (by decide) (fun c_133 => ?_) (fun c_133 => ?_)
                      · exact absurd c_133 (by decide)
                      · refine lv_aload_n hx hb dX8_prove_136 rfl (lv_at hl 0 rfl) ?_
                        refine wg_get F hP f1000w rfl iw_X8 27 (by decide) tb_576 rfl rfl dX8_prove_137 ?_
                        refine lv_iload_n hx hb dX8_prove_140 rfl (lv_at hl 3 rfl) ?_
                        refine wg_zld F hP f1027w (vp_in_nI (by omega) (by decide)) dX8_prove_141 ?_
                        refine wg_topi (y := 1) ((by rw [nI_clamp (by omega)]; exact k3)) ?_
                        refine lv_if_eq (tgt := 151) hx hb dX8_prove_142 (by decide) (fun c_142 => ?_) (fun c_142 => ?_)
                        · exact absurd c_142 (by decide)
                        · refine lv_iload_n hx hb dX8_prove_145 rfl (lv_at hl 3 rfl) ?_
                          refine lv_iconst (v := 1) hx hb dX8_prove_146 (by decide) ?_
                          refine lv_isub hx hb dX8_prove_147 ?_
                          refine wg_topi (y := nI (k - 1)) (by rw [show (1 : Int32) = nI 1 from rfl, pk_sub (by omega)]) ?_
                          refine lv_goto (tgt := 152) hx hb dX8_prove_148 (by decide) ?_
                          refine lv_istore (lv' := [(4, .int (nI (k - 1))), (0, .ref (A 1000)), (1, .int (nI i)), (2, .int (nI j)), (3, .int (nI k))]) hx hb dX8_prove_152 hl (by decide) rfl (fun ls hl => ?_)
                          refine lv_aload_n hx hb dX8_prove_154 rfl (lv_at hl 1 rfl) ?_
                          refine wg_get F hP f1000w rfl iw_X8 24 (by decide) tb_573 rfl rfl dX8_prove_155 ?_
                          refine lv_aload_n hx hb dX8_prove_158 rfl (lv_at hl 1 rfl) ?_
                          refine wg_get F hP f1000w rfl iw_X8 23 (by decide) tb_572 rfl rfl dX8_prove_159 ?_
                          refine lv_iload hx hb dX8_prove_162 (lv_at hl 0 rfl) ?_
                          refine wg_ist F hP hS f1024w (vp_in_nI (by omega) (by decide)) dX8_prove_164 (fun H locs hP hS => ?_)
                          obtain ⟨C_164_1, hC_164_1⟩ : ∃ z : wg_C, z = va_up Cw 1024 (some (.inl (E.2.1 0, 4, .inl (upd fn (nI (lc_cnt i j k)).toNatClampNeg (nI (k - 1)))))) := ⟨_, rfl⟩
                          have hP : wg_P E A C_164_1 H := by rw [hC_164_1]; exact hP
                          have f1000w_c164_1 : C_164_1 1000 = some (.inr (8, [.int ns, .ref (A 1001), .int nh, .ref (A 1003), .ref (A 1004), .ref (A 1005), .ref (A 1006), .ref (A 1007), .ref (A 1008), .ref (A 1009), .ref (A 1010), .ref (A 1011), .ref (A 1012), .ref (A 1013), .ref (A 1014), .ref (A 1015), .ref (A 1016), .ref (A 1017), .ref (A 1018), .int (nI i), .int (nI j), .long (lf i), .long (lf j), .int (nI (lc_cnt i j k)), .ref (A 1024), .ref (A 1025), .ref (A 1026), .ref (A 1027), .ref (A 1028)])) := by rw [hC_164_1]; rw [va_up_ne _ _ (by decide)]; exact f1000w
                          have f1018w_c164_1 : C_164_1 1018 = some (.inl (E.2.1 1, 16, .inr (.inl nd))) := by rw [hC_164_1]; rw [va_up_ne _ _ (by decide)]; exact f1018w
                          have f1024w_c164_1 : C_164_1 1024 = some (.inl (E.2.1 0, 4, .inl (upd fn (nI (lc_cnt i j k)).toNatClampNeg (nI (k - 1))))) := by rw [hC_164_1]; exact va_up_self _ _ _
                          have f1025w_c164_1 : C_164_1 1025 = some (.inl (E.2.1 1, 4, .inr (.inl fv))) := by rw [hC_164_1]; rw [va_up_ne _ _ (by decide)]; exact f1025w
                          have f1027w_c164_1 : C_164_1 1027 = some (.inl (E.2.1 2, 16, .inl fz)) := by rw [hC_164_1]; rw [va_up_ne _ _ (by decide)]; exact f1027w
                          refine lv_aload_n hx hb dX8_prove_165 rfl (lv_at hl 1 rfl) ?_
                          refine wg_get F hP f1000w_c164_1 rfl iw_X8 25 (by decide) tb_574 rfl rfl dX8_prove_166 ?_
                          refine lv_aload_n hx hb dX8_prove_169 rfl (lv_at hl 1 rfl) ?_
                          refine wg_get F hP f1000w_c164_1 rfl iw_X8 23 (by decide) tb_572 rfl rfl dX8_prove_170 ?_
                          refine lv_aload_n hx hb dX8_prove_173 rfl (lv_at hl 1 rfl) ?_
                          refine wg_get F hP f1000w_c164_1 rfl iw_X8 18 (by decide) tb_567 rfl rfl dX8_prove_174 ?_
                          refine lv_iload hx hb dX8_prove_177 (lv_at hl 0 rfl) ?_
                          refine wg_lld F hP f1018w_c164_1 (vp_in_nI (by omega) (by decide)) dX8_prove_179 ?_
                          refine wg_topl (y := lc_node lf (k - 1)) ((by rw [nI_clamp (by omega)]; exact hn _ (by omega) (by omega))) ?_
                          refine wg_lst F hP hS f1025w_c164_1 (vp_in_nI (by omega) (by decide)) dX8_prove_180 (fun H locs hP hS => ?_)
                          obtain ⟨C_180_1, hC_180_1⟩ : ∃ z : wg_C, z = va_up C_164_1 1025 (some (.inl (E.2.1 1, 4, .inr (.inl (vp_updL fv (nI (lc_cnt i j k)).toNatClampNeg (lc_node lf (k - 1))))))) := ⟨_, rfl⟩
                          have hP : wg_P E A C_180_1 H := by rw [hC_180_1]; exact hP
                          have f1000w_c180_1 : C_180_1 1000 = some (.inr (8, [.int ns, .ref (A 1001), .int nh, .ref (A 1003), .ref (A 1004), .ref (A 1005), .ref (A 1006), .ref (A 1007), .ref (A 1008), .ref (A 1009), .ref (A 1010), .ref (A 1011), .ref (A 1012), .ref (A 1013), .ref (A 1014), .ref (A 1015), .ref (A 1016), .ref (A 1017), .ref (A 1018), .int (nI i), .int (nI j), .long (lf i), .long (lf j), .int (nI (lc_cnt i j k)), .ref (A 1024), .ref (A 1025), .ref (A 1026), .ref (A 1027), .ref (A 1028)])) := by rw [hC_180_1]; rw [va_up_ne _ _ (by decide)]; exact f1000w_c164_1
                          have f1018w_c180_1 : C_180_1 1018 = some (.inl (E.2.1 1, 16, .inr (.inl nd))) := by rw [hC_180_1]; rw [va_up_ne _ _ (by decide)]; exact f1018w_c164_1
                          have f1024w_c180_1 : C_180_1 1024 = some (.inl (E.2.1 0, 4, .inl (upd fn (nI (lc_cnt i j k)).toNatClampNeg (nI (k - 1))))) := by rw [hC_180_1]; rw [va_up_ne _ _ (by decide)]; exact f1024w_c164_1
                          have f1025w_c180_1 : C_180_1 1025 = some (.inl (E.2.1 1, 4, .inr (.inl (vp_updL fv (nI (lc_cnt i j k)).toNatClampNeg (lc_node lf (k - 1)))))) := by rw [hC_180_1]; exact va_up_self _ _ _
                          have f1027w_c180_1 : C_180_1 1027 = some (.inl (E.2.1 2, 16, .inl fz)) := by rw [hC_180_1]; rw [va_up_ne _ _ (by decide)]; exact f1027w_c164_1
                          refine lv_aload_n hx hb dX8_prove_181 rfl (lv_at hl 1 rfl) ?_
                          refine lv_dup hx hb dX8_prove_182 rfl ?_
                          refine wg_get F hP f1000w_c180_1 rfl iw_X8 23 (by decide) tb_572 rfl rfl dX8_prove_183 ?_
                          refine lv_iconst (v := 1) hx hb dX8_prove_186 (by decide) ?_
                          refine lv_iadd hx hb dX8_prove_187 ?_
                          refine wg_topi (y := nI (lc_cnt i j k + 1)) (by rw [nI_1]) ?_
                          refine wg_put F hP hS f1000w_c180_1 rfl iw_X8 tyX8_ok nmX8 23 (by decide) tb_572 rfl rfl rfl (Nat.le_of_ble_eq_true rfl) dX8_prove_188 (fun H locs hP hS => ?_)
                          obtain ⟨C_188_1, hC_188_1⟩ : ∃ z : wg_C, z = va_up C_180_1 1000 (some (.inr (8, [.int ns, .ref (A 1001), .int nh, .ref (A 1003), .ref (A 1004), .ref (A 1005), .ref (A 1006), .ref (A 1007), .ref (A 1008), .ref (A 1009), .ref (A 1010), .ref (A 1011), .ref (A 1012), .ref (A 1013), .ref (A 1014), .ref (A 1015), .ref (A 1016), .ref (A 1017), .ref (A 1018), .int (nI i), .int (nI j), .long (lf i), .long (lf j), .int (nI (lc_cnt i j k + 1)), .ref (A 1024), .ref (A 1025), .ref (A 1026), .ref (A 1027), .ref (A 1028)]))) := ⟨_, rfl⟩
                          have hP : wg_P E A C_188_1 H := by rw [hC_188_1]; exact hP
                          have f1000w_c188_1 : C_188_1 1000 = some (.inr (8, [.int ns, .ref (A 1001), .int nh, .ref (A 1003), .ref (A 1004), .ref (A 1005), .ref (A 1006), .ref (A 1007), .ref (A 1008), .ref (A 1009), .ref (A 1010), .ref (A 1011), .ref (A 1012), .ref (A 1013), .ref (A 1014), .ref (A 1015), .ref (A 1016), .ref (A 1017), .ref (A 1018), .int (nI i), .int (nI j), .long (lf i), .long (lf j), .int (nI (lc_cnt i j k + 1)), .ref (A 1024), .ref (A 1025), .ref (A 1026), .ref (A 1027), .ref (A 1028)])) := by rw [hC_188_1]; exact va_up_self _ _ _
                          have f1018w_c188_1 : C_188_1 1018 = some (.inl (E.2.1 1, 16, .inr (.inl nd))) := by rw [hC_188_1]; rw [va_up_ne _ _ (by decide)]; exact f1018w_c180_1
                          have f1024w_c188_1 : C_188_1 1024 = some (.inl (E.2.1 0, 4, .inl (upd fn (nI (lc_cnt i j k)).toNatClampNeg (nI (k - 1))))) := by rw [hC_188_1]; rw [va_up_ne _ _ (by decide)]; exact f1024w_c180_1
                          have f1025w_c188_1 : C_188_1 1025 = some (.inl (E.2.1 1, 4, .inr (.inl (vp_updL fv (nI (lc_cnt i j k)).toNatClampNeg (lc_node lf (k - 1)))))) := by rw [hC_188_1]; rw [va_up_ne _ _ (by decide)]; exact f1025w_c180_1
                          have f1027w_c188_1 : C_188_1 1027 = some (.inl (E.2.1 2, 16, .inl fz)) := by rw [hC_188_1]; rw [va_up_ne _ _ (by decide)]; exact f1027w_c180_1
                          refine lv_aload_n hx hb dX8_prove_191 rfl (lv_at hl 1 rfl) ?_
                          refine wg_get F hP f1000w_c188_1 rfl iw_X8 27 (by decide) tb_576 rfl rfl dX8_prove_192 ?_
                          refine lv_iload_n hx hb dX8_prove_195 rfl (lv_at hl 4 rfl) ?_
                          refine lv_iconst (v := 2) hx hb dX8_prove_196 (by decide) ?_
                          refine lv_idiv hx hb dX8_prove_197 (by decide) ?_
                          refine wg_topi (y := nI (k / 2)) (by rw [show (2 : Int32) = nI 2 from rfl, pk_div (by omega) (by decide) (by decide)]) ?_
                          refine lv_aload_n hx hb dX8_prove_198 rfl (lv_at hl 1 rfl) ?_
                          refine wg_get F hP f1000w_c188_1 rfl iw_X8 27 (by decide) tb_576 rfl rfl dX8_prove_199 ?_
                          refine lv_iload_n hx hb dX8_prove_202 rfl (lv_at hl 4 rfl) ?_
                          refine lv_iconst (v := 2) hx hb dX8_prove_203 (by decide) ?_
                          refine lv_idiv hx hb dX8_prove_204 (by decide) ?_
                          refine wg_topi (y := nI (k / 2)) (by rw [show (2 : Int32) = nI 2 from rfl, pk_div (by omega) (by decide) (by decide)]) ?_
                          refine wg_zld F hP f1027w_c188_1 (vp_in_nI (by omega) (by decide)) dX8_prove_205 ?_
                          refine wg_topi (y := 0) ((by rw [nI_clamp (by omega)]; exact k0)) ?_
                          refine lv_if_ne (tgt := 229) hx hb dX8_prove_206 (by decide) (fun c_206 => ?_) (fun c_206 => ?_)
                          · exact absurd rfl c_206
                          · refine lv_aload_n hx hb dX8_prove_209 rfl (lv_at hl 1 rfl) ?_
                            refine wg_get F hP f1000w_c188_1 rfl iw_X8 27 (by decide) tb_576 rfl rfl dX8_prove_210 ?_
                            refine lv_iload_n hx hb dX8_prove_213 rfl (lv_at hl 4 rfl) ?_
                            refine wg_zld F hP f1027w_c188_1 (vp_in_nI (by omega) (by decide)) dX8_prove_214 ?_
                            refine wg_topi (y := 1) ((by rw [nI_clamp (by omega)]; exact k3)) ?_
                            refine lv_if_ne (tgt := 229) hx hb dX8_prove_215 (by decide) (fun c_215 => ?_) (fun c_215 => ?_)
                            · refine lv_iconst (v := 1) hx hb dX8_prove_229 (by decide) ?_
                              refine lv_goto (tgt := 234) hx hb dX8_prove_230 (by decide) ?_
                              refine wg_zst F hP hS f1027w_c188_1 (by decide) (vp_in_nI (by omega) (by decide)) dX8_prove_234 (fun H locs hP hS => ?_)
                              obtain ⟨C_234_2, hC_234_2⟩ : ∃ z : wg_C, z = va_up C_188_1 1027 (some (.inl (E.2.1 2, 16, .inl (upd fz (nI (k / 2)).toNatClampNeg 1)))) := ⟨_, rfl⟩
                              have hP : wg_P E A C_234_2 H := by rw [hC_234_2]; exact hP
                              have f1000w_c234_2 : C_234_2 1000 = some (.inr (8, [.int ns, .ref (A 1001), .int nh, .ref (A 1003), .ref (A 1004), .ref (A 1005), .ref (A 1006), .ref (A 1007), .ref (A 1008), .ref (A 1009), .ref (A 1010), .ref (A 1011), .ref (A 1012), .ref (A 1013), .ref (A 1014), .ref (A 1015), .ref (A 1016), .ref (A 1017), .ref (A 1018), .int (nI i), .int (nI j), .long (lf i), .long (lf j), .int (nI (lc_cnt i j k + 1)), .ref (A 1024), .ref (A 1025), .ref (A 1026), .ref (A 1027), .ref (A 1028)])) := by rw [hC_234_2]; rw [va_up_ne _ _ (by decide)]; exact f1000w_c188_1
                              have f1018w_c234_2 : C_234_2 1018 = some (.inl (E.2.1 1, 16, .inr (.inl nd))) := by rw [hC_234_2]; rw [va_up_ne _ _ (by decide)]; exact f1018w_c188_1
                              have f1024w_c234_2 : C_234_2 1024 = some (.inl (E.2.1 0, 4, .inl (upd fn (nI (lc_cnt i j k)).toNatClampNeg (nI (k - 1))))) := by rw [hC_234_2]; rw [va_up_ne _ _ (by decide)]; exact f1024w_c188_1
                              have f1025w_c234_2 : C_234_2 1025 = some (.inl (E.2.1 1, 4, .inr (.inl (vp_updL fv (nI (lc_cnt i j k)).toNatClampNeg (lc_node lf (k - 1)))))) := by rw [hC_234_2]; rw [va_up_ne _ _ (by decide)]; exact f1025w_c188_1
                              have f1027w_c234_2 : C_234_2 1027 = some (.inl (E.2.1 2, 16, .inl (upd fz (nI (k / 2)).toNatClampNeg 1))) := by rw [hC_234_2]; exact va_up_self _ _ _
                              have hpkn : ∀ q, 1 ≤ q → q < 16 → (upd fz (nI (k / 2)).toNatClampNeg 1) q = lm_b (lm_pk i j (k - 2) q) := by
                                have hp := lm_pks (show k < 16 by omega) hodd h3 hpk
                                rw [ho] at hp
                                rw [nI_clamp (by omega)]
                                exact hp
                              have mo9 : C_234_2 1000 = some (.inr (8, [.int ns, .ref (A 1001), .int nh, .ref (A 1003), .ref (A 1004), .ref (A 1005), .ref (A 1006), .ref (A 1007), .ref (A 1008), .ref (A 1009), .ref (A 1010), .ref (A 1011), .ref (A 1012), .ref (A 1013), .ref (A 1014), .ref (A 1015), .ref (A 1016), .ref (A 1017), .ref (A 1018), .int (nI i), .int (nI j), .long (lf i), .long (lf j), .int (nI (lc_cnt i j (k - 2))), .ref (A 1024), .ref (A 1025), .ref (A 1026), .ref (A 1027), .ref (A 1028)])) := by rw [hct]; exact f1000w_c234_2
                              have hfnn : ∀ z, z < lc_cnt i j (k - 2) → (upd fn (nI (lc_cnt i j k)).toNatClampNeg (nI (k - 1))) z = nI (lc_nth i j z) := by rw [hct, nI_clamp (by omega)]; exact lm_ext1 hfn hnt
                              have hfvn : ∀ z, z < lc_cnt i j (k - 2) → (vp_updL fv (nI (lc_cnt i j k)).toNatClampNeg (lc_node lf (k - 1))) z = lc_node lf (lc_nth i j z) := by rw [hct, nI_clamp (by omega)]; exact lm_ext2 (g := fun z => lc_node lf (lc_nth i j z)) hfv (by show lc_node lf (lc_nth i j (lc_cnt i j k)) = _; rw [hnt])
                              obtain ⟨x_235, ex_235⟩ : ∃ y : Int32, y = nI k + (-2) := ⟨_, rfl⟩
                              refine lv_iinc (v := x_235) (lv' := [(3, .int x_235), (4, .int (nI (k - 1))), (0, .ref (A 1000)), (1, .int (nI i)), (2, .int (nI j))]) hx hb dX8_prove_235 hl (k := 4) rfl (by rw [ex_235]; rfl) (by decide) rfl (fun ls hl => ?_)
                              refine lv_goto (tgt := 114) hx hb dX8_prove_238 (by decide) ?_
                              exact ih_loop_114 (k - 2) x_235 (upd fz (nI (k / 2)).toNatClampNeg 1) (upd fn (nI (lc_cnt i j k)).toNatClampNeg (nI (k - 1))) (vp_updL fv (nI (lc_cnt i j k)).toNatClampNeg (lc_node lf (k - 1))) (by omega) (by omega) (by omega) (by rw [ex_235]; exact lm_m2 (by omega)) hpkn hfnn hfvn C_234_2 mo9 f1018w_c234_2 f1024w_c234_2 f1025w_c234_2 f1027w_c234_2 (fun r h0 h1 h2 h3 h4 => by rw [hC_234_2, va_up_ne _ _ h4, hC_188_1, va_up_ne _ _ h0, hC_180_1, va_up_ne _ _ h3, hC_164_1, va_up_ne _ _ h2, hbase r h0 h1 h2 h3 h4]) _ _ _ hP hS (lv_sub hl [2, 3, 4, 0] rfl)
                            · exact absurd c_215 (by decide)
                    · rw [hk1] at k3
                      rw [hk2] at k2
                      have ho : lc_on i j (k / 2) = true := by rw [pt.1, hk1, hk2]; rfl
                      have hct : lc_cnt i j (k - 2) = lc_cnt i j k := pt.2.1 (hk1.trans hk2.symm)
                      refine lv_aload_n hx hb dX8_prove_119 rfl (lv_at hl 0 rfl) ?_
                      refine wg_get F hP f1000w rfl iw_X8 27 (by decide) tb_576 rfl rfl dX8_prove_120 ?_
                      refine lv_iload_n hx hb dX8_prove_123 rfl (lv_at hl 3 rfl) ?_
                      refine wg_zld F hP f1027w (vp_in_nI (by omega) (by decide)) dX8_prove_124 ?_
                      refine wg_topi (y := 1) ((by rw [nI_clamp (by omega)]; exact k3)) ?_
                      refine lv_aload_n hx hb dX8_prove_125 rfl (lv_at hl 0 rfl) ?_
                      refine wg_get F hP f1000w rfl iw_X8 27 (by decide) tb_576 rfl rfl dX8_prove_126 ?_
                      refine lv_iload_n hx hb dX8_prove_129 rfl (lv_at hl 3 rfl) ?_
                      refine lv_iconst (v := 1) hx hb dX8_prove_130 (by decide) ?_
                      refine lv_isub hx hb dX8_prove_131 ?_
                      refine wg_topi (y := nI (k - 1)) (by rw [show (1 : Int32) = nI 1 from rfl, pk_sub (by omega)]) ?_
                      refine wg_zld F hP f1027w (vp_in_nI (by omega) (by decide)) dX8_prove_132 ?_
                      refine wg_topi (y := 1) ((by rw [nI_clamp (by omega)]; exact k2)) ?_
                      refine lv_icmp_eq (tgt := 191) hx hb dX8_prove_133 (by decide) (fun c_133 => ?_) (fun c_133 => ?_)
                      · refine lv_aload_n hx hb dX8_prove_191 rfl (lv_at hl 0 rfl) ?_
                        refine wg_get F hP f1000w rfl iw_X8 27 (by decide) tb_576 rfl rfl dX8_prove_192 ?_
                        refine lv_iload_n hx hb dX8_prove_195 rfl (lv_at hl 3 rfl) ?_
                        refine lv_iconst (v := 2) hx hb dX8_prove_196 (by decide) ?_
                        refine lv_idiv hx hb dX8_prove_197 (by decide) ?_
                        refine wg_topi (y := nI (k / 2)) (by rw [show (2 : Int32) = nI 2 from rfl, pk_div (by omega) (by decide) (by decide)]) ?_
                        refine lv_aload_n hx hb dX8_prove_198 rfl (lv_at hl 0 rfl) ?_
                        refine wg_get F hP f1000w rfl iw_X8 27 (by decide) tb_576 rfl rfl dX8_prove_199 ?_
                        refine lv_iload_n hx hb dX8_prove_202 rfl (lv_at hl 3 rfl) ?_
                        refine lv_iconst (v := 2) hx hb dX8_prove_203 (by decide) ?_
                        refine lv_idiv hx hb dX8_prove_204 (by decide) ?_
                        refine wg_topi (y := nI (k / 2)) (by rw [show (2 : Int32) = nI 2 from rfl, pk_div (by omega) (by decide) (by decide)]) ?_
                        refine wg_zld F hP f1027w (vp_in_nI (by omega) (by decide)) dX8_prove_205 ?_
                        refine wg_topi (y := 0) ((by rw [nI_clamp (by omega)]; exact k0)) ?_
                        refine lv_if_ne (tgt := 229) hx hb dX8_prove_206 (by decide) (fun c_206 => ?_) (fun c_206 => ?_)
                        · exact absurd rfl c_206
                        · refine lv_aload_n hx hb dX8_prove_209 rfl (lv_at hl 0 rfl) ?_
                          refine wg_get F hP f1000w rfl iw_X8 27 (by decide) tb_576 rfl rfl dX8_prove_210 ?_
                          refine lv_iload_n hx hb dX8_prove_213 rfl (lv_at hl 3 rfl) ?_
                          refine wg_zld F hP f1027w (vp_in_nI (by omega) (by decide)) dX8_prove_214 ?_
                          refine wg_topi (y := 1) ((by rw [nI_clamp (by omega)]; exact k3)) ?_
                          refine lv_if_ne (tgt := 229) hx hb dX8_prove_215 (by decide) (fun c_215 => ?_) (fun c_215 => ?_)
                          · refine lv_iconst (v := 1) hx hb dX8_prove_229 (by decide) ?_
                            refine lv_goto (tgt := 234) hx hb dX8_prove_230 (by decide) ?_
                            refine wg_zst F hP hS f1027w (by decide) (vp_in_nI (by omega) (by decide)) dX8_prove_234 (fun H locs hP hS => ?_)
                            obtain ⟨C_234_3, hC_234_3⟩ : ∃ z : wg_C, z = va_up Cw 1027 (some (.inl (E.2.1 2, 16, .inl (upd fz (nI (k / 2)).toNatClampNeg 1)))) := ⟨_, rfl⟩
                            have hP : wg_P E A C_234_3 H := by rw [hC_234_3]; exact hP
                            have f1000w_c234_3 : C_234_3 1000 = some (.inr (8, [.int ns, .ref (A 1001), .int nh, .ref (A 1003), .ref (A 1004), .ref (A 1005), .ref (A 1006), .ref (A 1007), .ref (A 1008), .ref (A 1009), .ref (A 1010), .ref (A 1011), .ref (A 1012), .ref (A 1013), .ref (A 1014), .ref (A 1015), .ref (A 1016), .ref (A 1017), .ref (A 1018), .int (nI i), .int (nI j), .long (lf i), .long (lf j), .int (nI (lc_cnt i j k)), .ref (A 1024), .ref (A 1025), .ref (A 1026), .ref (A 1027), .ref (A 1028)])) := by rw [hC_234_3]; rw [va_up_ne _ _ (by decide)]; exact f1000w
                            have f1018w_c234_3 : C_234_3 1018 = some (.inl (E.2.1 1, 16, .inr (.inl nd))) := by rw [hC_234_3]; rw [va_up_ne _ _ (by decide)]; exact f1018w
                            have f1024w_c234_3 : C_234_3 1024 = some (.inl (E.2.1 0, 4, .inl fn)) := by rw [hC_234_3]; rw [va_up_ne _ _ (by decide)]; exact f1024w
                            have f1025w_c234_3 : C_234_3 1025 = some (.inl (E.2.1 1, 4, .inr (.inl fv))) := by rw [hC_234_3]; rw [va_up_ne _ _ (by decide)]; exact f1025w
                            have f1027w_c234_3 : C_234_3 1027 = some (.inl (E.2.1 2, 16, .inl (upd fz (nI (k / 2)).toNatClampNeg 1))) := by rw [hC_234_3]; exact va_up_self _ _ _
                            have hpkn : ∀ q, 1 ≤ q → q < 16 → (upd fz (nI (k / 2)).toNatClampNeg 1) q = lm_b (lm_pk i j (k - 2) q) := by
                              have hp := lm_pks (show k < 16 by omega) hodd h3 hpk
                              rw [ho] at hp
                              rw [nI_clamp (by omega)]
                              exact hp
                            have mo9 : C_234_3 1000 = some (.inr (8, [.int ns, .ref (A 1001), .int nh, .ref (A 1003), .ref (A 1004), .ref (A 1005), .ref (A 1006), .ref (A 1007), .ref (A 1008), .ref (A 1009), .ref (A 1010), .ref (A 1011), .ref (A 1012), .ref (A 1013), .ref (A 1014), .ref (A 1015), .ref (A 1016), .ref (A 1017), .ref (A 1018), .int (nI i), .int (nI j), .long (lf i), .long (lf j), .int (nI (lc_cnt i j (k - 2))), .ref (A 1024), .ref (A 1025), .ref (A 1026), .ref (A 1027), .ref (A 1028)])) := by rw [hct]; exact f1000w_c234_3
                            have hfnn : ∀ z, z < lc_cnt i j (k - 2) → fn z = nI (lc_nth i j z) := by rw [hct]; exact hfn
                            have hfvn : ∀ z, z < lc_cnt i j (k - 2) → fv z = lc_node lf (lc_nth i j z) := by rw [hct]; exact hfv
                            obtain ⟨x_235, ex_235⟩ : ∃ y : Int32, y = nI k + (-2) := ⟨_, rfl⟩
                            refine lv_iinc (v := x_235) (lv' := [(3, .int x_235), (0, .ref (A 1000)), (1, .int (nI i)), (2, .int (nI j))]) hx hb dX8_prove_235 hl (k := 3) rfl (by rw [ex_235]; rfl) (by decide) rfl (fun ls hl => ?_)
                            refine lv_goto (tgt := 114) hx hb dX8_prove_238 (by decide) ?_
                            exact ih_loop_114 (k - 2) x_235 (upd fz (nI (k / 2)).toNatClampNeg 1) fn fv (by omega) (by omega) (by omega) (by rw [ex_235]; exact lm_m2 (by omega)) hpkn hfnn hfvn C_234_3 mo9 f1018w_c234_3 f1024w_c234_3 f1025w_c234_3 f1027w_c234_3 (fun r h0 h1 h2 h3 h4 => by rw [hC_234_3, va_up_ne _ _ h4, hbase r h0 h1 h2 h3 h4]) _ _ _ hP hS (lv_sub hl [1, 2, 3, 0] rfl)
                          · exact absurd c_215 (by decide)
                      · exact absurd rfl c_133
              exact loop_114 _ 15 15 fz g24 g25 (Nat.lt_succ_self _) (by omega) (by omega) rfl hpk0 (fun z hz => absurd hz (Nat.not_lt_zero z)) (fun z hz => absurd hz (Nat.not_lt_zero z)) C_108 f1000w_c108 f1018w_c108 f1024w_c108 f1025w_c108 f1027w_c108 (fun r h0 h1 h2 h3 h4 => by rw [hC_108, va_up_ne _ _ h0, hC_103, va_up_ne _ _ h0, hC_93, va_up_ne _ _ h0, hC_83, va_up_ne _ _ h0, hC_78, va_up_ne _ _ h0, hbase r h1 h4]) _ _ _ hP hS (lv_sub hl [1, 2, 3, 0] rfl)
            · have hk9 : k < 16 := by rw [show (16 : Int32) = nI 16 from rfl, nI_leI (by decide) (by omega)] at c_40; omega
              refine lv_aload_n hx hb dX8_prove_43 rfl (lv_at hl 0 rfl) ?_
              refine wg_get F hP f1000w rfl iw_X8 27 (by decide) tb_576 rfl rfl dX8_prove_44 ?_
              refine lv_iload_n hx hb dX8_prove_47 rfl (lv_at hl 3 rfl) ?_
              refine lv_iload_n hx hb dX8_prove_48 rfl (lv_at hl 3 rfl) ?_
              refine lv_bipush (v := 8) hx hb dX8_prove_49 (by decide) ?_
              refine lv_iload_n hx hb dX8_prove_51 rfl (lv_at hl 1 rfl) ?_
              refine lv_iadd hx hb dX8_prove_52 ?_
              refine wg_topi (y := nI (8 + i)) (by rw [show (8 : Int32) = nI 8 from rfl, nI_add]) ?_
              refine lv_icmp_eq (tgt := 64) hx hb dX8_prove_53 (by decide) (fun c_53 => ?_) (fun c_53 => ?_)
              · have hv : k = 8 + i ∨ k = 8 + j := Or.inl (by rw [nI_eq (by omega) (by omega)] at c_53; exact c_53)
                refine lv_iconst (v := 1) hx hb dX8_prove_64 (by decide) ?_
                refine lv_goto (tgt := 69) hx hb dX8_prove_65 (by decide) ?_
                refine wg_zst F hP hS f1027w (by decide) (vp_in_nI (by omega) (by decide)) dX8_prove_69 (fun H locs hP hS => ?_)
                obtain ⟨C_69, hC_69⟩ : ∃ z : wg_C, z = va_up Cw 1027 (some (.inl (E.2.1 2, 16, .inl (upd fz (nI k).toNatClampNeg 1)))) := ⟨_, rfl⟩
                have hP : wg_P E A C_69 H := by rw [hC_69]; exact hP
                have f1000w_c69 : C_69 1000 = some (.inr (8, [.int ns, .ref (A 1001), .int nh, .ref (A 1003), .ref (A 1004), .ref (A 1005), .ref (A 1006), .ref (A 1007), .ref (A 1008), .ref (A 1009), .ref (A 1010), .ref (A 1011), .ref (A 1012), .ref (A 1013), .ref (A 1014), .ref (A 1015), .ref (A 1016), .ref (A 1017), .ref (A 1018), .int a0, .int b0, .long va0, .long vb0, .int ct0, .ref (A 1024), .ref (A 1025), .ref (A 1026), .ref (A 1027), .ref (A 1028)])) := by rw [hC_69]; rw [va_up_ne _ _ (by decide)]; exact f1000w
                have f1017w_c69 : C_69 1017 = some (.inl (E.2.1 1, 8, .inr (.inl lf))) := by rw [hC_69]; rw [va_up_ne _ _ (by decide)]; exact f1017w
                have f1018w_c69 : C_69 1018 = some (.inl (E.2.1 1, 16, .inr (.inl nd))) := by rw [hC_69]; rw [va_up_ne _ _ (by decide)]; exact f1018w
                have f1024w_c69 : C_69 1024 = some (.inl (E.2.1 0, 4, .inl g24)) := by rw [hC_69]; rw [va_up_ne _ _ (by decide)]; exact f1024w
                have f1025w_c69 : C_69 1025 = some (.inl (E.2.1 1, 4, .inr (.inl g25))) := by rw [hC_69]; rw [va_up_ne _ _ (by decide)]; exact f1025w
                have f1027w_c69 : C_69 1027 = some (.inl (E.2.1 2, 16, .inl (upd fz (nI k).toNatClampNeg 1))) := by rw [hC_69]; exact va_up_self _ _ _
                have hzn : ∀ q, q < k + 1 → (upd fz (nI k).toNatClampNeg 1) q = (if q = 8 + i ∨ q = 8 + j then 1 else 0) := fun q hq => by
                  rw [nI_clamp (by omega)]
                  by_cases e : q = k
                  · rw [e, pk_us]; first | rw [if_pos hv] | rw [if_neg hv]
                  · rw [pk_un e]; exact hz q (by omega)
                obtain ⟨x_70, ex_70⟩ : ∃ y : Int32, y = nI k + 1 := ⟨_, rfl⟩
                refine lv_iinc (v := x_70) (lv' := [(3, .int x_70), (0, .ref (A 1000)), (1, .int (nI i)), (2, .int (nI j))]) hx hb dX8_prove_70 hl (k := 3) rfl (by rw [ex_70]; rfl) (by decide) rfl (fun ls hl => ?_)
                refine lv_goto (tgt := 37) hx hb dX8_prove_73 (by decide) ?_
                exact ih_loop_37 (k + 1) x_70 (upd fz (nI k).toNatClampNeg 1) (by omega) (by omega) (by rw [ex_70, nI_1]) hzn C_69 f1000w_c69 f1017w_c69 f1018w_c69 f1024w_c69 f1025w_c69 f1027w_c69 (fun r h0 h1 => by rw [hC_69, va_up_ne _ _ h1, hbase r h0 h1]) _ _ _ hP hS (lv_sub hl [1, 2, 3, 0] rfl)
              · have hv1 : ¬ k = 8 + i := by rw [nI_eq (by omega) (by omega)] at c_53; exact c_53
                refine lv_iload_n hx hb dX8_prove_56 rfl (lv_at hl 3 rfl) ?_
                refine lv_bipush (v := 8) hx hb dX8_prove_57 (by decide) ?_
                refine lv_iload_n hx hb dX8_prove_59 rfl (lv_at hl 2 rfl) ?_
                refine lv_iadd hx hb dX8_prove_60 ?_
                refine wg_topi (y := nI (8 + j)) (by rw [show (8 : Int32) = nI 8 from rfl, nI_add]) ?_
                refine lv_icmp_ne (tgt := 68) hx hb dX8_prove_61 (by decide) (fun c_61 => ?_) (fun c_61 => ?_)
                · have hv : ¬ (k = 8 + i ∨ k = 8 + j) := by rw [nI_eq (by omega) (by omega)] at c_61; omega
                  refine lv_iconst (v := 0) hx hb dX8_prove_68 (by decide) ?_
                  refine wg_zst F hP hS f1027w (by decide) (vp_in_nI (by omega) (by decide)) dX8_prove_69 (fun H locs hP hS => ?_)
                  obtain ⟨C_69_1, hC_69_1⟩ : ∃ z : wg_C, z = va_up Cw 1027 (some (.inl (E.2.1 2, 16, .inl (upd fz (nI k).toNatClampNeg 0)))) := ⟨_, rfl⟩
                  have hP : wg_P E A C_69_1 H := by rw [hC_69_1]; exact hP
                  have f1000w_c69_1 : C_69_1 1000 = some (.inr (8, [.int ns, .ref (A 1001), .int nh, .ref (A 1003), .ref (A 1004), .ref (A 1005), .ref (A 1006), .ref (A 1007), .ref (A 1008), .ref (A 1009), .ref (A 1010), .ref (A 1011), .ref (A 1012), .ref (A 1013), .ref (A 1014), .ref (A 1015), .ref (A 1016), .ref (A 1017), .ref (A 1018), .int a0, .int b0, .long va0, .long vb0, .int ct0, .ref (A 1024), .ref (A 1025), .ref (A 1026), .ref (A 1027), .ref (A 1028)])) := by rw [hC_69_1]; rw [va_up_ne _ _ (by decide)]; exact f1000w
                  have f1017w_c69_1 : C_69_1 1017 = some (.inl (E.2.1 1, 8, .inr (.inl lf))) := by rw [hC_69_1]; rw [va_up_ne _ _ (by decide)]; exact f1017w
                  have f1018w_c69_1 : C_69_1 1018 = some (.inl (E.2.1 1, 16, .inr (.inl nd))) := by rw [hC_69_1]; rw [va_up_ne _ _ (by decide)]; exact f1018w
                  have f1024w_c69_1 : C_69_1 1024 = some (.inl (E.2.1 0, 4, .inl g24)) := by rw [hC_69_1]; rw [va_up_ne _ _ (by decide)]; exact f1024w
                  have f1025w_c69_1 : C_69_1 1025 = some (.inl (E.2.1 1, 4, .inr (.inl g25))) := by rw [hC_69_1]; rw [va_up_ne _ _ (by decide)]; exact f1025w
                  have f1027w_c69_1 : C_69_1 1027 = some (.inl (E.2.1 2, 16, .inl (upd fz (nI k).toNatClampNeg 0))) := by rw [hC_69_1]; exact va_up_self _ _ _
                  have hzn : ∀ q, q < k + 1 → (upd fz (nI k).toNatClampNeg 0) q = (if q = 8 + i ∨ q = 8 + j then 1 else 0) := fun q hq => by
                    rw [nI_clamp (by omega)]
                    by_cases e : q = k
                    · rw [e, pk_us]; first | rw [if_pos hv] | rw [if_neg hv]
                    · rw [pk_un e]; exact hz q (by omega)
                  obtain ⟨x_70, ex_70⟩ : ∃ y : Int32, y = nI k + 1 := ⟨_, rfl⟩
                  refine lv_iinc (v := x_70) (lv' := [(3, .int x_70), (0, .ref (A 1000)), (1, .int (nI i)), (2, .int (nI j))]) hx hb dX8_prove_70 hl (k := 3) rfl (by rw [ex_70]; rfl) (by decide) rfl (fun ls hl => ?_)
                  refine lv_goto (tgt := 37) hx hb dX8_prove_73 (by decide) ?_
                  exact ih_loop_37 (k + 1) x_70 (upd fz (nI k).toNatClampNeg 0) (by omega) (by omega) (by rw [ex_70, nI_1]) hzn C_69_1 f1000w_c69_1 f1017w_c69_1 f1018w_c69_1 f1024w_c69_1 f1025w_c69_1 f1027w_c69_1 (fun r h0 h1 => by rw [hC_69_1, va_up_ne _ _ h1, hbase r h0 h1]) _ _ _ hP hS (lv_sub hl [1, 2, 3, 0] rfl)
                · have hv : k = 8 + i ∨ k = 8 + j := Or.inr (by rw [nI_eq (by omega) (by omega)] at c_61; exact c_61)
                  refine lv_iconst (v := 1) hx hb dX8_prove_64 (by decide) ?_
                  refine lv_goto (tgt := 69) hx hb dX8_prove_65 (by decide) ?_
                  refine wg_zst F hP hS f1027w (by decide) (vp_in_nI (by omega) (by decide)) dX8_prove_69 (fun H locs hP hS => ?_)
                  obtain ⟨C_69_2, hC_69_2⟩ : ∃ z : wg_C, z = va_up Cw 1027 (some (.inl (E.2.1 2, 16, .inl (upd fz (nI k).toNatClampNeg 1)))) := ⟨_, rfl⟩
                  have hP : wg_P E A C_69_2 H := by rw [hC_69_2]; exact hP
                  have f1000w_c69_2 : C_69_2 1000 = some (.inr (8, [.int ns, .ref (A 1001), .int nh, .ref (A 1003), .ref (A 1004), .ref (A 1005), .ref (A 1006), .ref (A 1007), .ref (A 1008), .ref (A 1009), .ref (A 1010), .ref (A 1011), .ref (A 1012), .ref (A 1013), .ref (A 1014), .ref (A 1015), .ref (A 1016), .ref (A 1017), .ref (A 1018), .int a0, .int b0, .long va0, .long vb0, .int ct0, .ref (A 1024), .ref (A 1025), .ref (A 1026), .ref (A 1027), .ref (A 1028)])) := by rw [hC_69_2]; rw [va_up_ne _ _ (by decide)]; exact f1000w
                  have f1017w_c69_2 : C_69_2 1017 = some (.inl (E.2.1 1, 8, .inr (.inl lf))) := by rw [hC_69_2]; rw [va_up_ne _ _ (by decide)]; exact f1017w
                  have f1018w_c69_2 : C_69_2 1018 = some (.inl (E.2.1 1, 16, .inr (.inl nd))) := by rw [hC_69_2]; rw [va_up_ne _ _ (by decide)]; exact f1018w
                  have f1024w_c69_2 : C_69_2 1024 = some (.inl (E.2.1 0, 4, .inl g24)) := by rw [hC_69_2]; rw [va_up_ne _ _ (by decide)]; exact f1024w
                  have f1025w_c69_2 : C_69_2 1025 = some (.inl (E.2.1 1, 4, .inr (.inl g25))) := by rw [hC_69_2]; rw [va_up_ne _ _ (by decide)]; exact f1025w
                  have f1027w_c69_2 : C_69_2 1027 = some (.inl (E.2.1 2, 16, .inl (upd fz (nI k).toNatClampNeg 1))) := by rw [hC_69_2]; exact va_up_self _ _ _
                  have hzn : ∀ q, q < k + 1 → (upd fz (nI k).toNatClampNeg 1) q = (if q = 8 + i ∨ q = 8 + j then 1 else 0) := fun q hq => by
                    rw [nI_clamp (by omega)]
                    by_cases e : q = k
                    · rw [e, pk_us]; first | rw [if_pos hv] | rw [if_neg hv]
                    · rw [pk_un e]; exact hz q (by omega)
                  obtain ⟨x_70, ex_70⟩ : ∃ y : Int32, y = nI k + 1 := ⟨_, rfl⟩
                  refine lv_iinc (v := x_70) (lv' := [(3, .int x_70), (0, .ref (A 1000)), (1, .int (nI i)), (2, .int (nI j))]) hx hb dX8_prove_70 hl (k := 3) rfl (by rw [ex_70]; rfl) (by decide) rfl (fun ls hl => ?_)
                  refine lv_goto (tgt := 37) hx hb dX8_prove_73 (by decide) ?_
                  exact ih_loop_37 (k + 1) x_70 (upd fz (nI k).toNatClampNeg 1) (by omega) (by omega) (by rw [ex_70, nI_1]) hzn C_69_2 f1000w_c69_2 f1017w_c69_2 f1018w_c69_2 f1024w_c69_2 f1025w_c69_2 f1027w_c69_2 (fun r h0 h1 => by rw [hC_69_2, va_up_ne _ _ h1, hbase r h0 h1]) _ _ _ hP hS (lv_sub hl [1, 2, 3, 0] rfl)
        exact loop_37 _ 0 0 g27 (Nat.lt_succ_self _) (by omega) rfl (fun q hq => absurd hq (Nat.not_lt_zero _)) C_32 f1000_c32 f1017_c32 f1018_c32 f1024_c32 f1025_c32 f1027_c32 (fun r h0 _ => hfr_32 r h0) _ _ _ hP hS (lv_sub hl [1, 2, 3, 0] rfl)
      · exact absurd c_26 (by rw [nI_eq (by omega) (by omega)]; exact hij)
theorem lm_small1 {q k : Nat} (h : q ≤ 1000) (hk : 1001 ≤ k) : q ≠ k := by omega
theorem lm_small {q k : Nat} (h : q < 1000) (hk : 1000 ≤ k) : q ≠ k := by omega
theorem lm_m2x {f : Nat → Int32} : ∀ i, i < 4 → upd (upd (upd (upd f 0 (-2)) 1 (-2)) 2 (-2)) 3 (-2) i = (-2 : Int32) := by
  intro i hi
  rcases (show i = 0 ∨ i = 1 ∨ i = 2 ∨ i = 3 by omega) with rfl | rfl | rfl | rfl <;> rfl
set_option maxHeartbeats 4000000 in
set_option maxRecDepth 100000 in
theorem c_X8_init (l : Launch) (E : wg_E) (A : Nat → Nat) (C : wg_C)   (f1000 : C 1000 = some (.inr (8, [.int 0, .null, .int 0, .null, .null, .null, .null, .null, .null, .null, .null, .null, .null, .null, .null, .null, .null, .null, .null, .int 0, .int 0, .long 0, .long 0, .int 0, .null, .null, .null, .null, .null]))) : Met l yX8_init (wg_ws yX8_init cX8_init 2 none) (wg_rm 4 40 1000) (wg_Pc E A C [.ref (A 1000)]) (wg_Qv E (fun A1 C1 => (∀ q, q ≤ 1000 → A1 q = A q) ∧ (∀ q, q < 1000 → C1 q = C q) ∧ lm E A1 C1 st_0)) 40 1000 (wg_A E) := by
  refine wg_met (by decide) (Nat.le_of_ble_eq_true rfl) ?_
  intro p e s m below meth c ls F hr hlk hnm hP hS hl
  have F : wg_F p m c cX8_init 2 s ([.ref (A 1000)] : List Value).toArray "LightChecksModel" E := F
  have hx := F.1
  have hb := F.2.1
  have hml := F.2.2.1
  have hown := F.2.2.2.1
  have hts := F.2.2.2.2.1
  have hl : lv_has ls 2 [(0, .ref (A 1000))] := hl
  have hnm : meth.name = "<init>" := hnm
  refine lv_aload_n hx hb dX8_init_0 rfl (lv_at hl 0 rfl) ?_
  refine W.objInit hx hb hown (hts _ tb_526) (hts _ tb_17) (hts _ tb_18) rfl (by rw [hml]; exact hl.1) rfl dX8_init_1 (Nat.le_of_ble_eq_true rfl) (Nat.le_of_ble_eq_true rfl) ?_
  refine W.eq (g2 := F0 m 4 ls []) rfl ?_
  refine lv_aload_n hx hb dX8_init_4 rfl (lv_at hl 0 rfl) ?_
  refine lv_sipush (v := 160) hx hb dX8_init_5 (by decide) ?_
  refine wg_newaF (atype := .int) (a0 := (160, .inl (fun _ => 0))) F hP hS 1001 0 rfl (fun _ _ h => h) tb_74 (fun _ => rfl) (by decide) (by decide) (by decide) (Nat.le_of_ble_eq_true rfl) (Nat.le_of_ble_eq_true rfl) dX8_init_8 (fun q_8 H hP hS => ?_)
  obtain ⟨A_8, hA_8⟩ : ∃ z : Nat → Nat, z = va_up A 1001 q_8 := ⟨_, rfl⟩
  obtain ⟨C_8, hC_8⟩ : ∃ z : wg_C, z = va_up C 1001 (some (.inl (E.2.1 0, 160, .inl (fun _ => 0)))) := ⟨_, rfl⟩
  have hP : wg_P E A_8 C_8 H := by rw [hA_8, hC_8]; exact hP
  have an_8 : q_8 = A_8 1001 := by rw [hA_8]; exact (va_up_self _ _ _).symm
  have am_8_0 : A_8 1000 = A 1000 := by rw [hA_8]; rw [va_up_ne _ _ (by decide)]
  have f1000_c8 : C_8 1000 = some (.inr (8, [.int 0, .null, .int 0, .null, .null, .null, .null, .null, .null, .null, .null, .null, .null, .null, .null, .null, .null, .null, .null, .int 0, .int 0, .long 0, .long 0, .int 0, .null, .null, .null, .null, .null])) := by rw [hC_8]; rw [va_up_ne _ _ (by decide)]; exact f1000
  have f1001_c8 : C_8 1001 = some (.inl (E.2.1 0, 160, .inl (fun _ => 0))) := by rw [hC_8]; exact va_up_self _ _ _
  have hl : lv_has ls 2 [(0, .ref (A_8 1000))] := by rw [am_8_0]; exact hl
  refine W.eq (g2 := F0 m 10 ls [.ref (A_8 1001), .ref (A_8 1000)]) (by rw [← an_8, am_8_0]) ?_
  clear am_8_0 an_8
  refine wg_putF F hnm hP hS f1000_c8 rfl iw_X8 tyX8_ok nmX8 1 (by decide) tb_550 rfl rfl rfl (Nat.le_of_ble_eq_true rfl) dX8_init_10 (fun H locs hP hS => ?_)
  obtain ⟨C_10, hC_10⟩ : ∃ z : wg_C, z = va_up C_8 1000 (some (.inr (8, [.int 0, .ref (A_8 1001), .int 0, .null, .null, .null, .null, .null, .null, .null, .null, .null, .null, .null, .null, .null, .null, .null, .null, .int 0, .int 0, .long 0, .long 0, .int 0, .null, .null, .null, .null, .null]))) := ⟨_, rfl⟩
  have hP : wg_P E A_8 C_10 H := by rw [hC_10]; exact hP
  have f1000_c10 : C_10 1000 = some (.inr (8, [.int 0, .ref (A_8 1001), .int 0, .null, .null, .null, .null, .null, .null, .null, .null, .null, .null, .null, .null, .null, .null, .null, .null, .int 0, .int 0, .long 0, .long 0, .int 0, .null, .null, .null, .null, .null])) := by rw [hC_10]; exact va_up_self _ _ _
  have f1001_c10 : C_10 1001 = some (.inl (E.2.1 0, 160, .inl (fun _ => 0))) := by rw [hC_10]; rw [va_up_ne _ _ (by decide)]; exact f1001_c8
  refine lv_aload_n hx hb dX8_init_13 rfl (lv_at hl 0 rfl) ?_
  refine lv_bipush (v := 60) hx hb dX8_init_14 (by decide) ?_
  refine wg_newaF (atype := .int) (a0 := (60, .inl (fun _ => 0))) F hP hS 1003 0 rfl (fun _ _ h => h) tb_74 (fun _ => rfl) (by decide) (by decide) (by decide) (Nat.le_of_ble_eq_true rfl) (Nat.le_of_ble_eq_true rfl) dX8_init_16 (fun q_16 H hP hS => ?_)
  obtain ⟨A_16, hA_16⟩ : ∃ z : Nat → Nat, z = va_up A_8 1003 q_16 := ⟨_, rfl⟩
  obtain ⟨C_16, hC_16⟩ : ∃ z : wg_C, z = va_up C_10 1003 (some (.inl (E.2.1 0, 60, .inl (fun _ => 0)))) := ⟨_, rfl⟩
  have hP : wg_P E A_16 C_16 H := by rw [hA_16, hC_16]; exact hP
  have an_16 : q_16 = A_16 1003 := by rw [hA_16]; exact (va_up_self _ _ _).symm
  have am_16_0 : A_16 1000 = A_8 1000 := by rw [hA_16]; rw [va_up_ne _ _ (by decide)]
  have am_16_1 : A_16 1001 = A_8 1001 := by rw [hA_16]; rw [va_up_ne _ _ (by decide)]
  have f1000_c16 : C_16 1000 = some (.inr (8, [.int 0, .ref (A_16 1001), .int 0, .null, .null, .null, .null, .null, .null, .null, .null, .null, .null, .null, .null, .null, .null, .null, .null, .int 0, .int 0, .long 0, .long 0, .int 0, .null, .null, .null, .null, .null])) := by rw [hC_16]; rw [va_up_ne _ _ (by decide)]; rw [am_16_1]; exact f1000_c10
  have f1001_c16 : C_16 1001 = some (.inl (E.2.1 0, 160, .inl (fun _ => 0))) := by rw [hC_16]; rw [va_up_ne _ _ (by decide)]; exact f1001_c10
  have f1003_c16 : C_16 1003 = some (.inl (E.2.1 0, 60, .inl (fun _ => 0))) := by rw [hC_16]; exact va_up_self _ _ _
  have hl : lv_has ls 2 [(0, .ref (A_16 1000))] := by rw [am_16_0]; exact hl
  refine W.eq (g2 := F0 m 18 ls [.ref (A_16 1003), .ref (A_16 1000)]) (by rw [← an_16, am_16_0]) ?_
  clear am_16_0 am_16_1 an_16
  refine wg_putF F hnm hP hS f1000_c16 rfl iw_X8 tyX8_ok nmX8 3 (by decide) tb_552 rfl rfl rfl (Nat.le_of_ble_eq_true rfl) dX8_init_18 (fun H locs hP hS => ?_)
  obtain ⟨C_18, hC_18⟩ : ∃ z : wg_C, z = va_up C_16 1000 (some (.inr (8, [.int 0, .ref (A_16 1001), .int 0, .ref (A_16 1003), .null, .null, .null, .null, .null, .null, .null, .null, .null, .null, .null, .null, .null, .null, .null, .int 0, .int 0, .long 0, .long 0, .int 0, .null, .null, .null, .null, .null]))) := ⟨_, rfl⟩
  have hP : wg_P E A_16 C_18 H := by rw [hC_18]; exact hP
  have f1000_c18 : C_18 1000 = some (.inr (8, [.int 0, .ref (A_16 1001), .int 0, .ref (A_16 1003), .null, .null, .null, .null, .null, .null, .null, .null, .null, .null, .null, .null, .null, .null, .null, .int 0, .int 0, .long 0, .long 0, .int 0, .null, .null, .null, .null, .null])) := by rw [hC_18]; exact va_up_self _ _ _
  have f1001_c18 : C_18 1001 = some (.inl (E.2.1 0, 160, .inl (fun _ => 0))) := by rw [hC_18]; rw [va_up_ne _ _ (by decide)]; exact f1001_c16
  have f1003_c18 : C_18 1003 = some (.inl (E.2.1 0, 60, .inl (fun _ => 0))) := by rw [hC_18]; rw [va_up_ne _ _ (by decide)]; exact f1003_c16
  refine lv_aload_n hx hb dX8_init_21 rfl (lv_at hl 0 rfl) ?_
  refine lv_bipush (v := 60) hx hb dX8_init_22 (by decide) ?_
  refine wg_newaF (atype := .long) (a0 := (60, .inr (.inl (fun _ => 0)))) F hP hS 1004 1 rfl (fun _ _ h => h) tb_75 (fun _ => rfl) (by decide) (by decide) (by decide) (Nat.le_of_ble_eq_true rfl) (Nat.le_of_ble_eq_true rfl) dX8_init_24 (fun q_24 H hP hS => ?_)
  obtain ⟨A_24, hA_24⟩ : ∃ z : Nat → Nat, z = va_up A_16 1004 q_24 := ⟨_, rfl⟩
  obtain ⟨C_24, hC_24⟩ : ∃ z : wg_C, z = va_up C_18 1004 (some (.inl (E.2.1 1, 60, .inr (.inl (fun _ => 0))))) := ⟨_, rfl⟩
  have hP : wg_P E A_24 C_24 H := by rw [hA_24, hC_24]; exact hP
  have an_24 : q_24 = A_24 1004 := by rw [hA_24]; exact (va_up_self _ _ _).symm
  have am_24_0 : A_24 1000 = A_16 1000 := by rw [hA_24]; rw [va_up_ne _ _ (by decide)]
  have am_24_1 : A_24 1001 = A_16 1001 := by rw [hA_24]; rw [va_up_ne _ _ (by decide)]
  have am_24_2 : A_24 1003 = A_16 1003 := by rw [hA_24]; rw [va_up_ne _ _ (by decide)]
  have f1000_c24 : C_24 1000 = some (.inr (8, [.int 0, .ref (A_24 1001), .int 0, .ref (A_24 1003), .null, .null, .null, .null, .null, .null, .null, .null, .null, .null, .null, .null, .null, .null, .null, .int 0, .int 0, .long 0, .long 0, .int 0, .null, .null, .null, .null, .null])) := by rw [hC_24]; rw [va_up_ne _ _ (by decide)]; rw [am_24_1, am_24_2]; exact f1000_c18
  have f1001_c24 : C_24 1001 = some (.inl (E.2.1 0, 160, .inl (fun _ => 0))) := by rw [hC_24]; rw [va_up_ne _ _ (by decide)]; exact f1001_c18
  have f1003_c24 : C_24 1003 = some (.inl (E.2.1 0, 60, .inl (fun _ => 0))) := by rw [hC_24]; rw [va_up_ne _ _ (by decide)]; exact f1003_c18
  have f1004_c24 : C_24 1004 = some (.inl (E.2.1 1, 60, .inr (.inl (fun _ => 0)))) := by rw [hC_24]; exact va_up_self _ _ _
  have hl : lv_has ls 2 [(0, .ref (A_24 1000))] := by rw [am_24_0]; exact hl
  refine W.eq (g2 := F0 m 26 ls [.ref (A_24 1004), .ref (A_24 1000)]) (by rw [← an_24, am_24_0]) ?_
  clear am_24_0 am_24_1 am_24_2 an_24
  refine wg_putF F hnm hP hS f1000_c24 rfl iw_X8 tyX8_ok nmX8 4 (by decide) tb_553 rfl rfl rfl (Nat.le_of_ble_eq_true rfl) dX8_init_26 (fun H locs hP hS => ?_)
  obtain ⟨C_26, hC_26⟩ : ∃ z : wg_C, z = va_up C_24 1000 (some (.inr (8, [.int 0, .ref (A_24 1001), .int 0, .ref (A_24 1003), .ref (A_24 1004), .null, .null, .null, .null, .null, .null, .null, .null, .null, .null, .null, .null, .null, .null, .int 0, .int 0, .long 0, .long 0, .int 0, .null, .null, .null, .null, .null]))) := ⟨_, rfl⟩
  have hP : wg_P E A_24 C_26 H := by rw [hC_26]; exact hP
  have f1000_c26 : C_26 1000 = some (.inr (8, [.int 0, .ref (A_24 1001), .int 0, .ref (A_24 1003), .ref (A_24 1004), .null, .null, .null, .null, .null, .null, .null, .null, .null, .null, .null, .null, .null, .null, .int 0, .int 0, .long 0, .long 0, .int 0, .null, .null, .null, .null, .null])) := by rw [hC_26]; exact va_up_self _ _ _
  have f1001_c26 : C_26 1001 = some (.inl (E.2.1 0, 160, .inl (fun _ => 0))) := by rw [hC_26]; rw [va_up_ne _ _ (by decide)]; exact f1001_c24
  have f1003_c26 : C_26 1003 = some (.inl (E.2.1 0, 60, .inl (fun _ => 0))) := by rw [hC_26]; rw [va_up_ne _ _ (by decide)]; exact f1003_c24
  have f1004_c26 : C_26 1004 = some (.inl (E.2.1 1, 60, .inr (.inl (fun _ => 0)))) := by rw [hC_26]; rw [va_up_ne _ _ (by decide)]; exact f1004_c24
  refine lv_aload_n hx hb dX8_init_29 rfl (lv_at hl 0 rfl) ?_
  refine lv_bipush (v := 60) hx hb dX8_init_30 (by decide) ?_
  refine wg_newaF (atype := .int) (a0 := (60, .inl (fun _ => 0))) F hP hS 1005 0 rfl (fun _ _ h => h) tb_74 (fun _ => rfl) (by decide) (by decide) (by decide) (Nat.le_of_ble_eq_true rfl) (Nat.le_of_ble_eq_true rfl) dX8_init_32 (fun q_32 H hP hS => ?_)
  obtain ⟨A_32, hA_32⟩ : ∃ z : Nat → Nat, z = va_up A_24 1005 q_32 := ⟨_, rfl⟩
  obtain ⟨C_32, hC_32⟩ : ∃ z : wg_C, z = va_up C_26 1005 (some (.inl (E.2.1 0, 60, .inl (fun _ => 0)))) := ⟨_, rfl⟩
  have hP : wg_P E A_32 C_32 H := by rw [hA_32, hC_32]; exact hP
  have an_32 : q_32 = A_32 1005 := by rw [hA_32]; exact (va_up_self _ _ _).symm
  have am_32_0 : A_32 1000 = A_24 1000 := by rw [hA_32]; rw [va_up_ne _ _ (by decide)]
  have am_32_1 : A_32 1001 = A_24 1001 := by rw [hA_32]; rw [va_up_ne _ _ (by decide)]
  have am_32_2 : A_32 1003 = A_24 1003 := by rw [hA_32]; rw [va_up_ne _ _ (by decide)]
  have am_32_3 : A_32 1004 = A_24 1004 := by rw [hA_32]; rw [va_up_ne _ _ (by decide)]
  have f1000_c32 : C_32 1000 = some (.inr (8, [.int 0, .ref (A_32 1001), .int 0, .ref (A_32 1003), .ref (A_32 1004), .null, .null, .null, .null, .null, .null, .null, .null, .null, .null, .null, .null, .null, .null, .int 0, .int 0, .long 0, .long 0, .int 0, .null, .null, .null, .null, .null])) := by rw [hC_32]; rw [va_up_ne _ _ (by decide)]; rw [am_32_1, am_32_2, am_32_3]; exact f1000_c26
  have f1001_c32 : C_32 1001 = some (.inl (E.2.1 0, 160, .inl (fun _ => 0))) := by rw [hC_32]; rw [va_up_ne _ _ (by decide)]; exact f1001_c26
  have f1003_c32 : C_32 1003 = some (.inl (E.2.1 0, 60, .inl (fun _ => 0))) := by rw [hC_32]; rw [va_up_ne _ _ (by decide)]; exact f1003_c26
  have f1004_c32 : C_32 1004 = some (.inl (E.2.1 1, 60, .inr (.inl (fun _ => 0)))) := by rw [hC_32]; rw [va_up_ne _ _ (by decide)]; exact f1004_c26
  have f1005_c32 : C_32 1005 = some (.inl (E.2.1 0, 60, .inl (fun _ => 0))) := by rw [hC_32]; exact va_up_self _ _ _
  have hl : lv_has ls 2 [(0, .ref (A_32 1000))] := by rw [am_32_0]; exact hl
  refine W.eq (g2 := F0 m 34 ls [.ref (A_32 1005), .ref (A_32 1000)]) (by rw [← an_32, am_32_0]) ?_
  clear am_32_0 am_32_1 am_32_2 am_32_3 an_32
  refine wg_putF F hnm hP hS f1000_c32 rfl iw_X8 tyX8_ok nmX8 5 (by decide) tb_554 rfl rfl rfl (Nat.le_of_ble_eq_true rfl) dX8_init_34 (fun H locs hP hS => ?_)
  obtain ⟨C_34, hC_34⟩ : ∃ z : wg_C, z = va_up C_32 1000 (some (.inr (8, [.int 0, .ref (A_32 1001), .int 0, .ref (A_32 1003), .ref (A_32 1004), .ref (A_32 1005), .null, .null, .null, .null, .null, .null, .null, .null, .null, .null, .null, .null, .null, .int 0, .int 0, .long 0, .long 0, .int 0, .null, .null, .null, .null, .null]))) := ⟨_, rfl⟩
  have hP : wg_P E A_32 C_34 H := by rw [hC_34]; exact hP
  have f1000_c34 : C_34 1000 = some (.inr (8, [.int 0, .ref (A_32 1001), .int 0, .ref (A_32 1003), .ref (A_32 1004), .ref (A_32 1005), .null, .null, .null, .null, .null, .null, .null, .null, .null, .null, .null, .null, .null, .int 0, .int 0, .long 0, .long 0, .int 0, .null, .null, .null, .null, .null])) := by rw [hC_34]; exact va_up_self _ _ _
  have f1001_c34 : C_34 1001 = some (.inl (E.2.1 0, 160, .inl (fun _ => 0))) := by rw [hC_34]; rw [va_up_ne _ _ (by decide)]; exact f1001_c32
  have f1003_c34 : C_34 1003 = some (.inl (E.2.1 0, 60, .inl (fun _ => 0))) := by rw [hC_34]; rw [va_up_ne _ _ (by decide)]; exact f1003_c32
  have f1004_c34 : C_34 1004 = some (.inl (E.2.1 1, 60, .inr (.inl (fun _ => 0)))) := by rw [hC_34]; rw [va_up_ne _ _ (by decide)]; exact f1004_c32
  have f1005_c34 : C_34 1005 = some (.inl (E.2.1 0, 60, .inl (fun _ => 0))) := by rw [hC_34]; rw [va_up_ne _ _ (by decide)]; exact f1005_c32
  refine lv_aload_n hx hb dX8_init_37 rfl (lv_at hl 0 rfl) ?_
  refine lv_bipush (v := 60) hx hb dX8_init_38 (by decide) ?_
  refine wg_newaF (atype := .int) (a0 := (60, .inl (fun _ => 0))) F hP hS 1006 0 rfl (fun _ _ h => h) tb_74 (fun _ => rfl) (by decide) (by decide) (by decide) (Nat.le_of_ble_eq_true rfl) (Nat.le_of_ble_eq_true rfl) dX8_init_40 (fun q_40 H hP hS => ?_)
  obtain ⟨A_40, hA_40⟩ : ∃ z : Nat → Nat, z = va_up A_32 1006 q_40 := ⟨_, rfl⟩
  obtain ⟨C_40, hC_40⟩ : ∃ z : wg_C, z = va_up C_34 1006 (some (.inl (E.2.1 0, 60, .inl (fun _ => 0)))) := ⟨_, rfl⟩
  have hP : wg_P E A_40 C_40 H := by rw [hA_40, hC_40]; exact hP
  have an_40 : q_40 = A_40 1006 := by rw [hA_40]; exact (va_up_self _ _ _).symm
  have am_40_0 : A_40 1000 = A_32 1000 := by rw [hA_40]; rw [va_up_ne _ _ (by decide)]
  have am_40_1 : A_40 1001 = A_32 1001 := by rw [hA_40]; rw [va_up_ne _ _ (by decide)]
  have am_40_2 : A_40 1003 = A_32 1003 := by rw [hA_40]; rw [va_up_ne _ _ (by decide)]
  have am_40_3 : A_40 1004 = A_32 1004 := by rw [hA_40]; rw [va_up_ne _ _ (by decide)]
  have am_40_4 : A_40 1005 = A_32 1005 := by rw [hA_40]; rw [va_up_ne _ _ (by decide)]
  have f1000_c40 : C_40 1000 = some (.inr (8, [.int 0, .ref (A_40 1001), .int 0, .ref (A_40 1003), .ref (A_40 1004), .ref (A_40 1005), .null, .null, .null, .null, .null, .null, .null, .null, .null, .null, .null, .null, .null, .int 0, .int 0, .long 0, .long 0, .int 0, .null, .null, .null, .null, .null])) := by rw [hC_40]; rw [va_up_ne _ _ (by decide)]; rw [am_40_1, am_40_2, am_40_3, am_40_4]; exact f1000_c34
  have f1001_c40 : C_40 1001 = some (.inl (E.2.1 0, 160, .inl (fun _ => 0))) := by rw [hC_40]; rw [va_up_ne _ _ (by decide)]; exact f1001_c34
  have f1003_c40 : C_40 1003 = some (.inl (E.2.1 0, 60, .inl (fun _ => 0))) := by rw [hC_40]; rw [va_up_ne _ _ (by decide)]; exact f1003_c34
  have f1004_c40 : C_40 1004 = some (.inl (E.2.1 1, 60, .inr (.inl (fun _ => 0)))) := by rw [hC_40]; rw [va_up_ne _ _ (by decide)]; exact f1004_c34
  have f1005_c40 : C_40 1005 = some (.inl (E.2.1 0, 60, .inl (fun _ => 0))) := by rw [hC_40]; rw [va_up_ne _ _ (by decide)]; exact f1005_c34
  have f1006_c40 : C_40 1006 = some (.inl (E.2.1 0, 60, .inl (fun _ => 0))) := by rw [hC_40]; exact va_up_self _ _ _
  have hl : lv_has ls 2 [(0, .ref (A_40 1000))] := by rw [am_40_0]; exact hl
  refine W.eq (g2 := F0 m 42 ls [.ref (A_40 1006), .ref (A_40 1000)]) (by rw [← an_40, am_40_0]) ?_
  clear am_40_0 am_40_1 am_40_2 am_40_3 am_40_4 an_40
  refine wg_putF F hnm hP hS f1000_c40 rfl iw_X8 tyX8_ok nmX8 6 (by decide) tb_555 rfl rfl rfl (Nat.le_of_ble_eq_true rfl) dX8_init_42 (fun H locs hP hS => ?_)
  obtain ⟨C_42, hC_42⟩ : ∃ z : wg_C, z = va_up C_40 1000 (some (.inr (8, [.int 0, .ref (A_40 1001), .int 0, .ref (A_40 1003), .ref (A_40 1004), .ref (A_40 1005), .ref (A_40 1006), .null, .null, .null, .null, .null, .null, .null, .null, .null, .null, .null, .null, .int 0, .int 0, .long 0, .long 0, .int 0, .null, .null, .null, .null, .null]))) := ⟨_, rfl⟩
  have hP : wg_P E A_40 C_42 H := by rw [hC_42]; exact hP
  have f1000_c42 : C_42 1000 = some (.inr (8, [.int 0, .ref (A_40 1001), .int 0, .ref (A_40 1003), .ref (A_40 1004), .ref (A_40 1005), .ref (A_40 1006), .null, .null, .null, .null, .null, .null, .null, .null, .null, .null, .null, .null, .int 0, .int 0, .long 0, .long 0, .int 0, .null, .null, .null, .null, .null])) := by rw [hC_42]; exact va_up_self _ _ _
  have f1001_c42 : C_42 1001 = some (.inl (E.2.1 0, 160, .inl (fun _ => 0))) := by rw [hC_42]; rw [va_up_ne _ _ (by decide)]; exact f1001_c40
  have f1003_c42 : C_42 1003 = some (.inl (E.2.1 0, 60, .inl (fun _ => 0))) := by rw [hC_42]; rw [va_up_ne _ _ (by decide)]; exact f1003_c40
  have f1004_c42 : C_42 1004 = some (.inl (E.2.1 1, 60, .inr (.inl (fun _ => 0)))) := by rw [hC_42]; rw [va_up_ne _ _ (by decide)]; exact f1004_c40
  have f1005_c42 : C_42 1005 = some (.inl (E.2.1 0, 60, .inl (fun _ => 0))) := by rw [hC_42]; rw [va_up_ne _ _ (by decide)]; exact f1005_c40
  have f1006_c42 : C_42 1006 = some (.inl (E.2.1 0, 60, .inl (fun _ => 0))) := by rw [hC_42]; rw [va_up_ne _ _ (by decide)]; exact f1006_c40
  refine lv_aload_n hx hb dX8_init_45 rfl (lv_at hl 0 rfl) ?_
  refine lv_bipush (v := 60) hx hb dX8_init_46 (by decide) ?_
  refine wg_newaF (atype := .long) (a0 := (60, .inr (.inl (fun _ => 0)))) F hP hS 1007 1 rfl (fun _ _ h => h) tb_75 (fun _ => rfl) (by decide) (by decide) (by decide) (Nat.le_of_ble_eq_true rfl) (Nat.le_of_ble_eq_true rfl) dX8_init_48 (fun q_48 H hP hS => ?_)
  obtain ⟨A_48, hA_48⟩ : ∃ z : Nat → Nat, z = va_up A_40 1007 q_48 := ⟨_, rfl⟩
  obtain ⟨C_48, hC_48⟩ : ∃ z : wg_C, z = va_up C_42 1007 (some (.inl (E.2.1 1, 60, .inr (.inl (fun _ => 0))))) := ⟨_, rfl⟩
  have hP : wg_P E A_48 C_48 H := by rw [hA_48, hC_48]; exact hP
  have an_48 : q_48 = A_48 1007 := by rw [hA_48]; exact (va_up_self _ _ _).symm
  have am_48_0 : A_48 1000 = A_40 1000 := by rw [hA_48]; rw [va_up_ne _ _ (by decide)]
  have am_48_1 : A_48 1001 = A_40 1001 := by rw [hA_48]; rw [va_up_ne _ _ (by decide)]
  have am_48_2 : A_48 1003 = A_40 1003 := by rw [hA_48]; rw [va_up_ne _ _ (by decide)]
  have am_48_3 : A_48 1004 = A_40 1004 := by rw [hA_48]; rw [va_up_ne _ _ (by decide)]
  have am_48_4 : A_48 1005 = A_40 1005 := by rw [hA_48]; rw [va_up_ne _ _ (by decide)]
  have am_48_5 : A_48 1006 = A_40 1006 := by rw [hA_48]; rw [va_up_ne _ _ (by decide)]
  have f1000_c48 : C_48 1000 = some (.inr (8, [.int 0, .ref (A_48 1001), .int 0, .ref (A_48 1003), .ref (A_48 1004), .ref (A_48 1005), .ref (A_48 1006), .null, .null, .null, .null, .null, .null, .null, .null, .null, .null, .null, .null, .int 0, .int 0, .long 0, .long 0, .int 0, .null, .null, .null, .null, .null])) := by rw [hC_48]; rw [va_up_ne _ _ (by decide)]; rw [am_48_1, am_48_2, am_48_3, am_48_4, am_48_5]; exact f1000_c42
  have f1001_c48 : C_48 1001 = some (.inl (E.2.1 0, 160, .inl (fun _ => 0))) := by rw [hC_48]; rw [va_up_ne _ _ (by decide)]; exact f1001_c42
  have f1003_c48 : C_48 1003 = some (.inl (E.2.1 0, 60, .inl (fun _ => 0))) := by rw [hC_48]; rw [va_up_ne _ _ (by decide)]; exact f1003_c42
  have f1004_c48 : C_48 1004 = some (.inl (E.2.1 1, 60, .inr (.inl (fun _ => 0)))) := by rw [hC_48]; rw [va_up_ne _ _ (by decide)]; exact f1004_c42
  have f1005_c48 : C_48 1005 = some (.inl (E.2.1 0, 60, .inl (fun _ => 0))) := by rw [hC_48]; rw [va_up_ne _ _ (by decide)]; exact f1005_c42
  have f1006_c48 : C_48 1006 = some (.inl (E.2.1 0, 60, .inl (fun _ => 0))) := by rw [hC_48]; rw [va_up_ne _ _ (by decide)]; exact f1006_c42
  have f1007_c48 : C_48 1007 = some (.inl (E.2.1 1, 60, .inr (.inl (fun _ => 0)))) := by rw [hC_48]; exact va_up_self _ _ _
  have hl : lv_has ls 2 [(0, .ref (A_48 1000))] := by rw [am_48_0]; exact hl
  refine W.eq (g2 := F0 m 50 ls [.ref (A_48 1007), .ref (A_48 1000)]) (by rw [← an_48, am_48_0]) ?_
  clear am_48_0 am_48_1 am_48_2 am_48_3 am_48_4 am_48_5 an_48
  refine wg_putF F hnm hP hS f1000_c48 rfl iw_X8 tyX8_ok nmX8 7 (by decide) tb_556 rfl rfl rfl (Nat.le_of_ble_eq_true rfl) dX8_init_50 (fun H locs hP hS => ?_)
  obtain ⟨C_50, hC_50⟩ : ∃ z : wg_C, z = va_up C_48 1000 (some (.inr (8, [.int 0, .ref (A_48 1001), .int 0, .ref (A_48 1003), .ref (A_48 1004), .ref (A_48 1005), .ref (A_48 1006), .ref (A_48 1007), .null, .null, .null, .null, .null, .null, .null, .null, .null, .null, .null, .int 0, .int 0, .long 0, .long 0, .int 0, .null, .null, .null, .null, .null]))) := ⟨_, rfl⟩
  have hP : wg_P E A_48 C_50 H := by rw [hC_50]; exact hP
  have f1000_c50 : C_50 1000 = some (.inr (8, [.int 0, .ref (A_48 1001), .int 0, .ref (A_48 1003), .ref (A_48 1004), .ref (A_48 1005), .ref (A_48 1006), .ref (A_48 1007), .null, .null, .null, .null, .null, .null, .null, .null, .null, .null, .null, .int 0, .int 0, .long 0, .long 0, .int 0, .null, .null, .null, .null, .null])) := by rw [hC_50]; exact va_up_self _ _ _
  have f1001_c50 : C_50 1001 = some (.inl (E.2.1 0, 160, .inl (fun _ => 0))) := by rw [hC_50]; rw [va_up_ne _ _ (by decide)]; exact f1001_c48
  have f1003_c50 : C_50 1003 = some (.inl (E.2.1 0, 60, .inl (fun _ => 0))) := by rw [hC_50]; rw [va_up_ne _ _ (by decide)]; exact f1003_c48
  have f1004_c50 : C_50 1004 = some (.inl (E.2.1 1, 60, .inr (.inl (fun _ => 0)))) := by rw [hC_50]; rw [va_up_ne _ _ (by decide)]; exact f1004_c48
  have f1005_c50 : C_50 1005 = some (.inl (E.2.1 0, 60, .inl (fun _ => 0))) := by rw [hC_50]; rw [va_up_ne _ _ (by decide)]; exact f1005_c48
  have f1006_c50 : C_50 1006 = some (.inl (E.2.1 0, 60, .inl (fun _ => 0))) := by rw [hC_50]; rw [va_up_ne _ _ (by decide)]; exact f1006_c48
  have f1007_c50 : C_50 1007 = some (.inl (E.2.1 1, 60, .inr (.inl (fun _ => 0)))) := by rw [hC_50]; rw [va_up_ne _ _ (by decide)]; exact f1007_c48
  refine lv_aload_n hx hb dX8_init_53 rfl (lv_at hl 0 rfl) ?_
  refine lv_bipush (v := 60) hx hb dX8_init_54 (by decide) ?_
  refine wg_newaF (atype := .int) (a0 := (60, .inl (fun _ => 0))) F hP hS 1008 0 rfl (fun _ _ h => h) tb_74 (fun _ => rfl) (by decide) (by decide) (by decide) (Nat.le_of_ble_eq_true rfl) (Nat.le_of_ble_eq_true rfl) dX8_init_56 (fun q_56 H hP hS => ?_)
  obtain ⟨A_56, hA_56⟩ : ∃ z : Nat → Nat, z = va_up A_48 1008 q_56 := ⟨_, rfl⟩
  obtain ⟨C_56, hC_56⟩ : ∃ z : wg_C, z = va_up C_50 1008 (some (.inl (E.2.1 0, 60, .inl (fun _ => 0)))) := ⟨_, rfl⟩
  have hP : wg_P E A_56 C_56 H := by rw [hA_56, hC_56]; exact hP
  have an_56 : q_56 = A_56 1008 := by rw [hA_56]; exact (va_up_self _ _ _).symm
  have am_56_0 : A_56 1000 = A_48 1000 := by rw [hA_56]; rw [va_up_ne _ _ (by decide)]
  have am_56_1 : A_56 1001 = A_48 1001 := by rw [hA_56]; rw [va_up_ne _ _ (by decide)]
  have am_56_2 : A_56 1003 = A_48 1003 := by rw [hA_56]; rw [va_up_ne _ _ (by decide)]
  have am_56_3 : A_56 1004 = A_48 1004 := by rw [hA_56]; rw [va_up_ne _ _ (by decide)]
  have am_56_4 : A_56 1005 = A_48 1005 := by rw [hA_56]; rw [va_up_ne _ _ (by decide)]
  have am_56_5 : A_56 1006 = A_48 1006 := by rw [hA_56]; rw [va_up_ne _ _ (by decide)]
  have am_56_6 : A_56 1007 = A_48 1007 := by rw [hA_56]; rw [va_up_ne _ _ (by decide)]
  have f1000_c56 : C_56 1000 = some (.inr (8, [.int 0, .ref (A_56 1001), .int 0, .ref (A_56 1003), .ref (A_56 1004), .ref (A_56 1005), .ref (A_56 1006), .ref (A_56 1007), .null, .null, .null, .null, .null, .null, .null, .null, .null, .null, .null, .int 0, .int 0, .long 0, .long 0, .int 0, .null, .null, .null, .null, .null])) := by rw [hC_56]; rw [va_up_ne _ _ (by decide)]; rw [am_56_1, am_56_2, am_56_3, am_56_4, am_56_5, am_56_6]; exact f1000_c50
  have f1001_c56 : C_56 1001 = some (.inl (E.2.1 0, 160, .inl (fun _ => 0))) := by rw [hC_56]; rw [va_up_ne _ _ (by decide)]; exact f1001_c50
  have f1003_c56 : C_56 1003 = some (.inl (E.2.1 0, 60, .inl (fun _ => 0))) := by rw [hC_56]; rw [va_up_ne _ _ (by decide)]; exact f1003_c50
  have f1004_c56 : C_56 1004 = some (.inl (E.2.1 1, 60, .inr (.inl (fun _ => 0)))) := by rw [hC_56]; rw [va_up_ne _ _ (by decide)]; exact f1004_c50
  have f1005_c56 : C_56 1005 = some (.inl (E.2.1 0, 60, .inl (fun _ => 0))) := by rw [hC_56]; rw [va_up_ne _ _ (by decide)]; exact f1005_c50
  have f1006_c56 : C_56 1006 = some (.inl (E.2.1 0, 60, .inl (fun _ => 0))) := by rw [hC_56]; rw [va_up_ne _ _ (by decide)]; exact f1006_c50
  have f1007_c56 : C_56 1007 = some (.inl (E.2.1 1, 60, .inr (.inl (fun _ => 0)))) := by rw [hC_56]; rw [va_up_ne _ _ (by decide)]; exact f1007_c50
  have f1008_c56 : C_56 1008 = some (.inl (E.2.1 0, 60, .inl (fun _ => 0))) := by rw [hC_56]; exact va_up_self _ _ _
  have hl : lv_has ls 2 [(0, .ref (A_56 1000))] := by rw [am_56_0]; exact hl
  refine W.eq (g2 := F0 m 58 ls [.ref (A_56 1008), .ref (A_56 1000)]) (by rw [← an_56, am_56_0]) ?_
  clear am_56_0 am_56_1 am_56_2 am_56_3 am_56_4 am_56_5 am_56_6 an_56
  refine wg_putF F hnm hP hS f1000_c56 rfl iw_X8 tyX8_ok nmX8 8 (by decide) tb_557 rfl rfl rfl (Nat.le_of_ble_eq_true rfl) dX8_init_58 (fun H locs hP hS => ?_)
  obtain ⟨C_58, hC_58⟩ : ∃ z : wg_C, z = va_up C_56 1000 (some (.inr (8, [.int 0, .ref (A_56 1001), .int 0, .ref (A_56 1003), .ref (A_56 1004), .ref (A_56 1005), .ref (A_56 1006), .ref (A_56 1007), .ref (A_56 1008), .null, .null, .null, .null, .null, .null, .null, .null, .null, .null, .int 0, .int 0, .long 0, .long 0, .int 0, .null, .null, .null, .null, .null]))) := ⟨_, rfl⟩
  have hP : wg_P E A_56 C_58 H := by rw [hC_58]; exact hP
  have f1000_c58 : C_58 1000 = some (.inr (8, [.int 0, .ref (A_56 1001), .int 0, .ref (A_56 1003), .ref (A_56 1004), .ref (A_56 1005), .ref (A_56 1006), .ref (A_56 1007), .ref (A_56 1008), .null, .null, .null, .null, .null, .null, .null, .null, .null, .null, .int 0, .int 0, .long 0, .long 0, .int 0, .null, .null, .null, .null, .null])) := by rw [hC_58]; exact va_up_self _ _ _
  have f1001_c58 : C_58 1001 = some (.inl (E.2.1 0, 160, .inl (fun _ => 0))) := by rw [hC_58]; rw [va_up_ne _ _ (by decide)]; exact f1001_c56
  have f1003_c58 : C_58 1003 = some (.inl (E.2.1 0, 60, .inl (fun _ => 0))) := by rw [hC_58]; rw [va_up_ne _ _ (by decide)]; exact f1003_c56
  have f1004_c58 : C_58 1004 = some (.inl (E.2.1 1, 60, .inr (.inl (fun _ => 0)))) := by rw [hC_58]; rw [va_up_ne _ _ (by decide)]; exact f1004_c56
  have f1005_c58 : C_58 1005 = some (.inl (E.2.1 0, 60, .inl (fun _ => 0))) := by rw [hC_58]; rw [va_up_ne _ _ (by decide)]; exact f1005_c56
  have f1006_c58 : C_58 1006 = some (.inl (E.2.1 0, 60, .inl (fun _ => 0))) := by rw [hC_58]; rw [va_up_ne _ _ (by decide)]; exact f1006_c56
  have f1007_c58 : C_58 1007 = some (.inl (E.2.1 1, 60, .inr (.inl (fun _ => 0)))) := by rw [hC_58]; rw [va_up_ne _ _ (by decide)]; exact f1007_c56
  have f1008_c58 : C_58 1008 = some (.inl (E.2.1 0, 60, .inl (fun _ => 0))) := by rw [hC_58]; rw [va_up_ne _ _ (by decide)]; exact f1008_c56
  refine lv_aload_n hx hb dX8_init_61 rfl (lv_at hl 0 rfl) ?_
  refine lv_iconst (v := 4) hx hb dX8_init_62 (by decide) ?_
  refine wg_newaF (atype := .int) (a0 := (4, .inl (fun _ => 0))) F hP hS 1009 0 rfl (fun _ _ h => h) tb_74 (fun _ => rfl) (by decide) (by decide) (by decide) (Nat.le_of_ble_eq_true rfl) (Nat.le_of_ble_eq_true rfl) dX8_init_63 (fun q_63 H hP hS => ?_)
  obtain ⟨A_63, hA_63⟩ : ∃ z : Nat → Nat, z = va_up A_56 1009 q_63 := ⟨_, rfl⟩
  obtain ⟨C_63, hC_63⟩ : ∃ z : wg_C, z = va_up C_58 1009 (some (.inl (E.2.1 0, 4, .inl (fun _ => 0)))) := ⟨_, rfl⟩
  have hP : wg_P E A_63 C_63 H := by rw [hA_63, hC_63]; exact hP
  have an_63 : q_63 = A_63 1009 := by rw [hA_63]; exact (va_up_self _ _ _).symm
  have am_63_0 : A_63 1000 = A_56 1000 := by rw [hA_63]; rw [va_up_ne _ _ (by decide)]
  have am_63_1 : A_63 1001 = A_56 1001 := by rw [hA_63]; rw [va_up_ne _ _ (by decide)]
  have am_63_2 : A_63 1003 = A_56 1003 := by rw [hA_63]; rw [va_up_ne _ _ (by decide)]
  have am_63_3 : A_63 1004 = A_56 1004 := by rw [hA_63]; rw [va_up_ne _ _ (by decide)]
  have am_63_4 : A_63 1005 = A_56 1005 := by rw [hA_63]; rw [va_up_ne _ _ (by decide)]
  have am_63_5 : A_63 1006 = A_56 1006 := by rw [hA_63]; rw [va_up_ne _ _ (by decide)]
  have am_63_6 : A_63 1007 = A_56 1007 := by rw [hA_63]; rw [va_up_ne _ _ (by decide)]
  have am_63_7 : A_63 1008 = A_56 1008 := by rw [hA_63]; rw [va_up_ne _ _ (by decide)]
  have f1000_c63 : C_63 1000 = some (.inr (8, [.int 0, .ref (A_63 1001), .int 0, .ref (A_63 1003), .ref (A_63 1004), .ref (A_63 1005), .ref (A_63 1006), .ref (A_63 1007), .ref (A_63 1008), .null, .null, .null, .null, .null, .null, .null, .null, .null, .null, .int 0, .int 0, .long 0, .long 0, .int 0, .null, .null, .null, .null, .null])) := by rw [hC_63]; rw [va_up_ne _ _ (by decide)]; rw [am_63_1, am_63_2, am_63_3, am_63_4, am_63_5, am_63_6, am_63_7]; exact f1000_c58
  have f1001_c63 : C_63 1001 = some (.inl (E.2.1 0, 160, .inl (fun _ => 0))) := by rw [hC_63]; rw [va_up_ne _ _ (by decide)]; exact f1001_c58
  have f1003_c63 : C_63 1003 = some (.inl (E.2.1 0, 60, .inl (fun _ => 0))) := by rw [hC_63]; rw [va_up_ne _ _ (by decide)]; exact f1003_c58
  have f1004_c63 : C_63 1004 = some (.inl (E.2.1 1, 60, .inr (.inl (fun _ => 0)))) := by rw [hC_63]; rw [va_up_ne _ _ (by decide)]; exact f1004_c58
  have f1005_c63 : C_63 1005 = some (.inl (E.2.1 0, 60, .inl (fun _ => 0))) := by rw [hC_63]; rw [va_up_ne _ _ (by decide)]; exact f1005_c58
  have f1006_c63 : C_63 1006 = some (.inl (E.2.1 0, 60, .inl (fun _ => 0))) := by rw [hC_63]; rw [va_up_ne _ _ (by decide)]; exact f1006_c58
  have f1007_c63 : C_63 1007 = some (.inl (E.2.1 1, 60, .inr (.inl (fun _ => 0)))) := by rw [hC_63]; rw [va_up_ne _ _ (by decide)]; exact f1007_c58
  have f1008_c63 : C_63 1008 = some (.inl (E.2.1 0, 60, .inl (fun _ => 0))) := by rw [hC_63]; rw [va_up_ne _ _ (by decide)]; exact f1008_c58
  have f1009_c63 : C_63 1009 = some (.inl (E.2.1 0, 4, .inl (fun _ => 0))) := by rw [hC_63]; exact va_up_self _ _ _
  have hl : lv_has ls 2 [(0, .ref (A_63 1000))] := by rw [am_63_0]; exact hl
  refine W.eq (g2 := F0 m 65 ls [.ref (A_63 1009), .ref (A_63 1000)]) (by rw [← an_63, am_63_0]) ?_
  clear am_63_0 am_63_1 am_63_2 am_63_3 am_63_4 am_63_5 am_63_6 am_63_7 an_63
  refine wg_putF F hnm hP hS f1000_c63 rfl iw_X8 tyX8_ok nmX8 9 (by decide) tb_558 rfl rfl rfl (Nat.le_of_ble_eq_true rfl) dX8_init_65 (fun H locs hP hS => ?_)
  obtain ⟨C_65, hC_65⟩ : ∃ z : wg_C, z = va_up C_63 1000 (some (.inr (8, [.int 0, .ref (A_63 1001), .int 0, .ref (A_63 1003), .ref (A_63 1004), .ref (A_63 1005), .ref (A_63 1006), .ref (A_63 1007), .ref (A_63 1008), .ref (A_63 1009), .null, .null, .null, .null, .null, .null, .null, .null, .null, .int 0, .int 0, .long 0, .long 0, .int 0, .null, .null, .null, .null, .null]))) := ⟨_, rfl⟩
  have hP : wg_P E A_63 C_65 H := by rw [hC_65]; exact hP
  have f1000_c65 : C_65 1000 = some (.inr (8, [.int 0, .ref (A_63 1001), .int 0, .ref (A_63 1003), .ref (A_63 1004), .ref (A_63 1005), .ref (A_63 1006), .ref (A_63 1007), .ref (A_63 1008), .ref (A_63 1009), .null, .null, .null, .null, .null, .null, .null, .null, .null, .int 0, .int 0, .long 0, .long 0, .int 0, .null, .null, .null, .null, .null])) := by rw [hC_65]; exact va_up_self _ _ _
  have f1001_c65 : C_65 1001 = some (.inl (E.2.1 0, 160, .inl (fun _ => 0))) := by rw [hC_65]; rw [va_up_ne _ _ (by decide)]; exact f1001_c63
  have f1003_c65 : C_65 1003 = some (.inl (E.2.1 0, 60, .inl (fun _ => 0))) := by rw [hC_65]; rw [va_up_ne _ _ (by decide)]; exact f1003_c63
  have f1004_c65 : C_65 1004 = some (.inl (E.2.1 1, 60, .inr (.inl (fun _ => 0)))) := by rw [hC_65]; rw [va_up_ne _ _ (by decide)]; exact f1004_c63
  have f1005_c65 : C_65 1005 = some (.inl (E.2.1 0, 60, .inl (fun _ => 0))) := by rw [hC_65]; rw [va_up_ne _ _ (by decide)]; exact f1005_c63
  have f1006_c65 : C_65 1006 = some (.inl (E.2.1 0, 60, .inl (fun _ => 0))) := by rw [hC_65]; rw [va_up_ne _ _ (by decide)]; exact f1006_c63
  have f1007_c65 : C_65 1007 = some (.inl (E.2.1 1, 60, .inr (.inl (fun _ => 0)))) := by rw [hC_65]; rw [va_up_ne _ _ (by decide)]; exact f1007_c63
  have f1008_c65 : C_65 1008 = some (.inl (E.2.1 0, 60, .inl (fun _ => 0))) := by rw [hC_65]; rw [va_up_ne _ _ (by decide)]; exact f1008_c63
  have f1009_c65 : C_65 1009 = some (.inl (E.2.1 0, 4, .inl (fun _ => 0))) := by rw [hC_65]; rw [va_up_ne _ _ (by decide)]; exact f1009_c63
  refine lv_aload_n hx hb dX8_init_68 rfl (lv_at hl 0 rfl) ?_
  refine lv_iconst (v := 4) hx hb dX8_init_69 (by decide) ?_
  refine wg_newaF (atype := .int) (a0 := (4, .inl (fun _ => 0))) F hP hS 1010 0 rfl (fun _ _ h => h) tb_74 (fun _ => rfl) (by decide) (by decide) (by decide) (Nat.le_of_ble_eq_true rfl) (Nat.le_of_ble_eq_true rfl) dX8_init_70 (fun q_70 H hP hS => ?_)
  obtain ⟨A_70, hA_70⟩ : ∃ z : Nat → Nat, z = va_up A_63 1010 q_70 := ⟨_, rfl⟩
  obtain ⟨C_70, hC_70⟩ : ∃ z : wg_C, z = va_up C_65 1010 (some (.inl (E.2.1 0, 4, .inl (fun _ => 0)))) := ⟨_, rfl⟩
  have hP : wg_P E A_70 C_70 H := by rw [hA_70, hC_70]; exact hP
  have an_70 : q_70 = A_70 1010 := by rw [hA_70]; exact (va_up_self _ _ _).symm
  have am_70_0 : A_70 1000 = A_63 1000 := by rw [hA_70]; rw [va_up_ne _ _ (by decide)]
  have am_70_1 : A_70 1001 = A_63 1001 := by rw [hA_70]; rw [va_up_ne _ _ (by decide)]
  have am_70_2 : A_70 1003 = A_63 1003 := by rw [hA_70]; rw [va_up_ne _ _ (by decide)]
  have am_70_3 : A_70 1004 = A_63 1004 := by rw [hA_70]; rw [va_up_ne _ _ (by decide)]
  have am_70_4 : A_70 1005 = A_63 1005 := by rw [hA_70]; rw [va_up_ne _ _ (by decide)]
  have am_70_5 : A_70 1006 = A_63 1006 := by rw [hA_70]; rw [va_up_ne _ _ (by decide)]
  have am_70_6 : A_70 1007 = A_63 1007 := by rw [hA_70]; rw [va_up_ne _ _ (by decide)]
  have am_70_7 : A_70 1008 = A_63 1008 := by rw [hA_70]; rw [va_up_ne _ _ (by decide)]
  have am_70_8 : A_70 1009 = A_63 1009 := by rw [hA_70]; rw [va_up_ne _ _ (by decide)]
  have f1000_c70 : C_70 1000 = some (.inr (8, [.int 0, .ref (A_70 1001), .int 0, .ref (A_70 1003), .ref (A_70 1004), .ref (A_70 1005), .ref (A_70 1006), .ref (A_70 1007), .ref (A_70 1008), .ref (A_70 1009), .null, .null, .null, .null, .null, .null, .null, .null, .null, .int 0, .int 0, .long 0, .long 0, .int 0, .null, .null, .null, .null, .null])) := by rw [hC_70]; rw [va_up_ne _ _ (by decide)]; rw [am_70_1, am_70_2, am_70_3, am_70_4, am_70_5, am_70_6, am_70_7, am_70_8]; exact f1000_c65
  have f1001_c70 : C_70 1001 = some (.inl (E.2.1 0, 160, .inl (fun _ => 0))) := by rw [hC_70]; rw [va_up_ne _ _ (by decide)]; exact f1001_c65
  have f1003_c70 : C_70 1003 = some (.inl (E.2.1 0, 60, .inl (fun _ => 0))) := by rw [hC_70]; rw [va_up_ne _ _ (by decide)]; exact f1003_c65
  have f1004_c70 : C_70 1004 = some (.inl (E.2.1 1, 60, .inr (.inl (fun _ => 0)))) := by rw [hC_70]; rw [va_up_ne _ _ (by decide)]; exact f1004_c65
  have f1005_c70 : C_70 1005 = some (.inl (E.2.1 0, 60, .inl (fun _ => 0))) := by rw [hC_70]; rw [va_up_ne _ _ (by decide)]; exact f1005_c65
  have f1006_c70 : C_70 1006 = some (.inl (E.2.1 0, 60, .inl (fun _ => 0))) := by rw [hC_70]; rw [va_up_ne _ _ (by decide)]; exact f1006_c65
  have f1007_c70 : C_70 1007 = some (.inl (E.2.1 1, 60, .inr (.inl (fun _ => 0)))) := by rw [hC_70]; rw [va_up_ne _ _ (by decide)]; exact f1007_c65
  have f1008_c70 : C_70 1008 = some (.inl (E.2.1 0, 60, .inl (fun _ => 0))) := by rw [hC_70]; rw [va_up_ne _ _ (by decide)]; exact f1008_c65
  have f1009_c70 : C_70 1009 = some (.inl (E.2.1 0, 4, .inl (fun _ => 0))) := by rw [hC_70]; rw [va_up_ne _ _ (by decide)]; exact f1009_c65
  have f1010_c70 : C_70 1010 = some (.inl (E.2.1 0, 4, .inl (fun _ => 0))) := by rw [hC_70]; exact va_up_self _ _ _
  have hl : lv_has ls 2 [(0, .ref (A_70 1000))] := by rw [am_70_0]; exact hl
  refine W.eq (g2 := F0 m 72 ls [.ref (A_70 1010), .ref (A_70 1000)]) (by rw [← an_70, am_70_0]) ?_
  clear am_70_0 am_70_1 am_70_2 am_70_3 am_70_4 am_70_5 am_70_6 am_70_7 am_70_8 an_70
  refine wg_putF F hnm hP hS f1000_c70 rfl iw_X8 tyX8_ok nmX8 10 (by decide) tb_559 rfl rfl rfl (Nat.le_of_ble_eq_true rfl) dX8_init_72 (fun H locs hP hS => ?_)
  obtain ⟨C_72, hC_72⟩ : ∃ z : wg_C, z = va_up C_70 1000 (some (.inr (8, [.int 0, .ref (A_70 1001), .int 0, .ref (A_70 1003), .ref (A_70 1004), .ref (A_70 1005), .ref (A_70 1006), .ref (A_70 1007), .ref (A_70 1008), .ref (A_70 1009), .ref (A_70 1010), .null, .null, .null, .null, .null, .null, .null, .null, .int 0, .int 0, .long 0, .long 0, .int 0, .null, .null, .null, .null, .null]))) := ⟨_, rfl⟩
  have hP : wg_P E A_70 C_72 H := by rw [hC_72]; exact hP
  have f1000_c72 : C_72 1000 = some (.inr (8, [.int 0, .ref (A_70 1001), .int 0, .ref (A_70 1003), .ref (A_70 1004), .ref (A_70 1005), .ref (A_70 1006), .ref (A_70 1007), .ref (A_70 1008), .ref (A_70 1009), .ref (A_70 1010), .null, .null, .null, .null, .null, .null, .null, .null, .int 0, .int 0, .long 0, .long 0, .int 0, .null, .null, .null, .null, .null])) := by rw [hC_72]; exact va_up_self _ _ _
  have f1001_c72 : C_72 1001 = some (.inl (E.2.1 0, 160, .inl (fun _ => 0))) := by rw [hC_72]; rw [va_up_ne _ _ (by decide)]; exact f1001_c70
  have f1003_c72 : C_72 1003 = some (.inl (E.2.1 0, 60, .inl (fun _ => 0))) := by rw [hC_72]; rw [va_up_ne _ _ (by decide)]; exact f1003_c70
  have f1004_c72 : C_72 1004 = some (.inl (E.2.1 1, 60, .inr (.inl (fun _ => 0)))) := by rw [hC_72]; rw [va_up_ne _ _ (by decide)]; exact f1004_c70
  have f1005_c72 : C_72 1005 = some (.inl (E.2.1 0, 60, .inl (fun _ => 0))) := by rw [hC_72]; rw [va_up_ne _ _ (by decide)]; exact f1005_c70
  have f1006_c72 : C_72 1006 = some (.inl (E.2.1 0, 60, .inl (fun _ => 0))) := by rw [hC_72]; rw [va_up_ne _ _ (by decide)]; exact f1006_c70
  have f1007_c72 : C_72 1007 = some (.inl (E.2.1 1, 60, .inr (.inl (fun _ => 0)))) := by rw [hC_72]; rw [va_up_ne _ _ (by decide)]; exact f1007_c70
  have f1008_c72 : C_72 1008 = some (.inl (E.2.1 0, 60, .inl (fun _ => 0))) := by rw [hC_72]; rw [va_up_ne _ _ (by decide)]; exact f1008_c70
  have f1009_c72 : C_72 1009 = some (.inl (E.2.1 0, 4, .inl (fun _ => 0))) := by rw [hC_72]; rw [va_up_ne _ _ (by decide)]; exact f1009_c70
  have f1010_c72 : C_72 1010 = some (.inl (E.2.1 0, 4, .inl (fun _ => 0))) := by rw [hC_72]; rw [va_up_ne _ _ (by decide)]; exact f1010_c70
  refine lv_aload_n hx hb dX8_init_75 rfl (lv_at hl 0 rfl) ?_
  refine lv_bipush (v := 44) hx hb dX8_init_76 (by decide) ?_
  refine wg_newaF (atype := .int) (a0 := (44, .inl (fun _ => 0))) F hP hS 1011 0 rfl (fun _ _ h => h) tb_74 (fun _ => rfl) (by decide) (by decide) (by decide) (Nat.le_of_ble_eq_true rfl) (Nat.le_of_ble_eq_true rfl) dX8_init_78 (fun q_78 H hP hS => ?_)
  obtain ⟨A_78, hA_78⟩ : ∃ z : Nat → Nat, z = va_up A_70 1011 q_78 := ⟨_, rfl⟩
  obtain ⟨C_78, hC_78⟩ : ∃ z : wg_C, z = va_up C_72 1011 (some (.inl (E.2.1 0, 44, .inl (fun _ => 0)))) := ⟨_, rfl⟩
  have hP : wg_P E A_78 C_78 H := by rw [hA_78, hC_78]; exact hP
  have an_78 : q_78 = A_78 1011 := by rw [hA_78]; exact (va_up_self _ _ _).symm
  have am_78_0 : A_78 1000 = A_70 1000 := by rw [hA_78]; rw [va_up_ne _ _ (by decide)]
  have am_78_1 : A_78 1001 = A_70 1001 := by rw [hA_78]; rw [va_up_ne _ _ (by decide)]
  have am_78_2 : A_78 1003 = A_70 1003 := by rw [hA_78]; rw [va_up_ne _ _ (by decide)]
  have am_78_3 : A_78 1004 = A_70 1004 := by rw [hA_78]; rw [va_up_ne _ _ (by decide)]
  have am_78_4 : A_78 1005 = A_70 1005 := by rw [hA_78]; rw [va_up_ne _ _ (by decide)]
  have am_78_5 : A_78 1006 = A_70 1006 := by rw [hA_78]; rw [va_up_ne _ _ (by decide)]
  have am_78_6 : A_78 1007 = A_70 1007 := by rw [hA_78]; rw [va_up_ne _ _ (by decide)]
  have am_78_7 : A_78 1008 = A_70 1008 := by rw [hA_78]; rw [va_up_ne _ _ (by decide)]
  have am_78_8 : A_78 1009 = A_70 1009 := by rw [hA_78]; rw [va_up_ne _ _ (by decide)]
  have am_78_9 : A_78 1010 = A_70 1010 := by rw [hA_78]; rw [va_up_ne _ _ (by decide)]
  have f1000_c78 : C_78 1000 = some (.inr (8, [.int 0, .ref (A_78 1001), .int 0, .ref (A_78 1003), .ref (A_78 1004), .ref (A_78 1005), .ref (A_78 1006), .ref (A_78 1007), .ref (A_78 1008), .ref (A_78 1009), .ref (A_78 1010), .null, .null, .null, .null, .null, .null, .null, .null, .int 0, .int 0, .long 0, .long 0, .int 0, .null, .null, .null, .null, .null])) := by rw [hC_78]; rw [va_up_ne _ _ (by decide)]; rw [am_78_1, am_78_2, am_78_3, am_78_4, am_78_5, am_78_6, am_78_7, am_78_8, am_78_9]; exact f1000_c72
  have f1001_c78 : C_78 1001 = some (.inl (E.2.1 0, 160, .inl (fun _ => 0))) := by rw [hC_78]; rw [va_up_ne _ _ (by decide)]; exact f1001_c72
  have f1003_c78 : C_78 1003 = some (.inl (E.2.1 0, 60, .inl (fun _ => 0))) := by rw [hC_78]; rw [va_up_ne _ _ (by decide)]; exact f1003_c72
  have f1004_c78 : C_78 1004 = some (.inl (E.2.1 1, 60, .inr (.inl (fun _ => 0)))) := by rw [hC_78]; rw [va_up_ne _ _ (by decide)]; exact f1004_c72
  have f1005_c78 : C_78 1005 = some (.inl (E.2.1 0, 60, .inl (fun _ => 0))) := by rw [hC_78]; rw [va_up_ne _ _ (by decide)]; exact f1005_c72
  have f1006_c78 : C_78 1006 = some (.inl (E.2.1 0, 60, .inl (fun _ => 0))) := by rw [hC_78]; rw [va_up_ne _ _ (by decide)]; exact f1006_c72
  have f1007_c78 : C_78 1007 = some (.inl (E.2.1 1, 60, .inr (.inl (fun _ => 0)))) := by rw [hC_78]; rw [va_up_ne _ _ (by decide)]; exact f1007_c72
  have f1008_c78 : C_78 1008 = some (.inl (E.2.1 0, 60, .inl (fun _ => 0))) := by rw [hC_78]; rw [va_up_ne _ _ (by decide)]; exact f1008_c72
  have f1009_c78 : C_78 1009 = some (.inl (E.2.1 0, 4, .inl (fun _ => 0))) := by rw [hC_78]; rw [va_up_ne _ _ (by decide)]; exact f1009_c72
  have f1010_c78 : C_78 1010 = some (.inl (E.2.1 0, 4, .inl (fun _ => 0))) := by rw [hC_78]; rw [va_up_ne _ _ (by decide)]; exact f1010_c72
  have f1011_c78 : C_78 1011 = some (.inl (E.2.1 0, 44, .inl (fun _ => 0))) := by rw [hC_78]; exact va_up_self _ _ _
  have hl : lv_has ls 2 [(0, .ref (A_78 1000))] := by rw [am_78_0]; exact hl
  refine W.eq (g2 := F0 m 80 ls [.ref (A_78 1011), .ref (A_78 1000)]) (by rw [← an_78, am_78_0]) ?_
  clear am_78_0 am_78_1 am_78_2 am_78_3 am_78_4 am_78_5 am_78_6 am_78_7 am_78_8 am_78_9 an_78
  refine wg_putF F hnm hP hS f1000_c78 rfl iw_X8 tyX8_ok nmX8 11 (by decide) tb_560 rfl rfl rfl (Nat.le_of_ble_eq_true rfl) dX8_init_80 (fun H locs hP hS => ?_)
  obtain ⟨C_80, hC_80⟩ : ∃ z : wg_C, z = va_up C_78 1000 (some (.inr (8, [.int 0, .ref (A_78 1001), .int 0, .ref (A_78 1003), .ref (A_78 1004), .ref (A_78 1005), .ref (A_78 1006), .ref (A_78 1007), .ref (A_78 1008), .ref (A_78 1009), .ref (A_78 1010), .ref (A_78 1011), .null, .null, .null, .null, .null, .null, .null, .int 0, .int 0, .long 0, .long 0, .int 0, .null, .null, .null, .null, .null]))) := ⟨_, rfl⟩
  have hP : wg_P E A_78 C_80 H := by rw [hC_80]; exact hP
  have f1000_c80 : C_80 1000 = some (.inr (8, [.int 0, .ref (A_78 1001), .int 0, .ref (A_78 1003), .ref (A_78 1004), .ref (A_78 1005), .ref (A_78 1006), .ref (A_78 1007), .ref (A_78 1008), .ref (A_78 1009), .ref (A_78 1010), .ref (A_78 1011), .null, .null, .null, .null, .null, .null, .null, .int 0, .int 0, .long 0, .long 0, .int 0, .null, .null, .null, .null, .null])) := by rw [hC_80]; exact va_up_self _ _ _
  have f1001_c80 : C_80 1001 = some (.inl (E.2.1 0, 160, .inl (fun _ => 0))) := by rw [hC_80]; rw [va_up_ne _ _ (by decide)]; exact f1001_c78
  have f1003_c80 : C_80 1003 = some (.inl (E.2.1 0, 60, .inl (fun _ => 0))) := by rw [hC_80]; rw [va_up_ne _ _ (by decide)]; exact f1003_c78
  have f1004_c80 : C_80 1004 = some (.inl (E.2.1 1, 60, .inr (.inl (fun _ => 0)))) := by rw [hC_80]; rw [va_up_ne _ _ (by decide)]; exact f1004_c78
  have f1005_c80 : C_80 1005 = some (.inl (E.2.1 0, 60, .inl (fun _ => 0))) := by rw [hC_80]; rw [va_up_ne _ _ (by decide)]; exact f1005_c78
  have f1006_c80 : C_80 1006 = some (.inl (E.2.1 0, 60, .inl (fun _ => 0))) := by rw [hC_80]; rw [va_up_ne _ _ (by decide)]; exact f1006_c78
  have f1007_c80 : C_80 1007 = some (.inl (E.2.1 1, 60, .inr (.inl (fun _ => 0)))) := by rw [hC_80]; rw [va_up_ne _ _ (by decide)]; exact f1007_c78
  have f1008_c80 : C_80 1008 = some (.inl (E.2.1 0, 60, .inl (fun _ => 0))) := by rw [hC_80]; rw [va_up_ne _ _ (by decide)]; exact f1008_c78
  have f1009_c80 : C_80 1009 = some (.inl (E.2.1 0, 4, .inl (fun _ => 0))) := by rw [hC_80]; rw [va_up_ne _ _ (by decide)]; exact f1009_c78
  have f1010_c80 : C_80 1010 = some (.inl (E.2.1 0, 4, .inl (fun _ => 0))) := by rw [hC_80]; rw [va_up_ne _ _ (by decide)]; exact f1010_c78
  have f1011_c80 : C_80 1011 = some (.inl (E.2.1 0, 44, .inl (fun _ => 0))) := by rw [hC_80]; rw [va_up_ne _ _ (by decide)]; exact f1011_c78
  refine lv_aload_n hx hb dX8_init_83 rfl (lv_at hl 0 rfl) ?_
  refine lv_iconst (v := 4) hx hb dX8_init_84 (by decide) ?_
  refine wg_newaF (atype := .int) (a0 := (4, .inl (fun _ => 0))) F hP hS 1012 0 rfl (fun _ _ h => h) tb_74 (fun _ => rfl) (by decide) (by decide) (by decide) (Nat.le_of_ble_eq_true rfl) (Nat.le_of_ble_eq_true rfl) dX8_init_85 (fun q_85 H hP hS => ?_)
  obtain ⟨A_85, hA_85⟩ : ∃ z : Nat → Nat, z = va_up A_78 1012 q_85 := ⟨_, rfl⟩
  obtain ⟨C_85, hC_85⟩ : ∃ z : wg_C, z = va_up C_80 1012 (some (.inl (E.2.1 0, 4, .inl (fun _ => 0)))) := ⟨_, rfl⟩
  have hP : wg_P E A_85 C_85 H := by rw [hA_85, hC_85]; exact hP
  have an_85 : q_85 = A_85 1012 := by rw [hA_85]; exact (va_up_self _ _ _).symm
  have am_85_0 : A_85 1000 = A_78 1000 := by rw [hA_85]; rw [va_up_ne _ _ (by decide)]
  have am_85_1 : A_85 1001 = A_78 1001 := by rw [hA_85]; rw [va_up_ne _ _ (by decide)]
  have am_85_2 : A_85 1003 = A_78 1003 := by rw [hA_85]; rw [va_up_ne _ _ (by decide)]
  have am_85_3 : A_85 1004 = A_78 1004 := by rw [hA_85]; rw [va_up_ne _ _ (by decide)]
  have am_85_4 : A_85 1005 = A_78 1005 := by rw [hA_85]; rw [va_up_ne _ _ (by decide)]
  have am_85_5 : A_85 1006 = A_78 1006 := by rw [hA_85]; rw [va_up_ne _ _ (by decide)]
  have am_85_6 : A_85 1007 = A_78 1007 := by rw [hA_85]; rw [va_up_ne _ _ (by decide)]
  have am_85_7 : A_85 1008 = A_78 1008 := by rw [hA_85]; rw [va_up_ne _ _ (by decide)]
  have am_85_8 : A_85 1009 = A_78 1009 := by rw [hA_85]; rw [va_up_ne _ _ (by decide)]
  have am_85_9 : A_85 1010 = A_78 1010 := by rw [hA_85]; rw [va_up_ne _ _ (by decide)]
  have am_85_10 : A_85 1011 = A_78 1011 := by rw [hA_85]; rw [va_up_ne _ _ (by decide)]
  have f1000_c85 : C_85 1000 = some (.inr (8, [.int 0, .ref (A_85 1001), .int 0, .ref (A_85 1003), .ref (A_85 1004), .ref (A_85 1005), .ref (A_85 1006), .ref (A_85 1007), .ref (A_85 1008), .ref (A_85 1009), .ref (A_85 1010), .ref (A_85 1011), .null, .null, .null, .null, .null, .null, .null, .int 0, .int 0, .long 0, .long 0, .int 0, .null, .null, .null, .null, .null])) := by rw [hC_85]; rw [va_up_ne _ _ (by decide)]; rw [am_85_1, am_85_2, am_85_3, am_85_4, am_85_5, am_85_6, am_85_7, am_85_8, am_85_9, am_85_10]; exact f1000_c80
  have f1001_c85 : C_85 1001 = some (.inl (E.2.1 0, 160, .inl (fun _ => 0))) := by rw [hC_85]; rw [va_up_ne _ _ (by decide)]; exact f1001_c80
  have f1003_c85 : C_85 1003 = some (.inl (E.2.1 0, 60, .inl (fun _ => 0))) := by rw [hC_85]; rw [va_up_ne _ _ (by decide)]; exact f1003_c80
  have f1004_c85 : C_85 1004 = some (.inl (E.2.1 1, 60, .inr (.inl (fun _ => 0)))) := by rw [hC_85]; rw [va_up_ne _ _ (by decide)]; exact f1004_c80
  have f1005_c85 : C_85 1005 = some (.inl (E.2.1 0, 60, .inl (fun _ => 0))) := by rw [hC_85]; rw [va_up_ne _ _ (by decide)]; exact f1005_c80
  have f1006_c85 : C_85 1006 = some (.inl (E.2.1 0, 60, .inl (fun _ => 0))) := by rw [hC_85]; rw [va_up_ne _ _ (by decide)]; exact f1006_c80
  have f1007_c85 : C_85 1007 = some (.inl (E.2.1 1, 60, .inr (.inl (fun _ => 0)))) := by rw [hC_85]; rw [va_up_ne _ _ (by decide)]; exact f1007_c80
  have f1008_c85 : C_85 1008 = some (.inl (E.2.1 0, 60, .inl (fun _ => 0))) := by rw [hC_85]; rw [va_up_ne _ _ (by decide)]; exact f1008_c80
  have f1009_c85 : C_85 1009 = some (.inl (E.2.1 0, 4, .inl (fun _ => 0))) := by rw [hC_85]; rw [va_up_ne _ _ (by decide)]; exact f1009_c80
  have f1010_c85 : C_85 1010 = some (.inl (E.2.1 0, 4, .inl (fun _ => 0))) := by rw [hC_85]; rw [va_up_ne _ _ (by decide)]; exact f1010_c80
  have f1011_c85 : C_85 1011 = some (.inl (E.2.1 0, 44, .inl (fun _ => 0))) := by rw [hC_85]; rw [va_up_ne _ _ (by decide)]; exact f1011_c80
  have f1012_c85 : C_85 1012 = some (.inl (E.2.1 0, 4, .inl (fun _ => 0))) := by rw [hC_85]; exact va_up_self _ _ _
  have hl : lv_has ls 2 [(0, .ref (A_85 1000))] := by rw [am_85_0]; exact hl
  refine W.eq (g2 := F0 m 87 ls [.ref (A_85 1012), .ref (A_85 1000)]) (by rw [← an_85, am_85_0]) ?_
  clear am_85_0 am_85_1 am_85_2 am_85_3 am_85_4 am_85_5 am_85_6 am_85_7 am_85_8 am_85_9 am_85_10 an_85
  refine wg_putF F hnm hP hS f1000_c85 rfl iw_X8 tyX8_ok nmX8 12 (by decide) tb_561 rfl rfl rfl (Nat.le_of_ble_eq_true rfl) dX8_init_87 (fun H locs hP hS => ?_)
  obtain ⟨C_87, hC_87⟩ : ∃ z : wg_C, z = va_up C_85 1000 (some (.inr (8, [.int 0, .ref (A_85 1001), .int 0, .ref (A_85 1003), .ref (A_85 1004), .ref (A_85 1005), .ref (A_85 1006), .ref (A_85 1007), .ref (A_85 1008), .ref (A_85 1009), .ref (A_85 1010), .ref (A_85 1011), .ref (A_85 1012), .null, .null, .null, .null, .null, .null, .int 0, .int 0, .long 0, .long 0, .int 0, .null, .null, .null, .null, .null]))) := ⟨_, rfl⟩
  have hP : wg_P E A_85 C_87 H := by rw [hC_87]; exact hP
  have f1000_c87 : C_87 1000 = some (.inr (8, [.int 0, .ref (A_85 1001), .int 0, .ref (A_85 1003), .ref (A_85 1004), .ref (A_85 1005), .ref (A_85 1006), .ref (A_85 1007), .ref (A_85 1008), .ref (A_85 1009), .ref (A_85 1010), .ref (A_85 1011), .ref (A_85 1012), .null, .null, .null, .null, .null, .null, .int 0, .int 0, .long 0, .long 0, .int 0, .null, .null, .null, .null, .null])) := by rw [hC_87]; exact va_up_self _ _ _
  have f1001_c87 : C_87 1001 = some (.inl (E.2.1 0, 160, .inl (fun _ => 0))) := by rw [hC_87]; rw [va_up_ne _ _ (by decide)]; exact f1001_c85
  have f1003_c87 : C_87 1003 = some (.inl (E.2.1 0, 60, .inl (fun _ => 0))) := by rw [hC_87]; rw [va_up_ne _ _ (by decide)]; exact f1003_c85
  have f1004_c87 : C_87 1004 = some (.inl (E.2.1 1, 60, .inr (.inl (fun _ => 0)))) := by rw [hC_87]; rw [va_up_ne _ _ (by decide)]; exact f1004_c85
  have f1005_c87 : C_87 1005 = some (.inl (E.2.1 0, 60, .inl (fun _ => 0))) := by rw [hC_87]; rw [va_up_ne _ _ (by decide)]; exact f1005_c85
  have f1006_c87 : C_87 1006 = some (.inl (E.2.1 0, 60, .inl (fun _ => 0))) := by rw [hC_87]; rw [va_up_ne _ _ (by decide)]; exact f1006_c85
  have f1007_c87 : C_87 1007 = some (.inl (E.2.1 1, 60, .inr (.inl (fun _ => 0)))) := by rw [hC_87]; rw [va_up_ne _ _ (by decide)]; exact f1007_c85
  have f1008_c87 : C_87 1008 = some (.inl (E.2.1 0, 60, .inl (fun _ => 0))) := by rw [hC_87]; rw [va_up_ne _ _ (by decide)]; exact f1008_c85
  have f1009_c87 : C_87 1009 = some (.inl (E.2.1 0, 4, .inl (fun _ => 0))) := by rw [hC_87]; rw [va_up_ne _ _ (by decide)]; exact f1009_c85
  have f1010_c87 : C_87 1010 = some (.inl (E.2.1 0, 4, .inl (fun _ => 0))) := by rw [hC_87]; rw [va_up_ne _ _ (by decide)]; exact f1010_c85
  have f1011_c87 : C_87 1011 = some (.inl (E.2.1 0, 44, .inl (fun _ => 0))) := by rw [hC_87]; rw [va_up_ne _ _ (by decide)]; exact f1011_c85
  have f1012_c87 : C_87 1012 = some (.inl (E.2.1 0, 4, .inl (fun _ => 0))) := by rw [hC_87]; rw [va_up_ne _ _ (by decide)]; exact f1012_c85
  refine lv_aload_n hx hb dX8_init_90 rfl (lv_at hl 0 rfl) ?_
  refine lv_iconst (v := 4) hx hb dX8_init_91 (by decide) ?_
  refine wg_newaF (atype := .int) (a0 := (4, .inl (fun _ => 0))) F hP hS 1013 0 rfl (fun _ _ h => h) tb_74 (fun _ => rfl) (by decide) (by decide) (by decide) (Nat.le_of_ble_eq_true rfl) (Nat.le_of_ble_eq_true rfl) dX8_init_92 (fun q_92 H hP hS => ?_)
  obtain ⟨A_92, hA_92⟩ : ∃ z : Nat → Nat, z = va_up A_85 1013 q_92 := ⟨_, rfl⟩
  obtain ⟨C_92, hC_92⟩ : ∃ z : wg_C, z = va_up C_87 1013 (some (.inl (E.2.1 0, 4, .inl (fun _ => 0)))) := ⟨_, rfl⟩
  have hP : wg_P E A_92 C_92 H := by rw [hA_92, hC_92]; exact hP
  have an_92 : q_92 = A_92 1013 := by rw [hA_92]; exact (va_up_self _ _ _).symm
  have am_92_0 : A_92 1000 = A_85 1000 := by rw [hA_92]; rw [va_up_ne _ _ (by decide)]
  have am_92_1 : A_92 1001 = A_85 1001 := by rw [hA_92]; rw [va_up_ne _ _ (by decide)]
  have am_92_2 : A_92 1003 = A_85 1003 := by rw [hA_92]; rw [va_up_ne _ _ (by decide)]
  have am_92_3 : A_92 1004 = A_85 1004 := by rw [hA_92]; rw [va_up_ne _ _ (by decide)]
  have am_92_4 : A_92 1005 = A_85 1005 := by rw [hA_92]; rw [va_up_ne _ _ (by decide)]
  have am_92_5 : A_92 1006 = A_85 1006 := by rw [hA_92]; rw [va_up_ne _ _ (by decide)]
  have am_92_6 : A_92 1007 = A_85 1007 := by rw [hA_92]; rw [va_up_ne _ _ (by decide)]
  have am_92_7 : A_92 1008 = A_85 1008 := by rw [hA_92]; rw [va_up_ne _ _ (by decide)]
  have am_92_8 : A_92 1009 = A_85 1009 := by rw [hA_92]; rw [va_up_ne _ _ (by decide)]
  have am_92_9 : A_92 1010 = A_85 1010 := by rw [hA_92]; rw [va_up_ne _ _ (by decide)]
  have am_92_10 : A_92 1011 = A_85 1011 := by rw [hA_92]; rw [va_up_ne _ _ (by decide)]
  have am_92_11 : A_92 1012 = A_85 1012 := by rw [hA_92]; rw [va_up_ne _ _ (by decide)]
  have f1000_c92 : C_92 1000 = some (.inr (8, [.int 0, .ref (A_92 1001), .int 0, .ref (A_92 1003), .ref (A_92 1004), .ref (A_92 1005), .ref (A_92 1006), .ref (A_92 1007), .ref (A_92 1008), .ref (A_92 1009), .ref (A_92 1010), .ref (A_92 1011), .ref (A_92 1012), .null, .null, .null, .null, .null, .null, .int 0, .int 0, .long 0, .long 0, .int 0, .null, .null, .null, .null, .null])) := by rw [hC_92]; rw [va_up_ne _ _ (by decide)]; rw [am_92_1, am_92_2, am_92_3, am_92_4, am_92_5, am_92_6, am_92_7, am_92_8, am_92_9, am_92_10, am_92_11]; exact f1000_c87
  have f1001_c92 : C_92 1001 = some (.inl (E.2.1 0, 160, .inl (fun _ => 0))) := by rw [hC_92]; rw [va_up_ne _ _ (by decide)]; exact f1001_c87
  have f1003_c92 : C_92 1003 = some (.inl (E.2.1 0, 60, .inl (fun _ => 0))) := by rw [hC_92]; rw [va_up_ne _ _ (by decide)]; exact f1003_c87
  have f1004_c92 : C_92 1004 = some (.inl (E.2.1 1, 60, .inr (.inl (fun _ => 0)))) := by rw [hC_92]; rw [va_up_ne _ _ (by decide)]; exact f1004_c87
  have f1005_c92 : C_92 1005 = some (.inl (E.2.1 0, 60, .inl (fun _ => 0))) := by rw [hC_92]; rw [va_up_ne _ _ (by decide)]; exact f1005_c87
  have f1006_c92 : C_92 1006 = some (.inl (E.2.1 0, 60, .inl (fun _ => 0))) := by rw [hC_92]; rw [va_up_ne _ _ (by decide)]; exact f1006_c87
  have f1007_c92 : C_92 1007 = some (.inl (E.2.1 1, 60, .inr (.inl (fun _ => 0)))) := by rw [hC_92]; rw [va_up_ne _ _ (by decide)]; exact f1007_c87
  have f1008_c92 : C_92 1008 = some (.inl (E.2.1 0, 60, .inl (fun _ => 0))) := by rw [hC_92]; rw [va_up_ne _ _ (by decide)]; exact f1008_c87
  have f1009_c92 : C_92 1009 = some (.inl (E.2.1 0, 4, .inl (fun _ => 0))) := by rw [hC_92]; rw [va_up_ne _ _ (by decide)]; exact f1009_c87
  have f1010_c92 : C_92 1010 = some (.inl (E.2.1 0, 4, .inl (fun _ => 0))) := by rw [hC_92]; rw [va_up_ne _ _ (by decide)]; exact f1010_c87
  have f1011_c92 : C_92 1011 = some (.inl (E.2.1 0, 44, .inl (fun _ => 0))) := by rw [hC_92]; rw [va_up_ne _ _ (by decide)]; exact f1011_c87
  have f1012_c92 : C_92 1012 = some (.inl (E.2.1 0, 4, .inl (fun _ => 0))) := by rw [hC_92]; rw [va_up_ne _ _ (by decide)]; exact f1012_c87
  have f1013_c92 : C_92 1013 = some (.inl (E.2.1 0, 4, .inl (fun _ => 0))) := by rw [hC_92]; exact va_up_self _ _ _
  have hl : lv_has ls 2 [(0, .ref (A_92 1000))] := by rw [am_92_0]; exact hl
  refine W.eq (g2 := F0 m 94 ls [.ref (A_92 1013), .ref (A_92 1000)]) (by rw [← an_92, am_92_0]) ?_
  clear am_92_0 am_92_1 am_92_2 am_92_3 am_92_4 am_92_5 am_92_6 am_92_7 am_92_8 am_92_9 am_92_10 am_92_11 an_92
  refine wg_putF F hnm hP hS f1000_c92 rfl iw_X8 tyX8_ok nmX8 13 (by decide) tb_562 rfl rfl rfl (Nat.le_of_ble_eq_true rfl) dX8_init_94 (fun H locs hP hS => ?_)
  obtain ⟨C_94, hC_94⟩ : ∃ z : wg_C, z = va_up C_92 1000 (some (.inr (8, [.int 0, .ref (A_92 1001), .int 0, .ref (A_92 1003), .ref (A_92 1004), .ref (A_92 1005), .ref (A_92 1006), .ref (A_92 1007), .ref (A_92 1008), .ref (A_92 1009), .ref (A_92 1010), .ref (A_92 1011), .ref (A_92 1012), .ref (A_92 1013), .null, .null, .null, .null, .null, .int 0, .int 0, .long 0, .long 0, .int 0, .null, .null, .null, .null, .null]))) := ⟨_, rfl⟩
  have hP : wg_P E A_92 C_94 H := by rw [hC_94]; exact hP
  have f1000_c94 : C_94 1000 = some (.inr (8, [.int 0, .ref (A_92 1001), .int 0, .ref (A_92 1003), .ref (A_92 1004), .ref (A_92 1005), .ref (A_92 1006), .ref (A_92 1007), .ref (A_92 1008), .ref (A_92 1009), .ref (A_92 1010), .ref (A_92 1011), .ref (A_92 1012), .ref (A_92 1013), .null, .null, .null, .null, .null, .int 0, .int 0, .long 0, .long 0, .int 0, .null, .null, .null, .null, .null])) := by rw [hC_94]; exact va_up_self _ _ _
  have f1001_c94 : C_94 1001 = some (.inl (E.2.1 0, 160, .inl (fun _ => 0))) := by rw [hC_94]; rw [va_up_ne _ _ (by decide)]; exact f1001_c92
  have f1003_c94 : C_94 1003 = some (.inl (E.2.1 0, 60, .inl (fun _ => 0))) := by rw [hC_94]; rw [va_up_ne _ _ (by decide)]; exact f1003_c92
  have f1004_c94 : C_94 1004 = some (.inl (E.2.1 1, 60, .inr (.inl (fun _ => 0)))) := by rw [hC_94]; rw [va_up_ne _ _ (by decide)]; exact f1004_c92
  have f1005_c94 : C_94 1005 = some (.inl (E.2.1 0, 60, .inl (fun _ => 0))) := by rw [hC_94]; rw [va_up_ne _ _ (by decide)]; exact f1005_c92
  have f1006_c94 : C_94 1006 = some (.inl (E.2.1 0, 60, .inl (fun _ => 0))) := by rw [hC_94]; rw [va_up_ne _ _ (by decide)]; exact f1006_c92
  have f1007_c94 : C_94 1007 = some (.inl (E.2.1 1, 60, .inr (.inl (fun _ => 0)))) := by rw [hC_94]; rw [va_up_ne _ _ (by decide)]; exact f1007_c92
  have f1008_c94 : C_94 1008 = some (.inl (E.2.1 0, 60, .inl (fun _ => 0))) := by rw [hC_94]; rw [va_up_ne _ _ (by decide)]; exact f1008_c92
  have f1009_c94 : C_94 1009 = some (.inl (E.2.1 0, 4, .inl (fun _ => 0))) := by rw [hC_94]; rw [va_up_ne _ _ (by decide)]; exact f1009_c92
  have f1010_c94 : C_94 1010 = some (.inl (E.2.1 0, 4, .inl (fun _ => 0))) := by rw [hC_94]; rw [va_up_ne _ _ (by decide)]; exact f1010_c92
  have f1011_c94 : C_94 1011 = some (.inl (E.2.1 0, 44, .inl (fun _ => 0))) := by rw [hC_94]; rw [va_up_ne _ _ (by decide)]; exact f1011_c92
  have f1012_c94 : C_94 1012 = some (.inl (E.2.1 0, 4, .inl (fun _ => 0))) := by rw [hC_94]; rw [va_up_ne _ _ (by decide)]; exact f1012_c92
  have f1013_c94 : C_94 1013 = some (.inl (E.2.1 0, 4, .inl (fun _ => 0))) := by rw [hC_94]; rw [va_up_ne _ _ (by decide)]; exact f1013_c92
  refine lv_aload_n hx hb dX8_init_97 rfl (lv_at hl 0 rfl) ?_
  refine lv_iconst (v := 4) hx hb dX8_init_98 (by decide) ?_
  refine wg_newaF (atype := .int) (a0 := (4, .inl (fun _ => 0))) F hP hS 1014 0 rfl (fun _ _ h => h) tb_74 (fun _ => rfl) (by decide) (by decide) (by decide) (Nat.le_of_ble_eq_true rfl) (Nat.le_of_ble_eq_true rfl) dX8_init_99 (fun q_99 H hP hS => ?_)
  obtain ⟨A_99, hA_99⟩ : ∃ z : Nat → Nat, z = va_up A_92 1014 q_99 := ⟨_, rfl⟩
  obtain ⟨C_99, hC_99⟩ : ∃ z : wg_C, z = va_up C_94 1014 (some (.inl (E.2.1 0, 4, .inl (fun _ => 0)))) := ⟨_, rfl⟩
  have hP : wg_P E A_99 C_99 H := by rw [hA_99, hC_99]; exact hP
  have an_99 : q_99 = A_99 1014 := by rw [hA_99]; exact (va_up_self _ _ _).symm
  have am_99_0 : A_99 1000 = A_92 1000 := by rw [hA_99]; rw [va_up_ne _ _ (by decide)]
  have am_99_1 : A_99 1001 = A_92 1001 := by rw [hA_99]; rw [va_up_ne _ _ (by decide)]
  have am_99_2 : A_99 1003 = A_92 1003 := by rw [hA_99]; rw [va_up_ne _ _ (by decide)]
  have am_99_3 : A_99 1004 = A_92 1004 := by rw [hA_99]; rw [va_up_ne _ _ (by decide)]
  have am_99_4 : A_99 1005 = A_92 1005 := by rw [hA_99]; rw [va_up_ne _ _ (by decide)]
  have am_99_5 : A_99 1006 = A_92 1006 := by rw [hA_99]; rw [va_up_ne _ _ (by decide)]
  have am_99_6 : A_99 1007 = A_92 1007 := by rw [hA_99]; rw [va_up_ne _ _ (by decide)]
  have am_99_7 : A_99 1008 = A_92 1008 := by rw [hA_99]; rw [va_up_ne _ _ (by decide)]
  have am_99_8 : A_99 1009 = A_92 1009 := by rw [hA_99]; rw [va_up_ne _ _ (by decide)]
  have am_99_9 : A_99 1010 = A_92 1010 := by rw [hA_99]; rw [va_up_ne _ _ (by decide)]
  have am_99_10 : A_99 1011 = A_92 1011 := by rw [hA_99]; rw [va_up_ne _ _ (by decide)]
  have am_99_11 : A_99 1012 = A_92 1012 := by rw [hA_99]; rw [va_up_ne _ _ (by decide)]
  have am_99_12 : A_99 1013 = A_92 1013 := by rw [hA_99]; rw [va_up_ne _ _ (by decide)]
  have f1000_c99 : C_99 1000 = some (.inr (8, [.int 0, .ref (A_99 1001), .int 0, .ref (A_99 1003), .ref (A_99 1004), .ref (A_99 1005), .ref (A_99 1006), .ref (A_99 1007), .ref (A_99 1008), .ref (A_99 1009), .ref (A_99 1010), .ref (A_99 1011), .ref (A_99 1012), .ref (A_99 1013), .null, .null, .null, .null, .null, .int 0, .int 0, .long 0, .long 0, .int 0, .null, .null, .null, .null, .null])) := by rw [hC_99]; rw [va_up_ne _ _ (by decide)]; rw [am_99_1, am_99_2, am_99_3, am_99_4, am_99_5, am_99_6, am_99_7, am_99_8, am_99_9, am_99_10, am_99_11, am_99_12]; exact f1000_c94
  have f1001_c99 : C_99 1001 = some (.inl (E.2.1 0, 160, .inl (fun _ => 0))) := by rw [hC_99]; rw [va_up_ne _ _ (by decide)]; exact f1001_c94
  have f1003_c99 : C_99 1003 = some (.inl (E.2.1 0, 60, .inl (fun _ => 0))) := by rw [hC_99]; rw [va_up_ne _ _ (by decide)]; exact f1003_c94
  have f1004_c99 : C_99 1004 = some (.inl (E.2.1 1, 60, .inr (.inl (fun _ => 0)))) := by rw [hC_99]; rw [va_up_ne _ _ (by decide)]; exact f1004_c94
  have f1005_c99 : C_99 1005 = some (.inl (E.2.1 0, 60, .inl (fun _ => 0))) := by rw [hC_99]; rw [va_up_ne _ _ (by decide)]; exact f1005_c94
  have f1006_c99 : C_99 1006 = some (.inl (E.2.1 0, 60, .inl (fun _ => 0))) := by rw [hC_99]; rw [va_up_ne _ _ (by decide)]; exact f1006_c94
  have f1007_c99 : C_99 1007 = some (.inl (E.2.1 1, 60, .inr (.inl (fun _ => 0)))) := by rw [hC_99]; rw [va_up_ne _ _ (by decide)]; exact f1007_c94
  have f1008_c99 : C_99 1008 = some (.inl (E.2.1 0, 60, .inl (fun _ => 0))) := by rw [hC_99]; rw [va_up_ne _ _ (by decide)]; exact f1008_c94
  have f1009_c99 : C_99 1009 = some (.inl (E.2.1 0, 4, .inl (fun _ => 0))) := by rw [hC_99]; rw [va_up_ne _ _ (by decide)]; exact f1009_c94
  have f1010_c99 : C_99 1010 = some (.inl (E.2.1 0, 4, .inl (fun _ => 0))) := by rw [hC_99]; rw [va_up_ne _ _ (by decide)]; exact f1010_c94
  have f1011_c99 : C_99 1011 = some (.inl (E.2.1 0, 44, .inl (fun _ => 0))) := by rw [hC_99]; rw [va_up_ne _ _ (by decide)]; exact f1011_c94
  have f1012_c99 : C_99 1012 = some (.inl (E.2.1 0, 4, .inl (fun _ => 0))) := by rw [hC_99]; rw [va_up_ne _ _ (by decide)]; exact f1012_c94
  have f1013_c99 : C_99 1013 = some (.inl (E.2.1 0, 4, .inl (fun _ => 0))) := by rw [hC_99]; rw [va_up_ne _ _ (by decide)]; exact f1013_c94
  have f1014_c99 : C_99 1014 = some (.inl (E.2.1 0, 4, .inl (fun _ => 0))) := by rw [hC_99]; exact va_up_self _ _ _
  have hl : lv_has ls 2 [(0, .ref (A_99 1000))] := by rw [am_99_0]; exact hl
  refine W.eq (g2 := F0 m 101 ls [.ref (A_99 1014), .ref (A_99 1000)]) (by rw [← an_99, am_99_0]) ?_
  clear am_99_0 am_99_1 am_99_2 am_99_3 am_99_4 am_99_5 am_99_6 am_99_7 am_99_8 am_99_9 am_99_10 am_99_11 am_99_12 an_99
  refine wg_putF F hnm hP hS f1000_c99 rfl iw_X8 tyX8_ok nmX8 14 (by decide) tb_563 rfl rfl rfl (Nat.le_of_ble_eq_true rfl) dX8_init_101 (fun H locs hP hS => ?_)
  obtain ⟨C_101, hC_101⟩ : ∃ z : wg_C, z = va_up C_99 1000 (some (.inr (8, [.int 0, .ref (A_99 1001), .int 0, .ref (A_99 1003), .ref (A_99 1004), .ref (A_99 1005), .ref (A_99 1006), .ref (A_99 1007), .ref (A_99 1008), .ref (A_99 1009), .ref (A_99 1010), .ref (A_99 1011), .ref (A_99 1012), .ref (A_99 1013), .ref (A_99 1014), .null, .null, .null, .null, .int 0, .int 0, .long 0, .long 0, .int 0, .null, .null, .null, .null, .null]))) := ⟨_, rfl⟩
  have hP : wg_P E A_99 C_101 H := by rw [hC_101]; exact hP
  have f1000_c101 : C_101 1000 = some (.inr (8, [.int 0, .ref (A_99 1001), .int 0, .ref (A_99 1003), .ref (A_99 1004), .ref (A_99 1005), .ref (A_99 1006), .ref (A_99 1007), .ref (A_99 1008), .ref (A_99 1009), .ref (A_99 1010), .ref (A_99 1011), .ref (A_99 1012), .ref (A_99 1013), .ref (A_99 1014), .null, .null, .null, .null, .int 0, .int 0, .long 0, .long 0, .int 0, .null, .null, .null, .null, .null])) := by rw [hC_101]; exact va_up_self _ _ _
  have f1001_c101 : C_101 1001 = some (.inl (E.2.1 0, 160, .inl (fun _ => 0))) := by rw [hC_101]; rw [va_up_ne _ _ (by decide)]; exact f1001_c99
  have f1003_c101 : C_101 1003 = some (.inl (E.2.1 0, 60, .inl (fun _ => 0))) := by rw [hC_101]; rw [va_up_ne _ _ (by decide)]; exact f1003_c99
  have f1004_c101 : C_101 1004 = some (.inl (E.2.1 1, 60, .inr (.inl (fun _ => 0)))) := by rw [hC_101]; rw [va_up_ne _ _ (by decide)]; exact f1004_c99
  have f1005_c101 : C_101 1005 = some (.inl (E.2.1 0, 60, .inl (fun _ => 0))) := by rw [hC_101]; rw [va_up_ne _ _ (by decide)]; exact f1005_c99
  have f1006_c101 : C_101 1006 = some (.inl (E.2.1 0, 60, .inl (fun _ => 0))) := by rw [hC_101]; rw [va_up_ne _ _ (by decide)]; exact f1006_c99
  have f1007_c101 : C_101 1007 = some (.inl (E.2.1 1, 60, .inr (.inl (fun _ => 0)))) := by rw [hC_101]; rw [va_up_ne _ _ (by decide)]; exact f1007_c99
  have f1008_c101 : C_101 1008 = some (.inl (E.2.1 0, 60, .inl (fun _ => 0))) := by rw [hC_101]; rw [va_up_ne _ _ (by decide)]; exact f1008_c99
  have f1009_c101 : C_101 1009 = some (.inl (E.2.1 0, 4, .inl (fun _ => 0))) := by rw [hC_101]; rw [va_up_ne _ _ (by decide)]; exact f1009_c99
  have f1010_c101 : C_101 1010 = some (.inl (E.2.1 0, 4, .inl (fun _ => 0))) := by rw [hC_101]; rw [va_up_ne _ _ (by decide)]; exact f1010_c99
  have f1011_c101 : C_101 1011 = some (.inl (E.2.1 0, 44, .inl (fun _ => 0))) := by rw [hC_101]; rw [va_up_ne _ _ (by decide)]; exact f1011_c99
  have f1012_c101 : C_101 1012 = some (.inl (E.2.1 0, 4, .inl (fun _ => 0))) := by rw [hC_101]; rw [va_up_ne _ _ (by decide)]; exact f1012_c99
  have f1013_c101 : C_101 1013 = some (.inl (E.2.1 0, 4, .inl (fun _ => 0))) := by rw [hC_101]; rw [va_up_ne _ _ (by decide)]; exact f1013_c99
  have f1014_c101 : C_101 1014 = some (.inl (E.2.1 0, 4, .inl (fun _ => 0))) := by rw [hC_101]; rw [va_up_ne _ _ (by decide)]; exact f1014_c99
  refine lv_aload_n hx hb dX8_init_104 rfl (lv_at hl 0 rfl) ?_
  refine lv_iconst (v := 4) hx hb dX8_init_105 (by decide) ?_
  refine wg_newaF (atype := .int) (a0 := (4, .inl (fun _ => 0))) F hP hS 1015 0 rfl (fun _ _ h => h) tb_74 (fun _ => rfl) (by decide) (by decide) (by decide) (Nat.le_of_ble_eq_true rfl) (Nat.le_of_ble_eq_true rfl) dX8_init_106 (fun q_106 H hP hS => ?_)
  obtain ⟨A_106, hA_106⟩ : ∃ z : Nat → Nat, z = va_up A_99 1015 q_106 := ⟨_, rfl⟩
  obtain ⟨C_106, hC_106⟩ : ∃ z : wg_C, z = va_up C_101 1015 (some (.inl (E.2.1 0, 4, .inl (fun _ => 0)))) := ⟨_, rfl⟩
  have hP : wg_P E A_106 C_106 H := by rw [hA_106, hC_106]; exact hP
  have an_106 : q_106 = A_106 1015 := by rw [hA_106]; exact (va_up_self _ _ _).symm
  have am_106_0 : A_106 1000 = A_99 1000 := by rw [hA_106]; rw [va_up_ne _ _ (by decide)]
  have am_106_1 : A_106 1001 = A_99 1001 := by rw [hA_106]; rw [va_up_ne _ _ (by decide)]
  have am_106_2 : A_106 1003 = A_99 1003 := by rw [hA_106]; rw [va_up_ne _ _ (by decide)]
  have am_106_3 : A_106 1004 = A_99 1004 := by rw [hA_106]; rw [va_up_ne _ _ (by decide)]
  have am_106_4 : A_106 1005 = A_99 1005 := by rw [hA_106]; rw [va_up_ne _ _ (by decide)]
  have am_106_5 : A_106 1006 = A_99 1006 := by rw [hA_106]; rw [va_up_ne _ _ (by decide)]
  have am_106_6 : A_106 1007 = A_99 1007 := by rw [hA_106]; rw [va_up_ne _ _ (by decide)]
  have am_106_7 : A_106 1008 = A_99 1008 := by rw [hA_106]; rw [va_up_ne _ _ (by decide)]
  have am_106_8 : A_106 1009 = A_99 1009 := by rw [hA_106]; rw [va_up_ne _ _ (by decide)]
  have am_106_9 : A_106 1010 = A_99 1010 := by rw [hA_106]; rw [va_up_ne _ _ (by decide)]
  have am_106_10 : A_106 1011 = A_99 1011 := by rw [hA_106]; rw [va_up_ne _ _ (by decide)]
  have am_106_11 : A_106 1012 = A_99 1012 := by rw [hA_106]; rw [va_up_ne _ _ (by decide)]
  have am_106_12 : A_106 1013 = A_99 1013 := by rw [hA_106]; rw [va_up_ne _ _ (by decide)]
  have am_106_13 : A_106 1014 = A_99 1014 := by rw [hA_106]; rw [va_up_ne _ _ (by decide)]
  have f1000_c106 : C_106 1000 = some (.inr (8, [.int 0, .ref (A_106 1001), .int 0, .ref (A_106 1003), .ref (A_106 1004), .ref (A_106 1005), .ref (A_106 1006), .ref (A_106 1007), .ref (A_106 1008), .ref (A_106 1009), .ref (A_106 1010), .ref (A_106 1011), .ref (A_106 1012), .ref (A_106 1013), .ref (A_106 1014), .null, .null, .null, .null, .int 0, .int 0, .long 0, .long 0, .int 0, .null, .null, .null, .null, .null])) := by rw [hC_106]; rw [va_up_ne _ _ (by decide)]; rw [am_106_1, am_106_2, am_106_3, am_106_4, am_106_5, am_106_6, am_106_7, am_106_8, am_106_9, am_106_10, am_106_11, am_106_12, am_106_13]; exact f1000_c101
  have f1001_c106 : C_106 1001 = some (.inl (E.2.1 0, 160, .inl (fun _ => 0))) := by rw [hC_106]; rw [va_up_ne _ _ (by decide)]; exact f1001_c101
  have f1003_c106 : C_106 1003 = some (.inl (E.2.1 0, 60, .inl (fun _ => 0))) := by rw [hC_106]; rw [va_up_ne _ _ (by decide)]; exact f1003_c101
  have f1004_c106 : C_106 1004 = some (.inl (E.2.1 1, 60, .inr (.inl (fun _ => 0)))) := by rw [hC_106]; rw [va_up_ne _ _ (by decide)]; exact f1004_c101
  have f1005_c106 : C_106 1005 = some (.inl (E.2.1 0, 60, .inl (fun _ => 0))) := by rw [hC_106]; rw [va_up_ne _ _ (by decide)]; exact f1005_c101
  have f1006_c106 : C_106 1006 = some (.inl (E.2.1 0, 60, .inl (fun _ => 0))) := by rw [hC_106]; rw [va_up_ne _ _ (by decide)]; exact f1006_c101
  have f1007_c106 : C_106 1007 = some (.inl (E.2.1 1, 60, .inr (.inl (fun _ => 0)))) := by rw [hC_106]; rw [va_up_ne _ _ (by decide)]; exact f1007_c101
  have f1008_c106 : C_106 1008 = some (.inl (E.2.1 0, 60, .inl (fun _ => 0))) := by rw [hC_106]; rw [va_up_ne _ _ (by decide)]; exact f1008_c101
  have f1009_c106 : C_106 1009 = some (.inl (E.2.1 0, 4, .inl (fun _ => 0))) := by rw [hC_106]; rw [va_up_ne _ _ (by decide)]; exact f1009_c101
  have f1010_c106 : C_106 1010 = some (.inl (E.2.1 0, 4, .inl (fun _ => 0))) := by rw [hC_106]; rw [va_up_ne _ _ (by decide)]; exact f1010_c101
  have f1011_c106 : C_106 1011 = some (.inl (E.2.1 0, 44, .inl (fun _ => 0))) := by rw [hC_106]; rw [va_up_ne _ _ (by decide)]; exact f1011_c101
  have f1012_c106 : C_106 1012 = some (.inl (E.2.1 0, 4, .inl (fun _ => 0))) := by rw [hC_106]; rw [va_up_ne _ _ (by decide)]; exact f1012_c101
  have f1013_c106 : C_106 1013 = some (.inl (E.2.1 0, 4, .inl (fun _ => 0))) := by rw [hC_106]; rw [va_up_ne _ _ (by decide)]; exact f1013_c101
  have f1014_c106 : C_106 1014 = some (.inl (E.2.1 0, 4, .inl (fun _ => 0))) := by rw [hC_106]; rw [va_up_ne _ _ (by decide)]; exact f1014_c101
  have f1015_c106 : C_106 1015 = some (.inl (E.2.1 0, 4, .inl (fun _ => 0))) := by rw [hC_106]; exact va_up_self _ _ _
  have hl : lv_has ls 2 [(0, .ref (A_106 1000))] := by rw [am_106_0]; exact hl
  refine W.eq (g2 := F0 m 108 ls [.ref (A_106 1015), .ref (A_106 1000)]) (by rw [← an_106, am_106_0]) ?_
  clear am_106_0 am_106_1 am_106_2 am_106_3 am_106_4 am_106_5 am_106_6 am_106_7 am_106_8 am_106_9 am_106_10 am_106_11 am_106_12 am_106_13 an_106
  refine wg_putF F hnm hP hS f1000_c106 rfl iw_X8 tyX8_ok nmX8 15 (by decide) tb_564 rfl rfl rfl (Nat.le_of_ble_eq_true rfl) dX8_init_108 (fun H locs hP hS => ?_)
  obtain ⟨C_108, hC_108⟩ : ∃ z : wg_C, z = va_up C_106 1000 (some (.inr (8, [.int 0, .ref (A_106 1001), .int 0, .ref (A_106 1003), .ref (A_106 1004), .ref (A_106 1005), .ref (A_106 1006), .ref (A_106 1007), .ref (A_106 1008), .ref (A_106 1009), .ref (A_106 1010), .ref (A_106 1011), .ref (A_106 1012), .ref (A_106 1013), .ref (A_106 1014), .ref (A_106 1015), .null, .null, .null, .int 0, .int 0, .long 0, .long 0, .int 0, .null, .null, .null, .null, .null]))) := ⟨_, rfl⟩
  have hP : wg_P E A_106 C_108 H := by rw [hC_108]; exact hP
  have f1000_c108 : C_108 1000 = some (.inr (8, [.int 0, .ref (A_106 1001), .int 0, .ref (A_106 1003), .ref (A_106 1004), .ref (A_106 1005), .ref (A_106 1006), .ref (A_106 1007), .ref (A_106 1008), .ref (A_106 1009), .ref (A_106 1010), .ref (A_106 1011), .ref (A_106 1012), .ref (A_106 1013), .ref (A_106 1014), .ref (A_106 1015), .null, .null, .null, .int 0, .int 0, .long 0, .long 0, .int 0, .null, .null, .null, .null, .null])) := by rw [hC_108]; exact va_up_self _ _ _
  have f1001_c108 : C_108 1001 = some (.inl (E.2.1 0, 160, .inl (fun _ => 0))) := by rw [hC_108]; rw [va_up_ne _ _ (by decide)]; exact f1001_c106
  have f1003_c108 : C_108 1003 = some (.inl (E.2.1 0, 60, .inl (fun _ => 0))) := by rw [hC_108]; rw [va_up_ne _ _ (by decide)]; exact f1003_c106
  have f1004_c108 : C_108 1004 = some (.inl (E.2.1 1, 60, .inr (.inl (fun _ => 0)))) := by rw [hC_108]; rw [va_up_ne _ _ (by decide)]; exact f1004_c106
  have f1005_c108 : C_108 1005 = some (.inl (E.2.1 0, 60, .inl (fun _ => 0))) := by rw [hC_108]; rw [va_up_ne _ _ (by decide)]; exact f1005_c106
  have f1006_c108 : C_108 1006 = some (.inl (E.2.1 0, 60, .inl (fun _ => 0))) := by rw [hC_108]; rw [va_up_ne _ _ (by decide)]; exact f1006_c106
  have f1007_c108 : C_108 1007 = some (.inl (E.2.1 1, 60, .inr (.inl (fun _ => 0)))) := by rw [hC_108]; rw [va_up_ne _ _ (by decide)]; exact f1007_c106
  have f1008_c108 : C_108 1008 = some (.inl (E.2.1 0, 60, .inl (fun _ => 0))) := by rw [hC_108]; rw [va_up_ne _ _ (by decide)]; exact f1008_c106
  have f1009_c108 : C_108 1009 = some (.inl (E.2.1 0, 4, .inl (fun _ => 0))) := by rw [hC_108]; rw [va_up_ne _ _ (by decide)]; exact f1009_c106
  have f1010_c108 : C_108 1010 = some (.inl (E.2.1 0, 4, .inl (fun _ => 0))) := by rw [hC_108]; rw [va_up_ne _ _ (by decide)]; exact f1010_c106
  have f1011_c108 : C_108 1011 = some (.inl (E.2.1 0, 44, .inl (fun _ => 0))) := by rw [hC_108]; rw [va_up_ne _ _ (by decide)]; exact f1011_c106
  have f1012_c108 : C_108 1012 = some (.inl (E.2.1 0, 4, .inl (fun _ => 0))) := by rw [hC_108]; rw [va_up_ne _ _ (by decide)]; exact f1012_c106
  have f1013_c108 : C_108 1013 = some (.inl (E.2.1 0, 4, .inl (fun _ => 0))) := by rw [hC_108]; rw [va_up_ne _ _ (by decide)]; exact f1013_c106
  have f1014_c108 : C_108 1014 = some (.inl (E.2.1 0, 4, .inl (fun _ => 0))) := by rw [hC_108]; rw [va_up_ne _ _ (by decide)]; exact f1014_c106
  have f1015_c108 : C_108 1015 = some (.inl (E.2.1 0, 4, .inl (fun _ => 0))) := by rw [hC_108]; rw [va_up_ne _ _ (by decide)]; exact f1015_c106
  refine lv_aload_n hx hb dX8_init_111 rfl (lv_at hl 0 rfl) ?_
  refine lv_sipush (v := 240) hx hb dX8_init_112 (by decide) ?_
  refine wg_newaF (atype := .int) (a0 := (240, .inl (fun _ => 0))) F hP hS 1016 0 rfl (fun _ _ h => h) tb_74 (fun _ => rfl) (by decide) (by decide) (by decide) (Nat.le_of_ble_eq_true rfl) (Nat.le_of_ble_eq_true rfl) dX8_init_115 (fun q_115 H hP hS => ?_)
  obtain ⟨A_115, hA_115⟩ : ∃ z : Nat → Nat, z = va_up A_106 1016 q_115 := ⟨_, rfl⟩
  obtain ⟨C_115, hC_115⟩ : ∃ z : wg_C, z = va_up C_108 1016 (some (.inl (E.2.1 0, 240, .inl (fun _ => 0)))) := ⟨_, rfl⟩
  have hP : wg_P E A_115 C_115 H := by rw [hA_115, hC_115]; exact hP
  have an_115 : q_115 = A_115 1016 := by rw [hA_115]; exact (va_up_self _ _ _).symm
  have am_115_0 : A_115 1000 = A_106 1000 := by rw [hA_115]; rw [va_up_ne _ _ (by decide)]
  have am_115_1 : A_115 1001 = A_106 1001 := by rw [hA_115]; rw [va_up_ne _ _ (by decide)]
  have am_115_2 : A_115 1003 = A_106 1003 := by rw [hA_115]; rw [va_up_ne _ _ (by decide)]
  have am_115_3 : A_115 1004 = A_106 1004 := by rw [hA_115]; rw [va_up_ne _ _ (by decide)]
  have am_115_4 : A_115 1005 = A_106 1005 := by rw [hA_115]; rw [va_up_ne _ _ (by decide)]
  have am_115_5 : A_115 1006 = A_106 1006 := by rw [hA_115]; rw [va_up_ne _ _ (by decide)]
  have am_115_6 : A_115 1007 = A_106 1007 := by rw [hA_115]; rw [va_up_ne _ _ (by decide)]
  have am_115_7 : A_115 1008 = A_106 1008 := by rw [hA_115]; rw [va_up_ne _ _ (by decide)]
  have am_115_8 : A_115 1009 = A_106 1009 := by rw [hA_115]; rw [va_up_ne _ _ (by decide)]
  have am_115_9 : A_115 1010 = A_106 1010 := by rw [hA_115]; rw [va_up_ne _ _ (by decide)]
  have am_115_10 : A_115 1011 = A_106 1011 := by rw [hA_115]; rw [va_up_ne _ _ (by decide)]
  have am_115_11 : A_115 1012 = A_106 1012 := by rw [hA_115]; rw [va_up_ne _ _ (by decide)]
  have am_115_12 : A_115 1013 = A_106 1013 := by rw [hA_115]; rw [va_up_ne _ _ (by decide)]
  have am_115_13 : A_115 1014 = A_106 1014 := by rw [hA_115]; rw [va_up_ne _ _ (by decide)]
  have am_115_14 : A_115 1015 = A_106 1015 := by rw [hA_115]; rw [va_up_ne _ _ (by decide)]
  have f1000_c115 : C_115 1000 = some (.inr (8, [.int 0, .ref (A_115 1001), .int 0, .ref (A_115 1003), .ref (A_115 1004), .ref (A_115 1005), .ref (A_115 1006), .ref (A_115 1007), .ref (A_115 1008), .ref (A_115 1009), .ref (A_115 1010), .ref (A_115 1011), .ref (A_115 1012), .ref (A_115 1013), .ref (A_115 1014), .ref (A_115 1015), .null, .null, .null, .int 0, .int 0, .long 0, .long 0, .int 0, .null, .null, .null, .null, .null])) := by rw [hC_115]; rw [va_up_ne _ _ (by decide)]; rw [am_115_1, am_115_2, am_115_3, am_115_4, am_115_5, am_115_6, am_115_7, am_115_8, am_115_9, am_115_10, am_115_11, am_115_12, am_115_13, am_115_14]; exact f1000_c108
  have f1001_c115 : C_115 1001 = some (.inl (E.2.1 0, 160, .inl (fun _ => 0))) := by rw [hC_115]; rw [va_up_ne _ _ (by decide)]; exact f1001_c108
  have f1003_c115 : C_115 1003 = some (.inl (E.2.1 0, 60, .inl (fun _ => 0))) := by rw [hC_115]; rw [va_up_ne _ _ (by decide)]; exact f1003_c108
  have f1004_c115 : C_115 1004 = some (.inl (E.2.1 1, 60, .inr (.inl (fun _ => 0)))) := by rw [hC_115]; rw [va_up_ne _ _ (by decide)]; exact f1004_c108
  have f1005_c115 : C_115 1005 = some (.inl (E.2.1 0, 60, .inl (fun _ => 0))) := by rw [hC_115]; rw [va_up_ne _ _ (by decide)]; exact f1005_c108
  have f1006_c115 : C_115 1006 = some (.inl (E.2.1 0, 60, .inl (fun _ => 0))) := by rw [hC_115]; rw [va_up_ne _ _ (by decide)]; exact f1006_c108
  have f1007_c115 : C_115 1007 = some (.inl (E.2.1 1, 60, .inr (.inl (fun _ => 0)))) := by rw [hC_115]; rw [va_up_ne _ _ (by decide)]; exact f1007_c108
  have f1008_c115 : C_115 1008 = some (.inl (E.2.1 0, 60, .inl (fun _ => 0))) := by rw [hC_115]; rw [va_up_ne _ _ (by decide)]; exact f1008_c108
  have f1009_c115 : C_115 1009 = some (.inl (E.2.1 0, 4, .inl (fun _ => 0))) := by rw [hC_115]; rw [va_up_ne _ _ (by decide)]; exact f1009_c108
  have f1010_c115 : C_115 1010 = some (.inl (E.2.1 0, 4, .inl (fun _ => 0))) := by rw [hC_115]; rw [va_up_ne _ _ (by decide)]; exact f1010_c108
  have f1011_c115 : C_115 1011 = some (.inl (E.2.1 0, 44, .inl (fun _ => 0))) := by rw [hC_115]; rw [va_up_ne _ _ (by decide)]; exact f1011_c108
  have f1012_c115 : C_115 1012 = some (.inl (E.2.1 0, 4, .inl (fun _ => 0))) := by rw [hC_115]; rw [va_up_ne _ _ (by decide)]; exact f1012_c108
  have f1013_c115 : C_115 1013 = some (.inl (E.2.1 0, 4, .inl (fun _ => 0))) := by rw [hC_115]; rw [va_up_ne _ _ (by decide)]; exact f1013_c108
  have f1014_c115 : C_115 1014 = some (.inl (E.2.1 0, 4, .inl (fun _ => 0))) := by rw [hC_115]; rw [va_up_ne _ _ (by decide)]; exact f1014_c108
  have f1015_c115 : C_115 1015 = some (.inl (E.2.1 0, 4, .inl (fun _ => 0))) := by rw [hC_115]; rw [va_up_ne _ _ (by decide)]; exact f1015_c108
  have f1016_c115 : C_115 1016 = some (.inl (E.2.1 0, 240, .inl (fun _ => 0))) := by rw [hC_115]; exact va_up_self _ _ _
  have hl : lv_has ls 2 [(0, .ref (A_115 1000))] := by rw [am_115_0]; exact hl
  refine W.eq (g2 := F0 m 117 ls [.ref (A_115 1016), .ref (A_115 1000)]) (by rw [← an_115, am_115_0]) ?_
  clear am_115_0 am_115_1 am_115_2 am_115_3 am_115_4 am_115_5 am_115_6 am_115_7 am_115_8 am_115_9 am_115_10 am_115_11 am_115_12 am_115_13 am_115_14 an_115
  refine wg_putF F hnm hP hS f1000_c115 rfl iw_X8 tyX8_ok nmX8 16 (by decide) tb_565 rfl rfl rfl (Nat.le_of_ble_eq_true rfl) dX8_init_117 (fun H locs hP hS => ?_)
  obtain ⟨C_117, hC_117⟩ : ∃ z : wg_C, z = va_up C_115 1000 (some (.inr (8, [.int 0, .ref (A_115 1001), .int 0, .ref (A_115 1003), .ref (A_115 1004), .ref (A_115 1005), .ref (A_115 1006), .ref (A_115 1007), .ref (A_115 1008), .ref (A_115 1009), .ref (A_115 1010), .ref (A_115 1011), .ref (A_115 1012), .ref (A_115 1013), .ref (A_115 1014), .ref (A_115 1015), .ref (A_115 1016), .null, .null, .int 0, .int 0, .long 0, .long 0, .int 0, .null, .null, .null, .null, .null]))) := ⟨_, rfl⟩
  have hP : wg_P E A_115 C_117 H := by rw [hC_117]; exact hP
  have f1000_c117 : C_117 1000 = some (.inr (8, [.int 0, .ref (A_115 1001), .int 0, .ref (A_115 1003), .ref (A_115 1004), .ref (A_115 1005), .ref (A_115 1006), .ref (A_115 1007), .ref (A_115 1008), .ref (A_115 1009), .ref (A_115 1010), .ref (A_115 1011), .ref (A_115 1012), .ref (A_115 1013), .ref (A_115 1014), .ref (A_115 1015), .ref (A_115 1016), .null, .null, .int 0, .int 0, .long 0, .long 0, .int 0, .null, .null, .null, .null, .null])) := by rw [hC_117]; exact va_up_self _ _ _
  have f1001_c117 : C_117 1001 = some (.inl (E.2.1 0, 160, .inl (fun _ => 0))) := by rw [hC_117]; rw [va_up_ne _ _ (by decide)]; exact f1001_c115
  have f1003_c117 : C_117 1003 = some (.inl (E.2.1 0, 60, .inl (fun _ => 0))) := by rw [hC_117]; rw [va_up_ne _ _ (by decide)]; exact f1003_c115
  have f1004_c117 : C_117 1004 = some (.inl (E.2.1 1, 60, .inr (.inl (fun _ => 0)))) := by rw [hC_117]; rw [va_up_ne _ _ (by decide)]; exact f1004_c115
  have f1005_c117 : C_117 1005 = some (.inl (E.2.1 0, 60, .inl (fun _ => 0))) := by rw [hC_117]; rw [va_up_ne _ _ (by decide)]; exact f1005_c115
  have f1006_c117 : C_117 1006 = some (.inl (E.2.1 0, 60, .inl (fun _ => 0))) := by rw [hC_117]; rw [va_up_ne _ _ (by decide)]; exact f1006_c115
  have f1007_c117 : C_117 1007 = some (.inl (E.2.1 1, 60, .inr (.inl (fun _ => 0)))) := by rw [hC_117]; rw [va_up_ne _ _ (by decide)]; exact f1007_c115
  have f1008_c117 : C_117 1008 = some (.inl (E.2.1 0, 60, .inl (fun _ => 0))) := by rw [hC_117]; rw [va_up_ne _ _ (by decide)]; exact f1008_c115
  have f1009_c117 : C_117 1009 = some (.inl (E.2.1 0, 4, .inl (fun _ => 0))) := by rw [hC_117]; rw [va_up_ne _ _ (by decide)]; exact f1009_c115
  have f1010_c117 : C_117 1010 = some (.inl (E.2.1 0, 4, .inl (fun _ => 0))) := by rw [hC_117]; rw [va_up_ne _ _ (by decide)]; exact f1010_c115
  have f1011_c117 : C_117 1011 = some (.inl (E.2.1 0, 44, .inl (fun _ => 0))) := by rw [hC_117]; rw [va_up_ne _ _ (by decide)]; exact f1011_c115
  have f1012_c117 : C_117 1012 = some (.inl (E.2.1 0, 4, .inl (fun _ => 0))) := by rw [hC_117]; rw [va_up_ne _ _ (by decide)]; exact f1012_c115
  have f1013_c117 : C_117 1013 = some (.inl (E.2.1 0, 4, .inl (fun _ => 0))) := by rw [hC_117]; rw [va_up_ne _ _ (by decide)]; exact f1013_c115
  have f1014_c117 : C_117 1014 = some (.inl (E.2.1 0, 4, .inl (fun _ => 0))) := by rw [hC_117]; rw [va_up_ne _ _ (by decide)]; exact f1014_c115
  have f1015_c117 : C_117 1015 = some (.inl (E.2.1 0, 4, .inl (fun _ => 0))) := by rw [hC_117]; rw [va_up_ne _ _ (by decide)]; exact f1015_c115
  have f1016_c117 : C_117 1016 = some (.inl (E.2.1 0, 240, .inl (fun _ => 0))) := by rw [hC_117]; rw [va_up_ne _ _ (by decide)]; exact f1016_c115
  refine lv_aload_n hx hb dX8_init_120 rfl (lv_at hl 0 rfl) ?_
  refine lv_bipush (v := 8) hx hb dX8_init_121 (by decide) ?_
  refine wg_newaF (atype := .long) (a0 := (8, .inr (.inl (fun _ => 0)))) F hP hS 1017 1 rfl (fun _ _ h => h) tb_75 (fun _ => rfl) (by decide) (by decide) (by decide) (Nat.le_of_ble_eq_true rfl) (Nat.le_of_ble_eq_true rfl) dX8_init_123 (fun q_123 H hP hS => ?_)
  obtain ⟨A_123, hA_123⟩ : ∃ z : Nat → Nat, z = va_up A_115 1017 q_123 := ⟨_, rfl⟩
  obtain ⟨C_123, hC_123⟩ : ∃ z : wg_C, z = va_up C_117 1017 (some (.inl (E.2.1 1, 8, .inr (.inl (fun _ => 0))))) := ⟨_, rfl⟩
  have hP : wg_P E A_123 C_123 H := by rw [hA_123, hC_123]; exact hP
  have an_123 : q_123 = A_123 1017 := by rw [hA_123]; exact (va_up_self _ _ _).symm
  have am_123_0 : A_123 1000 = A_115 1000 := by rw [hA_123]; rw [va_up_ne _ _ (by decide)]
  have am_123_1 : A_123 1001 = A_115 1001 := by rw [hA_123]; rw [va_up_ne _ _ (by decide)]
  have am_123_2 : A_123 1003 = A_115 1003 := by rw [hA_123]; rw [va_up_ne _ _ (by decide)]
  have am_123_3 : A_123 1004 = A_115 1004 := by rw [hA_123]; rw [va_up_ne _ _ (by decide)]
  have am_123_4 : A_123 1005 = A_115 1005 := by rw [hA_123]; rw [va_up_ne _ _ (by decide)]
  have am_123_5 : A_123 1006 = A_115 1006 := by rw [hA_123]; rw [va_up_ne _ _ (by decide)]
  have am_123_6 : A_123 1007 = A_115 1007 := by rw [hA_123]; rw [va_up_ne _ _ (by decide)]
  have am_123_7 : A_123 1008 = A_115 1008 := by rw [hA_123]; rw [va_up_ne _ _ (by decide)]
  have am_123_8 : A_123 1009 = A_115 1009 := by rw [hA_123]; rw [va_up_ne _ _ (by decide)]
  have am_123_9 : A_123 1010 = A_115 1010 := by rw [hA_123]; rw [va_up_ne _ _ (by decide)]
  have am_123_10 : A_123 1011 = A_115 1011 := by rw [hA_123]; rw [va_up_ne _ _ (by decide)]
  have am_123_11 : A_123 1012 = A_115 1012 := by rw [hA_123]; rw [va_up_ne _ _ (by decide)]
  have am_123_12 : A_123 1013 = A_115 1013 := by rw [hA_123]; rw [va_up_ne _ _ (by decide)]
  have am_123_13 : A_123 1014 = A_115 1014 := by rw [hA_123]; rw [va_up_ne _ _ (by decide)]
  have am_123_14 : A_123 1015 = A_115 1015 := by rw [hA_123]; rw [va_up_ne _ _ (by decide)]
  have am_123_15 : A_123 1016 = A_115 1016 := by rw [hA_123]; rw [va_up_ne _ _ (by decide)]
  have f1000_c123 : C_123 1000 = some (.inr (8, [.int 0, .ref (A_123 1001), .int 0, .ref (A_123 1003), .ref (A_123 1004), .ref (A_123 1005), .ref (A_123 1006), .ref (A_123 1007), .ref (A_123 1008), .ref (A_123 1009), .ref (A_123 1010), .ref (A_123 1011), .ref (A_123 1012), .ref (A_123 1013), .ref (A_123 1014), .ref (A_123 1015), .ref (A_123 1016), .null, .null, .int 0, .int 0, .long 0, .long 0, .int 0, .null, .null, .null, .null, .null])) := by rw [hC_123]; rw [va_up_ne _ _ (by decide)]; rw [am_123_1, am_123_2, am_123_3, am_123_4, am_123_5, am_123_6, am_123_7, am_123_8, am_123_9, am_123_10, am_123_11, am_123_12, am_123_13, am_123_14, am_123_15]; exact f1000_c117
  have f1001_c123 : C_123 1001 = some (.inl (E.2.1 0, 160, .inl (fun _ => 0))) := by rw [hC_123]; rw [va_up_ne _ _ (by decide)]; exact f1001_c117
  have f1003_c123 : C_123 1003 = some (.inl (E.2.1 0, 60, .inl (fun _ => 0))) := by rw [hC_123]; rw [va_up_ne _ _ (by decide)]; exact f1003_c117
  have f1004_c123 : C_123 1004 = some (.inl (E.2.1 1, 60, .inr (.inl (fun _ => 0)))) := by rw [hC_123]; rw [va_up_ne _ _ (by decide)]; exact f1004_c117
  have f1005_c123 : C_123 1005 = some (.inl (E.2.1 0, 60, .inl (fun _ => 0))) := by rw [hC_123]; rw [va_up_ne _ _ (by decide)]; exact f1005_c117
  have f1006_c123 : C_123 1006 = some (.inl (E.2.1 0, 60, .inl (fun _ => 0))) := by rw [hC_123]; rw [va_up_ne _ _ (by decide)]; exact f1006_c117
  have f1007_c123 : C_123 1007 = some (.inl (E.2.1 1, 60, .inr (.inl (fun _ => 0)))) := by rw [hC_123]; rw [va_up_ne _ _ (by decide)]; exact f1007_c117
  have f1008_c123 : C_123 1008 = some (.inl (E.2.1 0, 60, .inl (fun _ => 0))) := by rw [hC_123]; rw [va_up_ne _ _ (by decide)]; exact f1008_c117
  have f1009_c123 : C_123 1009 = some (.inl (E.2.1 0, 4, .inl (fun _ => 0))) := by rw [hC_123]; rw [va_up_ne _ _ (by decide)]; exact f1009_c117
  have f1010_c123 : C_123 1010 = some (.inl (E.2.1 0, 4, .inl (fun _ => 0))) := by rw [hC_123]; rw [va_up_ne _ _ (by decide)]; exact f1010_c117
  have f1011_c123 : C_123 1011 = some (.inl (E.2.1 0, 44, .inl (fun _ => 0))) := by rw [hC_123]; rw [va_up_ne _ _ (by decide)]; exact f1011_c117
  have f1012_c123 : C_123 1012 = some (.inl (E.2.1 0, 4, .inl (fun _ => 0))) := by rw [hC_123]; rw [va_up_ne _ _ (by decide)]; exact f1012_c117
  have f1013_c123 : C_123 1013 = some (.inl (E.2.1 0, 4, .inl (fun _ => 0))) := by rw [hC_123]; rw [va_up_ne _ _ (by decide)]; exact f1013_c117
  have f1014_c123 : C_123 1014 = some (.inl (E.2.1 0, 4, .inl (fun _ => 0))) := by rw [hC_123]; rw [va_up_ne _ _ (by decide)]; exact f1014_c117
  have f1015_c123 : C_123 1015 = some (.inl (E.2.1 0, 4, .inl (fun _ => 0))) := by rw [hC_123]; rw [va_up_ne _ _ (by decide)]; exact f1015_c117
  have f1016_c123 : C_123 1016 = some (.inl (E.2.1 0, 240, .inl (fun _ => 0))) := by rw [hC_123]; rw [va_up_ne _ _ (by decide)]; exact f1016_c117
  have f1017_c123 : C_123 1017 = some (.inl (E.2.1 1, 8, .inr (.inl (fun _ => 0)))) := by rw [hC_123]; exact va_up_self _ _ _
  have hl : lv_has ls 2 [(0, .ref (A_123 1000))] := by rw [am_123_0]; exact hl
  refine W.eq (g2 := F0 m 125 ls [.ref (A_123 1017), .ref (A_123 1000)]) (by rw [← an_123, am_123_0]) ?_
  clear am_123_0 am_123_1 am_123_2 am_123_3 am_123_4 am_123_5 am_123_6 am_123_7 am_123_8 am_123_9 am_123_10 am_123_11 am_123_12 am_123_13 am_123_14 am_123_15 an_123
  refine wg_putF F hnm hP hS f1000_c123 rfl iw_X8 tyX8_ok nmX8 17 (by decide) tb_566 rfl rfl rfl (Nat.le_of_ble_eq_true rfl) dX8_init_125 (fun H locs hP hS => ?_)
  obtain ⟨C_125, hC_125⟩ : ∃ z : wg_C, z = va_up C_123 1000 (some (.inr (8, [.int 0, .ref (A_123 1001), .int 0, .ref (A_123 1003), .ref (A_123 1004), .ref (A_123 1005), .ref (A_123 1006), .ref (A_123 1007), .ref (A_123 1008), .ref (A_123 1009), .ref (A_123 1010), .ref (A_123 1011), .ref (A_123 1012), .ref (A_123 1013), .ref (A_123 1014), .ref (A_123 1015), .ref (A_123 1016), .ref (A_123 1017), .null, .int 0, .int 0, .long 0, .long 0, .int 0, .null, .null, .null, .null, .null]))) := ⟨_, rfl⟩
  have hP : wg_P E A_123 C_125 H := by rw [hC_125]; exact hP
  have f1000_c125 : C_125 1000 = some (.inr (8, [.int 0, .ref (A_123 1001), .int 0, .ref (A_123 1003), .ref (A_123 1004), .ref (A_123 1005), .ref (A_123 1006), .ref (A_123 1007), .ref (A_123 1008), .ref (A_123 1009), .ref (A_123 1010), .ref (A_123 1011), .ref (A_123 1012), .ref (A_123 1013), .ref (A_123 1014), .ref (A_123 1015), .ref (A_123 1016), .ref (A_123 1017), .null, .int 0, .int 0, .long 0, .long 0, .int 0, .null, .null, .null, .null, .null])) := by rw [hC_125]; exact va_up_self _ _ _
  have f1001_c125 : C_125 1001 = some (.inl (E.2.1 0, 160, .inl (fun _ => 0))) := by rw [hC_125]; rw [va_up_ne _ _ (by decide)]; exact f1001_c123
  have f1003_c125 : C_125 1003 = some (.inl (E.2.1 0, 60, .inl (fun _ => 0))) := by rw [hC_125]; rw [va_up_ne _ _ (by decide)]; exact f1003_c123
  have f1004_c125 : C_125 1004 = some (.inl (E.2.1 1, 60, .inr (.inl (fun _ => 0)))) := by rw [hC_125]; rw [va_up_ne _ _ (by decide)]; exact f1004_c123
  have f1005_c125 : C_125 1005 = some (.inl (E.2.1 0, 60, .inl (fun _ => 0))) := by rw [hC_125]; rw [va_up_ne _ _ (by decide)]; exact f1005_c123
  have f1006_c125 : C_125 1006 = some (.inl (E.2.1 0, 60, .inl (fun _ => 0))) := by rw [hC_125]; rw [va_up_ne _ _ (by decide)]; exact f1006_c123
  have f1007_c125 : C_125 1007 = some (.inl (E.2.1 1, 60, .inr (.inl (fun _ => 0)))) := by rw [hC_125]; rw [va_up_ne _ _ (by decide)]; exact f1007_c123
  have f1008_c125 : C_125 1008 = some (.inl (E.2.1 0, 60, .inl (fun _ => 0))) := by rw [hC_125]; rw [va_up_ne _ _ (by decide)]; exact f1008_c123
  have f1009_c125 : C_125 1009 = some (.inl (E.2.1 0, 4, .inl (fun _ => 0))) := by rw [hC_125]; rw [va_up_ne _ _ (by decide)]; exact f1009_c123
  have f1010_c125 : C_125 1010 = some (.inl (E.2.1 0, 4, .inl (fun _ => 0))) := by rw [hC_125]; rw [va_up_ne _ _ (by decide)]; exact f1010_c123
  have f1011_c125 : C_125 1011 = some (.inl (E.2.1 0, 44, .inl (fun _ => 0))) := by rw [hC_125]; rw [va_up_ne _ _ (by decide)]; exact f1011_c123
  have f1012_c125 : C_125 1012 = some (.inl (E.2.1 0, 4, .inl (fun _ => 0))) := by rw [hC_125]; rw [va_up_ne _ _ (by decide)]; exact f1012_c123
  have f1013_c125 : C_125 1013 = some (.inl (E.2.1 0, 4, .inl (fun _ => 0))) := by rw [hC_125]; rw [va_up_ne _ _ (by decide)]; exact f1013_c123
  have f1014_c125 : C_125 1014 = some (.inl (E.2.1 0, 4, .inl (fun _ => 0))) := by rw [hC_125]; rw [va_up_ne _ _ (by decide)]; exact f1014_c123
  have f1015_c125 : C_125 1015 = some (.inl (E.2.1 0, 4, .inl (fun _ => 0))) := by rw [hC_125]; rw [va_up_ne _ _ (by decide)]; exact f1015_c123
  have f1016_c125 : C_125 1016 = some (.inl (E.2.1 0, 240, .inl (fun _ => 0))) := by rw [hC_125]; rw [va_up_ne _ _ (by decide)]; exact f1016_c123
  have f1017_c125 : C_125 1017 = some (.inl (E.2.1 1, 8, .inr (.inl (fun _ => 0)))) := by rw [hC_125]; rw [va_up_ne _ _ (by decide)]; exact f1017_c123
  refine lv_aload_n hx hb dX8_init_128 rfl (lv_at hl 0 rfl) ?_
  refine lv_bipush (v := 16) hx hb dX8_init_129 (by decide) ?_
  refine wg_newaF (atype := .long) (a0 := (16, .inr (.inl (fun _ => 0)))) F hP hS 1018 1 rfl (fun _ _ h => h) tb_75 (fun _ => rfl) (by decide) (by decide) (by decide) (Nat.le_of_ble_eq_true rfl) (Nat.le_of_ble_eq_true rfl) dX8_init_131 (fun q_131 H hP hS => ?_)
  obtain ⟨A_131, hA_131⟩ : ∃ z : Nat → Nat, z = va_up A_123 1018 q_131 := ⟨_, rfl⟩
  obtain ⟨C_131, hC_131⟩ : ∃ z : wg_C, z = va_up C_125 1018 (some (.inl (E.2.1 1, 16, .inr (.inl (fun _ => 0))))) := ⟨_, rfl⟩
  have hP : wg_P E A_131 C_131 H := by rw [hA_131, hC_131]; exact hP
  have an_131 : q_131 = A_131 1018 := by rw [hA_131]; exact (va_up_self _ _ _).symm
  have am_131_0 : A_131 1000 = A_123 1000 := by rw [hA_131]; rw [va_up_ne _ _ (by decide)]
  have am_131_1 : A_131 1001 = A_123 1001 := by rw [hA_131]; rw [va_up_ne _ _ (by decide)]
  have am_131_2 : A_131 1003 = A_123 1003 := by rw [hA_131]; rw [va_up_ne _ _ (by decide)]
  have am_131_3 : A_131 1004 = A_123 1004 := by rw [hA_131]; rw [va_up_ne _ _ (by decide)]
  have am_131_4 : A_131 1005 = A_123 1005 := by rw [hA_131]; rw [va_up_ne _ _ (by decide)]
  have am_131_5 : A_131 1006 = A_123 1006 := by rw [hA_131]; rw [va_up_ne _ _ (by decide)]
  have am_131_6 : A_131 1007 = A_123 1007 := by rw [hA_131]; rw [va_up_ne _ _ (by decide)]
  have am_131_7 : A_131 1008 = A_123 1008 := by rw [hA_131]; rw [va_up_ne _ _ (by decide)]
  have am_131_8 : A_131 1009 = A_123 1009 := by rw [hA_131]; rw [va_up_ne _ _ (by decide)]
  have am_131_9 : A_131 1010 = A_123 1010 := by rw [hA_131]; rw [va_up_ne _ _ (by decide)]
  have am_131_10 : A_131 1011 = A_123 1011 := by rw [hA_131]; rw [va_up_ne _ _ (by decide)]
  have am_131_11 : A_131 1012 = A_123 1012 := by rw [hA_131]; rw [va_up_ne _ _ (by decide)]
  have am_131_12 : A_131 1013 = A_123 1013 := by rw [hA_131]; rw [va_up_ne _ _ (by decide)]
  have am_131_13 : A_131 1014 = A_123 1014 := by rw [hA_131]; rw [va_up_ne _ _ (by decide)]
  have am_131_14 : A_131 1015 = A_123 1015 := by rw [hA_131]; rw [va_up_ne _ _ (by decide)]
  have am_131_15 : A_131 1016 = A_123 1016 := by rw [hA_131]; rw [va_up_ne _ _ (by decide)]
  have am_131_16 : A_131 1017 = A_123 1017 := by rw [hA_131]; rw [va_up_ne _ _ (by decide)]
  have f1000_c131 : C_131 1000 = some (.inr (8, [.int 0, .ref (A_131 1001), .int 0, .ref (A_131 1003), .ref (A_131 1004), .ref (A_131 1005), .ref (A_131 1006), .ref (A_131 1007), .ref (A_131 1008), .ref (A_131 1009), .ref (A_131 1010), .ref (A_131 1011), .ref (A_131 1012), .ref (A_131 1013), .ref (A_131 1014), .ref (A_131 1015), .ref (A_131 1016), .ref (A_131 1017), .null, .int 0, .int 0, .long 0, .long 0, .int 0, .null, .null, .null, .null, .null])) := by rw [hC_131]; rw [va_up_ne _ _ (by decide)]; rw [am_131_1, am_131_2, am_131_3, am_131_4, am_131_5, am_131_6, am_131_7, am_131_8, am_131_9, am_131_10, am_131_11, am_131_12, am_131_13, am_131_14, am_131_15, am_131_16]; exact f1000_c125
  have f1001_c131 : C_131 1001 = some (.inl (E.2.1 0, 160, .inl (fun _ => 0))) := by rw [hC_131]; rw [va_up_ne _ _ (by decide)]; exact f1001_c125
  have f1003_c131 : C_131 1003 = some (.inl (E.2.1 0, 60, .inl (fun _ => 0))) := by rw [hC_131]; rw [va_up_ne _ _ (by decide)]; exact f1003_c125
  have f1004_c131 : C_131 1004 = some (.inl (E.2.1 1, 60, .inr (.inl (fun _ => 0)))) := by rw [hC_131]; rw [va_up_ne _ _ (by decide)]; exact f1004_c125
  have f1005_c131 : C_131 1005 = some (.inl (E.2.1 0, 60, .inl (fun _ => 0))) := by rw [hC_131]; rw [va_up_ne _ _ (by decide)]; exact f1005_c125
  have f1006_c131 : C_131 1006 = some (.inl (E.2.1 0, 60, .inl (fun _ => 0))) := by rw [hC_131]; rw [va_up_ne _ _ (by decide)]; exact f1006_c125
  have f1007_c131 : C_131 1007 = some (.inl (E.2.1 1, 60, .inr (.inl (fun _ => 0)))) := by rw [hC_131]; rw [va_up_ne _ _ (by decide)]; exact f1007_c125
  have f1008_c131 : C_131 1008 = some (.inl (E.2.1 0, 60, .inl (fun _ => 0))) := by rw [hC_131]; rw [va_up_ne _ _ (by decide)]; exact f1008_c125
  have f1009_c131 : C_131 1009 = some (.inl (E.2.1 0, 4, .inl (fun _ => 0))) := by rw [hC_131]; rw [va_up_ne _ _ (by decide)]; exact f1009_c125
  have f1010_c131 : C_131 1010 = some (.inl (E.2.1 0, 4, .inl (fun _ => 0))) := by rw [hC_131]; rw [va_up_ne _ _ (by decide)]; exact f1010_c125
  have f1011_c131 : C_131 1011 = some (.inl (E.2.1 0, 44, .inl (fun _ => 0))) := by rw [hC_131]; rw [va_up_ne _ _ (by decide)]; exact f1011_c125
  have f1012_c131 : C_131 1012 = some (.inl (E.2.1 0, 4, .inl (fun _ => 0))) := by rw [hC_131]; rw [va_up_ne _ _ (by decide)]; exact f1012_c125
  have f1013_c131 : C_131 1013 = some (.inl (E.2.1 0, 4, .inl (fun _ => 0))) := by rw [hC_131]; rw [va_up_ne _ _ (by decide)]; exact f1013_c125
  have f1014_c131 : C_131 1014 = some (.inl (E.2.1 0, 4, .inl (fun _ => 0))) := by rw [hC_131]; rw [va_up_ne _ _ (by decide)]; exact f1014_c125
  have f1015_c131 : C_131 1015 = some (.inl (E.2.1 0, 4, .inl (fun _ => 0))) := by rw [hC_131]; rw [va_up_ne _ _ (by decide)]; exact f1015_c125
  have f1016_c131 : C_131 1016 = some (.inl (E.2.1 0, 240, .inl (fun _ => 0))) := by rw [hC_131]; rw [va_up_ne _ _ (by decide)]; exact f1016_c125
  have f1017_c131 : C_131 1017 = some (.inl (E.2.1 1, 8, .inr (.inl (fun _ => 0)))) := by rw [hC_131]; rw [va_up_ne _ _ (by decide)]; exact f1017_c125
  have f1018_c131 : C_131 1018 = some (.inl (E.2.1 1, 16, .inr (.inl (fun _ => 0)))) := by rw [hC_131]; exact va_up_self _ _ _
  have hl : lv_has ls 2 [(0, .ref (A_131 1000))] := by rw [am_131_0]; exact hl
  refine W.eq (g2 := F0 m 133 ls [.ref (A_131 1018), .ref (A_131 1000)]) (by rw [← an_131, am_131_0]) ?_
  clear am_131_0 am_131_1 am_131_2 am_131_3 am_131_4 am_131_5 am_131_6 am_131_7 am_131_8 am_131_9 am_131_10 am_131_11 am_131_12 am_131_13 am_131_14 am_131_15 am_131_16 an_131
  refine wg_putF F hnm hP hS f1000_c131 rfl iw_X8 tyX8_ok nmX8 18 (by decide) tb_567 rfl rfl rfl (Nat.le_of_ble_eq_true rfl) dX8_init_133 (fun H locs hP hS => ?_)
  obtain ⟨C_133, hC_133⟩ : ∃ z : wg_C, z = va_up C_131 1000 (some (.inr (8, [.int 0, .ref (A_131 1001), .int 0, .ref (A_131 1003), .ref (A_131 1004), .ref (A_131 1005), .ref (A_131 1006), .ref (A_131 1007), .ref (A_131 1008), .ref (A_131 1009), .ref (A_131 1010), .ref (A_131 1011), .ref (A_131 1012), .ref (A_131 1013), .ref (A_131 1014), .ref (A_131 1015), .ref (A_131 1016), .ref (A_131 1017), .ref (A_131 1018), .int 0, .int 0, .long 0, .long 0, .int 0, .null, .null, .null, .null, .null]))) := ⟨_, rfl⟩
  have hP : wg_P E A_131 C_133 H := by rw [hC_133]; exact hP
  have f1000_c133 : C_133 1000 = some (.inr (8, [.int 0, .ref (A_131 1001), .int 0, .ref (A_131 1003), .ref (A_131 1004), .ref (A_131 1005), .ref (A_131 1006), .ref (A_131 1007), .ref (A_131 1008), .ref (A_131 1009), .ref (A_131 1010), .ref (A_131 1011), .ref (A_131 1012), .ref (A_131 1013), .ref (A_131 1014), .ref (A_131 1015), .ref (A_131 1016), .ref (A_131 1017), .ref (A_131 1018), .int 0, .int 0, .long 0, .long 0, .int 0, .null, .null, .null, .null, .null])) := by rw [hC_133]; exact va_up_self _ _ _
  have f1001_c133 : C_133 1001 = some (.inl (E.2.1 0, 160, .inl (fun _ => 0))) := by rw [hC_133]; rw [va_up_ne _ _ (by decide)]; exact f1001_c131
  have f1003_c133 : C_133 1003 = some (.inl (E.2.1 0, 60, .inl (fun _ => 0))) := by rw [hC_133]; rw [va_up_ne _ _ (by decide)]; exact f1003_c131
  have f1004_c133 : C_133 1004 = some (.inl (E.2.1 1, 60, .inr (.inl (fun _ => 0)))) := by rw [hC_133]; rw [va_up_ne _ _ (by decide)]; exact f1004_c131
  have f1005_c133 : C_133 1005 = some (.inl (E.2.1 0, 60, .inl (fun _ => 0))) := by rw [hC_133]; rw [va_up_ne _ _ (by decide)]; exact f1005_c131
  have f1006_c133 : C_133 1006 = some (.inl (E.2.1 0, 60, .inl (fun _ => 0))) := by rw [hC_133]; rw [va_up_ne _ _ (by decide)]; exact f1006_c131
  have f1007_c133 : C_133 1007 = some (.inl (E.2.1 1, 60, .inr (.inl (fun _ => 0)))) := by rw [hC_133]; rw [va_up_ne _ _ (by decide)]; exact f1007_c131
  have f1008_c133 : C_133 1008 = some (.inl (E.2.1 0, 60, .inl (fun _ => 0))) := by rw [hC_133]; rw [va_up_ne _ _ (by decide)]; exact f1008_c131
  have f1009_c133 : C_133 1009 = some (.inl (E.2.1 0, 4, .inl (fun _ => 0))) := by rw [hC_133]; rw [va_up_ne _ _ (by decide)]; exact f1009_c131
  have f1010_c133 : C_133 1010 = some (.inl (E.2.1 0, 4, .inl (fun _ => 0))) := by rw [hC_133]; rw [va_up_ne _ _ (by decide)]; exact f1010_c131
  have f1011_c133 : C_133 1011 = some (.inl (E.2.1 0, 44, .inl (fun _ => 0))) := by rw [hC_133]; rw [va_up_ne _ _ (by decide)]; exact f1011_c131
  have f1012_c133 : C_133 1012 = some (.inl (E.2.1 0, 4, .inl (fun _ => 0))) := by rw [hC_133]; rw [va_up_ne _ _ (by decide)]; exact f1012_c131
  have f1013_c133 : C_133 1013 = some (.inl (E.2.1 0, 4, .inl (fun _ => 0))) := by rw [hC_133]; rw [va_up_ne _ _ (by decide)]; exact f1013_c131
  have f1014_c133 : C_133 1014 = some (.inl (E.2.1 0, 4, .inl (fun _ => 0))) := by rw [hC_133]; rw [va_up_ne _ _ (by decide)]; exact f1014_c131
  have f1015_c133 : C_133 1015 = some (.inl (E.2.1 0, 4, .inl (fun _ => 0))) := by rw [hC_133]; rw [va_up_ne _ _ (by decide)]; exact f1015_c131
  have f1016_c133 : C_133 1016 = some (.inl (E.2.1 0, 240, .inl (fun _ => 0))) := by rw [hC_133]; rw [va_up_ne _ _ (by decide)]; exact f1016_c131
  have f1017_c133 : C_133 1017 = some (.inl (E.2.1 1, 8, .inr (.inl (fun _ => 0)))) := by rw [hC_133]; rw [va_up_ne _ _ (by decide)]; exact f1017_c131
  have f1018_c133 : C_133 1018 = some (.inl (E.2.1 1, 16, .inr (.inl (fun _ => 0)))) := by rw [hC_133]; rw [va_up_ne _ _ (by decide)]; exact f1018_c131
  refine lv_aload_n hx hb dX8_init_136 rfl (lv_at hl 0 rfl) ?_
  refine lv_iconst (v := 4) hx hb dX8_init_137 (by decide) ?_
  refine wg_newaF (atype := .int) (a0 := (4, .inl (fun _ => 0))) F hP hS 1024 0 rfl (fun _ _ h => h) tb_74 (fun _ => rfl) (by decide) (by decide) (by decide) (Nat.le_of_ble_eq_true rfl) (Nat.le_of_ble_eq_true rfl) dX8_init_138 (fun q_138 H hP hS => ?_)
  obtain ⟨A_138, hA_138⟩ : ∃ z : Nat → Nat, z = va_up A_131 1024 q_138 := ⟨_, rfl⟩
  obtain ⟨C_138, hC_138⟩ : ∃ z : wg_C, z = va_up C_133 1024 (some (.inl (E.2.1 0, 4, .inl (fun _ => 0)))) := ⟨_, rfl⟩
  have hP : wg_P E A_138 C_138 H := by rw [hA_138, hC_138]; exact hP
  have an_138 : q_138 = A_138 1024 := by rw [hA_138]; exact (va_up_self _ _ _).symm
  have am_138_0 : A_138 1000 = A_131 1000 := by rw [hA_138]; rw [va_up_ne _ _ (by decide)]
  have am_138_1 : A_138 1001 = A_131 1001 := by rw [hA_138]; rw [va_up_ne _ _ (by decide)]
  have am_138_2 : A_138 1003 = A_131 1003 := by rw [hA_138]; rw [va_up_ne _ _ (by decide)]
  have am_138_3 : A_138 1004 = A_131 1004 := by rw [hA_138]; rw [va_up_ne _ _ (by decide)]
  have am_138_4 : A_138 1005 = A_131 1005 := by rw [hA_138]; rw [va_up_ne _ _ (by decide)]
  have am_138_5 : A_138 1006 = A_131 1006 := by rw [hA_138]; rw [va_up_ne _ _ (by decide)]
  have am_138_6 : A_138 1007 = A_131 1007 := by rw [hA_138]; rw [va_up_ne _ _ (by decide)]
  have am_138_7 : A_138 1008 = A_131 1008 := by rw [hA_138]; rw [va_up_ne _ _ (by decide)]
  have am_138_8 : A_138 1009 = A_131 1009 := by rw [hA_138]; rw [va_up_ne _ _ (by decide)]
  have am_138_9 : A_138 1010 = A_131 1010 := by rw [hA_138]; rw [va_up_ne _ _ (by decide)]
  have am_138_10 : A_138 1011 = A_131 1011 := by rw [hA_138]; rw [va_up_ne _ _ (by decide)]
  have am_138_11 : A_138 1012 = A_131 1012 := by rw [hA_138]; rw [va_up_ne _ _ (by decide)]
  have am_138_12 : A_138 1013 = A_131 1013 := by rw [hA_138]; rw [va_up_ne _ _ (by decide)]
  have am_138_13 : A_138 1014 = A_131 1014 := by rw [hA_138]; rw [va_up_ne _ _ (by decide)]
  have am_138_14 : A_138 1015 = A_131 1015 := by rw [hA_138]; rw [va_up_ne _ _ (by decide)]
  have am_138_15 : A_138 1016 = A_131 1016 := by rw [hA_138]; rw [va_up_ne _ _ (by decide)]
  have am_138_16 : A_138 1017 = A_131 1017 := by rw [hA_138]; rw [va_up_ne _ _ (by decide)]
  have am_138_17 : A_138 1018 = A_131 1018 := by rw [hA_138]; rw [va_up_ne _ _ (by decide)]
  have f1000_c138 : C_138 1000 = some (.inr (8, [.int 0, .ref (A_138 1001), .int 0, .ref (A_138 1003), .ref (A_138 1004), .ref (A_138 1005), .ref (A_138 1006), .ref (A_138 1007), .ref (A_138 1008), .ref (A_138 1009), .ref (A_138 1010), .ref (A_138 1011), .ref (A_138 1012), .ref (A_138 1013), .ref (A_138 1014), .ref (A_138 1015), .ref (A_138 1016), .ref (A_138 1017), .ref (A_138 1018), .int 0, .int 0, .long 0, .long 0, .int 0, .null, .null, .null, .null, .null])) := by rw [hC_138]; rw [va_up_ne _ _ (by decide)]; rw [am_138_1, am_138_2, am_138_3, am_138_4, am_138_5, am_138_6, am_138_7, am_138_8, am_138_9, am_138_10, am_138_11, am_138_12, am_138_13, am_138_14, am_138_15, am_138_16, am_138_17]; exact f1000_c133
  have f1001_c138 : C_138 1001 = some (.inl (E.2.1 0, 160, .inl (fun _ => 0))) := by rw [hC_138]; rw [va_up_ne _ _ (by decide)]; exact f1001_c133
  have f1003_c138 : C_138 1003 = some (.inl (E.2.1 0, 60, .inl (fun _ => 0))) := by rw [hC_138]; rw [va_up_ne _ _ (by decide)]; exact f1003_c133
  have f1004_c138 : C_138 1004 = some (.inl (E.2.1 1, 60, .inr (.inl (fun _ => 0)))) := by rw [hC_138]; rw [va_up_ne _ _ (by decide)]; exact f1004_c133
  have f1005_c138 : C_138 1005 = some (.inl (E.2.1 0, 60, .inl (fun _ => 0))) := by rw [hC_138]; rw [va_up_ne _ _ (by decide)]; exact f1005_c133
  have f1006_c138 : C_138 1006 = some (.inl (E.2.1 0, 60, .inl (fun _ => 0))) := by rw [hC_138]; rw [va_up_ne _ _ (by decide)]; exact f1006_c133
  have f1007_c138 : C_138 1007 = some (.inl (E.2.1 1, 60, .inr (.inl (fun _ => 0)))) := by rw [hC_138]; rw [va_up_ne _ _ (by decide)]; exact f1007_c133
  have f1008_c138 : C_138 1008 = some (.inl (E.2.1 0, 60, .inl (fun _ => 0))) := by rw [hC_138]; rw [va_up_ne _ _ (by decide)]; exact f1008_c133
  have f1009_c138 : C_138 1009 = some (.inl (E.2.1 0, 4, .inl (fun _ => 0))) := by rw [hC_138]; rw [va_up_ne _ _ (by decide)]; exact f1009_c133
  have f1010_c138 : C_138 1010 = some (.inl (E.2.1 0, 4, .inl (fun _ => 0))) := by rw [hC_138]; rw [va_up_ne _ _ (by decide)]; exact f1010_c133
  have f1011_c138 : C_138 1011 = some (.inl (E.2.1 0, 44, .inl (fun _ => 0))) := by rw [hC_138]; rw [va_up_ne _ _ (by decide)]; exact f1011_c133
  have f1012_c138 : C_138 1012 = some (.inl (E.2.1 0, 4, .inl (fun _ => 0))) := by rw [hC_138]; rw [va_up_ne _ _ (by decide)]; exact f1012_c133
  have f1013_c138 : C_138 1013 = some (.inl (E.2.1 0, 4, .inl (fun _ => 0))) := by rw [hC_138]; rw [va_up_ne _ _ (by decide)]; exact f1013_c133
  have f1014_c138 : C_138 1014 = some (.inl (E.2.1 0, 4, .inl (fun _ => 0))) := by rw [hC_138]; rw [va_up_ne _ _ (by decide)]; exact f1014_c133
  have f1015_c138 : C_138 1015 = some (.inl (E.2.1 0, 4, .inl (fun _ => 0))) := by rw [hC_138]; rw [va_up_ne _ _ (by decide)]; exact f1015_c133
  have f1016_c138 : C_138 1016 = some (.inl (E.2.1 0, 240, .inl (fun _ => 0))) := by rw [hC_138]; rw [va_up_ne _ _ (by decide)]; exact f1016_c133
  have f1017_c138 : C_138 1017 = some (.inl (E.2.1 1, 8, .inr (.inl (fun _ => 0)))) := by rw [hC_138]; rw [va_up_ne _ _ (by decide)]; exact f1017_c133
  have f1018_c138 : C_138 1018 = some (.inl (E.2.1 1, 16, .inr (.inl (fun _ => 0)))) := by rw [hC_138]; rw [va_up_ne _ _ (by decide)]; exact f1018_c133
  have f1024_c138 : C_138 1024 = some (.inl (E.2.1 0, 4, .inl (fun _ => 0))) := by rw [hC_138]; exact va_up_self _ _ _
  have hl : lv_has ls 2 [(0, .ref (A_138 1000))] := by rw [am_138_0]; exact hl
  refine W.eq (g2 := F0 m 140 ls [.ref (A_138 1024), .ref (A_138 1000)]) (by rw [← an_138, am_138_0]) ?_
  clear am_138_0 am_138_1 am_138_2 am_138_3 am_138_4 am_138_5 am_138_6 am_138_7 am_138_8 am_138_9 am_138_10 am_138_11 am_138_12 am_138_13 am_138_14 am_138_15 am_138_16 am_138_17 an_138
  refine wg_putF F hnm hP hS f1000_c138 rfl iw_X8 tyX8_ok nmX8 24 (by decide) tb_573 rfl rfl rfl (Nat.le_of_ble_eq_true rfl) dX8_init_140 (fun H locs hP hS => ?_)
  obtain ⟨C_140, hC_140⟩ : ∃ z : wg_C, z = va_up C_138 1000 (some (.inr (8, [.int 0, .ref (A_138 1001), .int 0, .ref (A_138 1003), .ref (A_138 1004), .ref (A_138 1005), .ref (A_138 1006), .ref (A_138 1007), .ref (A_138 1008), .ref (A_138 1009), .ref (A_138 1010), .ref (A_138 1011), .ref (A_138 1012), .ref (A_138 1013), .ref (A_138 1014), .ref (A_138 1015), .ref (A_138 1016), .ref (A_138 1017), .ref (A_138 1018), .int 0, .int 0, .long 0, .long 0, .int 0, .ref (A_138 1024), .null, .null, .null, .null]))) := ⟨_, rfl⟩
  have hP : wg_P E A_138 C_140 H := by rw [hC_140]; exact hP
  have f1000_c140 : C_140 1000 = some (.inr (8, [.int 0, .ref (A_138 1001), .int 0, .ref (A_138 1003), .ref (A_138 1004), .ref (A_138 1005), .ref (A_138 1006), .ref (A_138 1007), .ref (A_138 1008), .ref (A_138 1009), .ref (A_138 1010), .ref (A_138 1011), .ref (A_138 1012), .ref (A_138 1013), .ref (A_138 1014), .ref (A_138 1015), .ref (A_138 1016), .ref (A_138 1017), .ref (A_138 1018), .int 0, .int 0, .long 0, .long 0, .int 0, .ref (A_138 1024), .null, .null, .null, .null])) := by rw [hC_140]; exact va_up_self _ _ _
  have f1001_c140 : C_140 1001 = some (.inl (E.2.1 0, 160, .inl (fun _ => 0))) := by rw [hC_140]; rw [va_up_ne _ _ (by decide)]; exact f1001_c138
  have f1003_c140 : C_140 1003 = some (.inl (E.2.1 0, 60, .inl (fun _ => 0))) := by rw [hC_140]; rw [va_up_ne _ _ (by decide)]; exact f1003_c138
  have f1004_c140 : C_140 1004 = some (.inl (E.2.1 1, 60, .inr (.inl (fun _ => 0)))) := by rw [hC_140]; rw [va_up_ne _ _ (by decide)]; exact f1004_c138
  have f1005_c140 : C_140 1005 = some (.inl (E.2.1 0, 60, .inl (fun _ => 0))) := by rw [hC_140]; rw [va_up_ne _ _ (by decide)]; exact f1005_c138
  have f1006_c140 : C_140 1006 = some (.inl (E.2.1 0, 60, .inl (fun _ => 0))) := by rw [hC_140]; rw [va_up_ne _ _ (by decide)]; exact f1006_c138
  have f1007_c140 : C_140 1007 = some (.inl (E.2.1 1, 60, .inr (.inl (fun _ => 0)))) := by rw [hC_140]; rw [va_up_ne _ _ (by decide)]; exact f1007_c138
  have f1008_c140 : C_140 1008 = some (.inl (E.2.1 0, 60, .inl (fun _ => 0))) := by rw [hC_140]; rw [va_up_ne _ _ (by decide)]; exact f1008_c138
  have f1009_c140 : C_140 1009 = some (.inl (E.2.1 0, 4, .inl (fun _ => 0))) := by rw [hC_140]; rw [va_up_ne _ _ (by decide)]; exact f1009_c138
  have f1010_c140 : C_140 1010 = some (.inl (E.2.1 0, 4, .inl (fun _ => 0))) := by rw [hC_140]; rw [va_up_ne _ _ (by decide)]; exact f1010_c138
  have f1011_c140 : C_140 1011 = some (.inl (E.2.1 0, 44, .inl (fun _ => 0))) := by rw [hC_140]; rw [va_up_ne _ _ (by decide)]; exact f1011_c138
  have f1012_c140 : C_140 1012 = some (.inl (E.2.1 0, 4, .inl (fun _ => 0))) := by rw [hC_140]; rw [va_up_ne _ _ (by decide)]; exact f1012_c138
  have f1013_c140 : C_140 1013 = some (.inl (E.2.1 0, 4, .inl (fun _ => 0))) := by rw [hC_140]; rw [va_up_ne _ _ (by decide)]; exact f1013_c138
  have f1014_c140 : C_140 1014 = some (.inl (E.2.1 0, 4, .inl (fun _ => 0))) := by rw [hC_140]; rw [va_up_ne _ _ (by decide)]; exact f1014_c138
  have f1015_c140 : C_140 1015 = some (.inl (E.2.1 0, 4, .inl (fun _ => 0))) := by rw [hC_140]; rw [va_up_ne _ _ (by decide)]; exact f1015_c138
  have f1016_c140 : C_140 1016 = some (.inl (E.2.1 0, 240, .inl (fun _ => 0))) := by rw [hC_140]; rw [va_up_ne _ _ (by decide)]; exact f1016_c138
  have f1017_c140 : C_140 1017 = some (.inl (E.2.1 1, 8, .inr (.inl (fun _ => 0)))) := by rw [hC_140]; rw [va_up_ne _ _ (by decide)]; exact f1017_c138
  have f1018_c140 : C_140 1018 = some (.inl (E.2.1 1, 16, .inr (.inl (fun _ => 0)))) := by rw [hC_140]; rw [va_up_ne _ _ (by decide)]; exact f1018_c138
  have f1024_c140 : C_140 1024 = some (.inl (E.2.1 0, 4, .inl (fun _ => 0))) := by rw [hC_140]; rw [va_up_ne _ _ (by decide)]; exact f1024_c138
  refine lv_aload_n hx hb dX8_init_143 rfl (lv_at hl 0 rfl) ?_
  refine lv_iconst (v := 4) hx hb dX8_init_144 (by decide) ?_
  refine wg_newaF (atype := .long) (a0 := (4, .inr (.inl (fun _ => 0)))) F hP hS 1025 1 rfl (fun _ _ h => h) tb_75 (fun _ => rfl) (by decide) (by decide) (by decide) (Nat.le_of_ble_eq_true rfl) (Nat.le_of_ble_eq_true rfl) dX8_init_145 (fun q_145 H hP hS => ?_)
  obtain ⟨A_145, hA_145⟩ : ∃ z : Nat → Nat, z = va_up A_138 1025 q_145 := ⟨_, rfl⟩
  obtain ⟨C_145, hC_145⟩ : ∃ z : wg_C, z = va_up C_140 1025 (some (.inl (E.2.1 1, 4, .inr (.inl (fun _ => 0))))) := ⟨_, rfl⟩
  have hP : wg_P E A_145 C_145 H := by rw [hA_145, hC_145]; exact hP
  have an_145 : q_145 = A_145 1025 := by rw [hA_145]; exact (va_up_self _ _ _).symm
  have am_145_0 : A_145 1000 = A_138 1000 := by rw [hA_145]; rw [va_up_ne _ _ (by decide)]
  have am_145_1 : A_145 1001 = A_138 1001 := by rw [hA_145]; rw [va_up_ne _ _ (by decide)]
  have am_145_2 : A_145 1003 = A_138 1003 := by rw [hA_145]; rw [va_up_ne _ _ (by decide)]
  have am_145_3 : A_145 1004 = A_138 1004 := by rw [hA_145]; rw [va_up_ne _ _ (by decide)]
  have am_145_4 : A_145 1005 = A_138 1005 := by rw [hA_145]; rw [va_up_ne _ _ (by decide)]
  have am_145_5 : A_145 1006 = A_138 1006 := by rw [hA_145]; rw [va_up_ne _ _ (by decide)]
  have am_145_6 : A_145 1007 = A_138 1007 := by rw [hA_145]; rw [va_up_ne _ _ (by decide)]
  have am_145_7 : A_145 1008 = A_138 1008 := by rw [hA_145]; rw [va_up_ne _ _ (by decide)]
  have am_145_8 : A_145 1009 = A_138 1009 := by rw [hA_145]; rw [va_up_ne _ _ (by decide)]
  have am_145_9 : A_145 1010 = A_138 1010 := by rw [hA_145]; rw [va_up_ne _ _ (by decide)]
  have am_145_10 : A_145 1011 = A_138 1011 := by rw [hA_145]; rw [va_up_ne _ _ (by decide)]
  have am_145_11 : A_145 1012 = A_138 1012 := by rw [hA_145]; rw [va_up_ne _ _ (by decide)]
  have am_145_12 : A_145 1013 = A_138 1013 := by rw [hA_145]; rw [va_up_ne _ _ (by decide)]
  have am_145_13 : A_145 1014 = A_138 1014 := by rw [hA_145]; rw [va_up_ne _ _ (by decide)]
  have am_145_14 : A_145 1015 = A_138 1015 := by rw [hA_145]; rw [va_up_ne _ _ (by decide)]
  have am_145_15 : A_145 1016 = A_138 1016 := by rw [hA_145]; rw [va_up_ne _ _ (by decide)]
  have am_145_16 : A_145 1017 = A_138 1017 := by rw [hA_145]; rw [va_up_ne _ _ (by decide)]
  have am_145_17 : A_145 1018 = A_138 1018 := by rw [hA_145]; rw [va_up_ne _ _ (by decide)]
  have am_145_18 : A_145 1024 = A_138 1024 := by rw [hA_145]; rw [va_up_ne _ _ (by decide)]
  have f1000_c145 : C_145 1000 = some (.inr (8, [.int 0, .ref (A_145 1001), .int 0, .ref (A_145 1003), .ref (A_145 1004), .ref (A_145 1005), .ref (A_145 1006), .ref (A_145 1007), .ref (A_145 1008), .ref (A_145 1009), .ref (A_145 1010), .ref (A_145 1011), .ref (A_145 1012), .ref (A_145 1013), .ref (A_145 1014), .ref (A_145 1015), .ref (A_145 1016), .ref (A_145 1017), .ref (A_145 1018), .int 0, .int 0, .long 0, .long 0, .int 0, .ref (A_145 1024), .null, .null, .null, .null])) := by rw [hC_145]; rw [va_up_ne _ _ (by decide)]; rw [am_145_1, am_145_2, am_145_3, am_145_4, am_145_5, am_145_6, am_145_7, am_145_8, am_145_9, am_145_10, am_145_11, am_145_12, am_145_13, am_145_14, am_145_15, am_145_16, am_145_17, am_145_18]; exact f1000_c140
  have f1001_c145 : C_145 1001 = some (.inl (E.2.1 0, 160, .inl (fun _ => 0))) := by rw [hC_145]; rw [va_up_ne _ _ (by decide)]; exact f1001_c140
  have f1003_c145 : C_145 1003 = some (.inl (E.2.1 0, 60, .inl (fun _ => 0))) := by rw [hC_145]; rw [va_up_ne _ _ (by decide)]; exact f1003_c140
  have f1004_c145 : C_145 1004 = some (.inl (E.2.1 1, 60, .inr (.inl (fun _ => 0)))) := by rw [hC_145]; rw [va_up_ne _ _ (by decide)]; exact f1004_c140
  have f1005_c145 : C_145 1005 = some (.inl (E.2.1 0, 60, .inl (fun _ => 0))) := by rw [hC_145]; rw [va_up_ne _ _ (by decide)]; exact f1005_c140
  have f1006_c145 : C_145 1006 = some (.inl (E.2.1 0, 60, .inl (fun _ => 0))) := by rw [hC_145]; rw [va_up_ne _ _ (by decide)]; exact f1006_c140
  have f1007_c145 : C_145 1007 = some (.inl (E.2.1 1, 60, .inr (.inl (fun _ => 0)))) := by rw [hC_145]; rw [va_up_ne _ _ (by decide)]; exact f1007_c140
  have f1008_c145 : C_145 1008 = some (.inl (E.2.1 0, 60, .inl (fun _ => 0))) := by rw [hC_145]; rw [va_up_ne _ _ (by decide)]; exact f1008_c140
  have f1009_c145 : C_145 1009 = some (.inl (E.2.1 0, 4, .inl (fun _ => 0))) := by rw [hC_145]; rw [va_up_ne _ _ (by decide)]; exact f1009_c140
  have f1010_c145 : C_145 1010 = some (.inl (E.2.1 0, 4, .inl (fun _ => 0))) := by rw [hC_145]; rw [va_up_ne _ _ (by decide)]; exact f1010_c140
  have f1011_c145 : C_145 1011 = some (.inl (E.2.1 0, 44, .inl (fun _ => 0))) := by rw [hC_145]; rw [va_up_ne _ _ (by decide)]; exact f1011_c140
  have f1012_c145 : C_145 1012 = some (.inl (E.2.1 0, 4, .inl (fun _ => 0))) := by rw [hC_145]; rw [va_up_ne _ _ (by decide)]; exact f1012_c140
  have f1013_c145 : C_145 1013 = some (.inl (E.2.1 0, 4, .inl (fun _ => 0))) := by rw [hC_145]; rw [va_up_ne _ _ (by decide)]; exact f1013_c140
  have f1014_c145 : C_145 1014 = some (.inl (E.2.1 0, 4, .inl (fun _ => 0))) := by rw [hC_145]; rw [va_up_ne _ _ (by decide)]; exact f1014_c140
  have f1015_c145 : C_145 1015 = some (.inl (E.2.1 0, 4, .inl (fun _ => 0))) := by rw [hC_145]; rw [va_up_ne _ _ (by decide)]; exact f1015_c140
  have f1016_c145 : C_145 1016 = some (.inl (E.2.1 0, 240, .inl (fun _ => 0))) := by rw [hC_145]; rw [va_up_ne _ _ (by decide)]; exact f1016_c140
  have f1017_c145 : C_145 1017 = some (.inl (E.2.1 1, 8, .inr (.inl (fun _ => 0)))) := by rw [hC_145]; rw [va_up_ne _ _ (by decide)]; exact f1017_c140
  have f1018_c145 : C_145 1018 = some (.inl (E.2.1 1, 16, .inr (.inl (fun _ => 0)))) := by rw [hC_145]; rw [va_up_ne _ _ (by decide)]; exact f1018_c140
  have f1024_c145 : C_145 1024 = some (.inl (E.2.1 0, 4, .inl (fun _ => 0))) := by rw [hC_145]; rw [va_up_ne _ _ (by decide)]; exact f1024_c140
  have f1025_c145 : C_145 1025 = some (.inl (E.2.1 1, 4, .inr (.inl (fun _ => 0)))) := by rw [hC_145]; exact va_up_self _ _ _
  have hl : lv_has ls 2 [(0, .ref (A_145 1000))] := by rw [am_145_0]; exact hl
  refine W.eq (g2 := F0 m 147 ls [.ref (A_145 1025), .ref (A_145 1000)]) (by rw [← an_145, am_145_0]) ?_
  clear am_145_0 am_145_1 am_145_2 am_145_3 am_145_4 am_145_5 am_145_6 am_145_7 am_145_8 am_145_9 am_145_10 am_145_11 am_145_12 am_145_13 am_145_14 am_145_15 am_145_16 am_145_17 am_145_18 an_145
  refine wg_putF F hnm hP hS f1000_c145 rfl iw_X8 tyX8_ok nmX8 25 (by decide) tb_574 rfl rfl rfl (Nat.le_of_ble_eq_true rfl) dX8_init_147 (fun H locs hP hS => ?_)
  obtain ⟨C_147, hC_147⟩ : ∃ z : wg_C, z = va_up C_145 1000 (some (.inr (8, [.int 0, .ref (A_145 1001), .int 0, .ref (A_145 1003), .ref (A_145 1004), .ref (A_145 1005), .ref (A_145 1006), .ref (A_145 1007), .ref (A_145 1008), .ref (A_145 1009), .ref (A_145 1010), .ref (A_145 1011), .ref (A_145 1012), .ref (A_145 1013), .ref (A_145 1014), .ref (A_145 1015), .ref (A_145 1016), .ref (A_145 1017), .ref (A_145 1018), .int 0, .int 0, .long 0, .long 0, .int 0, .ref (A_145 1024), .ref (A_145 1025), .null, .null, .null]))) := ⟨_, rfl⟩
  have hP : wg_P E A_145 C_147 H := by rw [hC_147]; exact hP
  have f1000_c147 : C_147 1000 = some (.inr (8, [.int 0, .ref (A_145 1001), .int 0, .ref (A_145 1003), .ref (A_145 1004), .ref (A_145 1005), .ref (A_145 1006), .ref (A_145 1007), .ref (A_145 1008), .ref (A_145 1009), .ref (A_145 1010), .ref (A_145 1011), .ref (A_145 1012), .ref (A_145 1013), .ref (A_145 1014), .ref (A_145 1015), .ref (A_145 1016), .ref (A_145 1017), .ref (A_145 1018), .int 0, .int 0, .long 0, .long 0, .int 0, .ref (A_145 1024), .ref (A_145 1025), .null, .null, .null])) := by rw [hC_147]; exact va_up_self _ _ _
  have f1001_c147 : C_147 1001 = some (.inl (E.2.1 0, 160, .inl (fun _ => 0))) := by rw [hC_147]; rw [va_up_ne _ _ (by decide)]; exact f1001_c145
  have f1003_c147 : C_147 1003 = some (.inl (E.2.1 0, 60, .inl (fun _ => 0))) := by rw [hC_147]; rw [va_up_ne _ _ (by decide)]; exact f1003_c145
  have f1004_c147 : C_147 1004 = some (.inl (E.2.1 1, 60, .inr (.inl (fun _ => 0)))) := by rw [hC_147]; rw [va_up_ne _ _ (by decide)]; exact f1004_c145
  have f1005_c147 : C_147 1005 = some (.inl (E.2.1 0, 60, .inl (fun _ => 0))) := by rw [hC_147]; rw [va_up_ne _ _ (by decide)]; exact f1005_c145
  have f1006_c147 : C_147 1006 = some (.inl (E.2.1 0, 60, .inl (fun _ => 0))) := by rw [hC_147]; rw [va_up_ne _ _ (by decide)]; exact f1006_c145
  have f1007_c147 : C_147 1007 = some (.inl (E.2.1 1, 60, .inr (.inl (fun _ => 0)))) := by rw [hC_147]; rw [va_up_ne _ _ (by decide)]; exact f1007_c145
  have f1008_c147 : C_147 1008 = some (.inl (E.2.1 0, 60, .inl (fun _ => 0))) := by rw [hC_147]; rw [va_up_ne _ _ (by decide)]; exact f1008_c145
  have f1009_c147 : C_147 1009 = some (.inl (E.2.1 0, 4, .inl (fun _ => 0))) := by rw [hC_147]; rw [va_up_ne _ _ (by decide)]; exact f1009_c145
  have f1010_c147 : C_147 1010 = some (.inl (E.2.1 0, 4, .inl (fun _ => 0))) := by rw [hC_147]; rw [va_up_ne _ _ (by decide)]; exact f1010_c145
  have f1011_c147 : C_147 1011 = some (.inl (E.2.1 0, 44, .inl (fun _ => 0))) := by rw [hC_147]; rw [va_up_ne _ _ (by decide)]; exact f1011_c145
  have f1012_c147 : C_147 1012 = some (.inl (E.2.1 0, 4, .inl (fun _ => 0))) := by rw [hC_147]; rw [va_up_ne _ _ (by decide)]; exact f1012_c145
  have f1013_c147 : C_147 1013 = some (.inl (E.2.1 0, 4, .inl (fun _ => 0))) := by rw [hC_147]; rw [va_up_ne _ _ (by decide)]; exact f1013_c145
  have f1014_c147 : C_147 1014 = some (.inl (E.2.1 0, 4, .inl (fun _ => 0))) := by rw [hC_147]; rw [va_up_ne _ _ (by decide)]; exact f1014_c145
  have f1015_c147 : C_147 1015 = some (.inl (E.2.1 0, 4, .inl (fun _ => 0))) := by rw [hC_147]; rw [va_up_ne _ _ (by decide)]; exact f1015_c145
  have f1016_c147 : C_147 1016 = some (.inl (E.2.1 0, 240, .inl (fun _ => 0))) := by rw [hC_147]; rw [va_up_ne _ _ (by decide)]; exact f1016_c145
  have f1017_c147 : C_147 1017 = some (.inl (E.2.1 1, 8, .inr (.inl (fun _ => 0)))) := by rw [hC_147]; rw [va_up_ne _ _ (by decide)]; exact f1017_c145
  have f1018_c147 : C_147 1018 = some (.inl (E.2.1 1, 16, .inr (.inl (fun _ => 0)))) := by rw [hC_147]; rw [va_up_ne _ _ (by decide)]; exact f1018_c145
  have f1024_c147 : C_147 1024 = some (.inl (E.2.1 0, 4, .inl (fun _ => 0))) := by rw [hC_147]; rw [va_up_ne _ _ (by decide)]; exact f1024_c145
  have f1025_c147 : C_147 1025 = some (.inl (E.2.1 1, 4, .inr (.inl (fun _ => 0)))) := by rw [hC_147]; rw [va_up_ne _ _ (by decide)]; exact f1025_c145
  refine lv_aload_n hx hb dX8_init_150 rfl (lv_at hl 0 rfl) ?_
  refine lv_bipush (v := 64) hx hb dX8_init_151 (by decide) ?_
  refine wg_newaF (atype := .int) (a0 := (64, .inl (fun _ => 0))) F hP hS 1026 0 rfl (fun _ _ h => h) tb_74 (fun _ => rfl) (by decide) (by decide) (by decide) (Nat.le_of_ble_eq_true rfl) (Nat.le_of_ble_eq_true rfl) dX8_init_153 (fun q_153 H hP hS => ?_)
  obtain ⟨A_153, hA_153⟩ : ∃ z : Nat → Nat, z = va_up A_145 1026 q_153 := ⟨_, rfl⟩
  obtain ⟨C_153, hC_153⟩ : ∃ z : wg_C, z = va_up C_147 1026 (some (.inl (E.2.1 0, 64, .inl (fun _ => 0)))) := ⟨_, rfl⟩
  have hP : wg_P E A_153 C_153 H := by rw [hA_153, hC_153]; exact hP
  have an_153 : q_153 = A_153 1026 := by rw [hA_153]; exact (va_up_self _ _ _).symm
  have am_153_0 : A_153 1000 = A_145 1000 := by rw [hA_153]; rw [va_up_ne _ _ (by decide)]
  have am_153_1 : A_153 1001 = A_145 1001 := by rw [hA_153]; rw [va_up_ne _ _ (by decide)]
  have am_153_2 : A_153 1003 = A_145 1003 := by rw [hA_153]; rw [va_up_ne _ _ (by decide)]
  have am_153_3 : A_153 1004 = A_145 1004 := by rw [hA_153]; rw [va_up_ne _ _ (by decide)]
  have am_153_4 : A_153 1005 = A_145 1005 := by rw [hA_153]; rw [va_up_ne _ _ (by decide)]
  have am_153_5 : A_153 1006 = A_145 1006 := by rw [hA_153]; rw [va_up_ne _ _ (by decide)]
  have am_153_6 : A_153 1007 = A_145 1007 := by rw [hA_153]; rw [va_up_ne _ _ (by decide)]
  have am_153_7 : A_153 1008 = A_145 1008 := by rw [hA_153]; rw [va_up_ne _ _ (by decide)]
  have am_153_8 : A_153 1009 = A_145 1009 := by rw [hA_153]; rw [va_up_ne _ _ (by decide)]
  have am_153_9 : A_153 1010 = A_145 1010 := by rw [hA_153]; rw [va_up_ne _ _ (by decide)]
  have am_153_10 : A_153 1011 = A_145 1011 := by rw [hA_153]; rw [va_up_ne _ _ (by decide)]
  have am_153_11 : A_153 1012 = A_145 1012 := by rw [hA_153]; rw [va_up_ne _ _ (by decide)]
  have am_153_12 : A_153 1013 = A_145 1013 := by rw [hA_153]; rw [va_up_ne _ _ (by decide)]
  have am_153_13 : A_153 1014 = A_145 1014 := by rw [hA_153]; rw [va_up_ne _ _ (by decide)]
  have am_153_14 : A_153 1015 = A_145 1015 := by rw [hA_153]; rw [va_up_ne _ _ (by decide)]
  have am_153_15 : A_153 1016 = A_145 1016 := by rw [hA_153]; rw [va_up_ne _ _ (by decide)]
  have am_153_16 : A_153 1017 = A_145 1017 := by rw [hA_153]; rw [va_up_ne _ _ (by decide)]
  have am_153_17 : A_153 1018 = A_145 1018 := by rw [hA_153]; rw [va_up_ne _ _ (by decide)]
  have am_153_18 : A_153 1024 = A_145 1024 := by rw [hA_153]; rw [va_up_ne _ _ (by decide)]
  have am_153_19 : A_153 1025 = A_145 1025 := by rw [hA_153]; rw [va_up_ne _ _ (by decide)]
  have f1000_c153 : C_153 1000 = some (.inr (8, [.int 0, .ref (A_153 1001), .int 0, .ref (A_153 1003), .ref (A_153 1004), .ref (A_153 1005), .ref (A_153 1006), .ref (A_153 1007), .ref (A_153 1008), .ref (A_153 1009), .ref (A_153 1010), .ref (A_153 1011), .ref (A_153 1012), .ref (A_153 1013), .ref (A_153 1014), .ref (A_153 1015), .ref (A_153 1016), .ref (A_153 1017), .ref (A_153 1018), .int 0, .int 0, .long 0, .long 0, .int 0, .ref (A_153 1024), .ref (A_153 1025), .null, .null, .null])) := by rw [hC_153]; rw [va_up_ne _ _ (by decide)]; rw [am_153_1, am_153_2, am_153_3, am_153_4, am_153_5, am_153_6, am_153_7, am_153_8, am_153_9, am_153_10, am_153_11, am_153_12, am_153_13, am_153_14, am_153_15, am_153_16, am_153_17, am_153_18, am_153_19]; exact f1000_c147
  have f1001_c153 : C_153 1001 = some (.inl (E.2.1 0, 160, .inl (fun _ => 0))) := by rw [hC_153]; rw [va_up_ne _ _ (by decide)]; exact f1001_c147
  have f1003_c153 : C_153 1003 = some (.inl (E.2.1 0, 60, .inl (fun _ => 0))) := by rw [hC_153]; rw [va_up_ne _ _ (by decide)]; exact f1003_c147
  have f1004_c153 : C_153 1004 = some (.inl (E.2.1 1, 60, .inr (.inl (fun _ => 0)))) := by rw [hC_153]; rw [va_up_ne _ _ (by decide)]; exact f1004_c147
  have f1005_c153 : C_153 1005 = some (.inl (E.2.1 0, 60, .inl (fun _ => 0))) := by rw [hC_153]; rw [va_up_ne _ _ (by decide)]; exact f1005_c147
  have f1006_c153 : C_153 1006 = some (.inl (E.2.1 0, 60, .inl (fun _ => 0))) := by rw [hC_153]; rw [va_up_ne _ _ (by decide)]; exact f1006_c147
  have f1007_c153 : C_153 1007 = some (.inl (E.2.1 1, 60, .inr (.inl (fun _ => 0)))) := by rw [hC_153]; rw [va_up_ne _ _ (by decide)]; exact f1007_c147
  have f1008_c153 : C_153 1008 = some (.inl (E.2.1 0, 60, .inl (fun _ => 0))) := by rw [hC_153]; rw [va_up_ne _ _ (by decide)]; exact f1008_c147
  have f1009_c153 : C_153 1009 = some (.inl (E.2.1 0, 4, .inl (fun _ => 0))) := by rw [hC_153]; rw [va_up_ne _ _ (by decide)]; exact f1009_c147
  have f1010_c153 : C_153 1010 = some (.inl (E.2.1 0, 4, .inl (fun _ => 0))) := by rw [hC_153]; rw [va_up_ne _ _ (by decide)]; exact f1010_c147
  have f1011_c153 : C_153 1011 = some (.inl (E.2.1 0, 44, .inl (fun _ => 0))) := by rw [hC_153]; rw [va_up_ne _ _ (by decide)]; exact f1011_c147
  have f1012_c153 : C_153 1012 = some (.inl (E.2.1 0, 4, .inl (fun _ => 0))) := by rw [hC_153]; rw [va_up_ne _ _ (by decide)]; exact f1012_c147
  have f1013_c153 : C_153 1013 = some (.inl (E.2.1 0, 4, .inl (fun _ => 0))) := by rw [hC_153]; rw [va_up_ne _ _ (by decide)]; exact f1013_c147
  have f1014_c153 : C_153 1014 = some (.inl (E.2.1 0, 4, .inl (fun _ => 0))) := by rw [hC_153]; rw [va_up_ne _ _ (by decide)]; exact f1014_c147
  have f1015_c153 : C_153 1015 = some (.inl (E.2.1 0, 4, .inl (fun _ => 0))) := by rw [hC_153]; rw [va_up_ne _ _ (by decide)]; exact f1015_c147
  have f1016_c153 : C_153 1016 = some (.inl (E.2.1 0, 240, .inl (fun _ => 0))) := by rw [hC_153]; rw [va_up_ne _ _ (by decide)]; exact f1016_c147
  have f1017_c153 : C_153 1017 = some (.inl (E.2.1 1, 8, .inr (.inl (fun _ => 0)))) := by rw [hC_153]; rw [va_up_ne _ _ (by decide)]; exact f1017_c147
  have f1018_c153 : C_153 1018 = some (.inl (E.2.1 1, 16, .inr (.inl (fun _ => 0)))) := by rw [hC_153]; rw [va_up_ne _ _ (by decide)]; exact f1018_c147
  have f1024_c153 : C_153 1024 = some (.inl (E.2.1 0, 4, .inl (fun _ => 0))) := by rw [hC_153]; rw [va_up_ne _ _ (by decide)]; exact f1024_c147
  have f1025_c153 : C_153 1025 = some (.inl (E.2.1 1, 4, .inr (.inl (fun _ => 0)))) := by rw [hC_153]; rw [va_up_ne _ _ (by decide)]; exact f1025_c147
  have f1026_c153 : C_153 1026 = some (.inl (E.2.1 0, 64, .inl (fun _ => 0))) := by rw [hC_153]; exact va_up_self _ _ _
  have hl : lv_has ls 2 [(0, .ref (A_153 1000))] := by rw [am_153_0]; exact hl
  refine W.eq (g2 := F0 m 155 ls [.ref (A_153 1026), .ref (A_153 1000)]) (by rw [← an_153, am_153_0]) ?_
  clear am_153_0 am_153_1 am_153_2 am_153_3 am_153_4 am_153_5 am_153_6 am_153_7 am_153_8 am_153_9 am_153_10 am_153_11 am_153_12 am_153_13 am_153_14 am_153_15 am_153_16 am_153_17 am_153_18 am_153_19 an_153
  refine wg_putF F hnm hP hS f1000_c153 rfl iw_X8 tyX8_ok nmX8 26 (by decide) tb_575 rfl rfl rfl (Nat.le_of_ble_eq_true rfl) dX8_init_155 (fun H locs hP hS => ?_)
  obtain ⟨C_155, hC_155⟩ : ∃ z : wg_C, z = va_up C_153 1000 (some (.inr (8, [.int 0, .ref (A_153 1001), .int 0, .ref (A_153 1003), .ref (A_153 1004), .ref (A_153 1005), .ref (A_153 1006), .ref (A_153 1007), .ref (A_153 1008), .ref (A_153 1009), .ref (A_153 1010), .ref (A_153 1011), .ref (A_153 1012), .ref (A_153 1013), .ref (A_153 1014), .ref (A_153 1015), .ref (A_153 1016), .ref (A_153 1017), .ref (A_153 1018), .int 0, .int 0, .long 0, .long 0, .int 0, .ref (A_153 1024), .ref (A_153 1025), .ref (A_153 1026), .null, .null]))) := ⟨_, rfl⟩
  have hP : wg_P E A_153 C_155 H := by rw [hC_155]; exact hP
  have f1000_c155 : C_155 1000 = some (.inr (8, [.int 0, .ref (A_153 1001), .int 0, .ref (A_153 1003), .ref (A_153 1004), .ref (A_153 1005), .ref (A_153 1006), .ref (A_153 1007), .ref (A_153 1008), .ref (A_153 1009), .ref (A_153 1010), .ref (A_153 1011), .ref (A_153 1012), .ref (A_153 1013), .ref (A_153 1014), .ref (A_153 1015), .ref (A_153 1016), .ref (A_153 1017), .ref (A_153 1018), .int 0, .int 0, .long 0, .long 0, .int 0, .ref (A_153 1024), .ref (A_153 1025), .ref (A_153 1026), .null, .null])) := by rw [hC_155]; exact va_up_self _ _ _
  have f1001_c155 : C_155 1001 = some (.inl (E.2.1 0, 160, .inl (fun _ => 0))) := by rw [hC_155]; rw [va_up_ne _ _ (by decide)]; exact f1001_c153
  have f1003_c155 : C_155 1003 = some (.inl (E.2.1 0, 60, .inl (fun _ => 0))) := by rw [hC_155]; rw [va_up_ne _ _ (by decide)]; exact f1003_c153
  have f1004_c155 : C_155 1004 = some (.inl (E.2.1 1, 60, .inr (.inl (fun _ => 0)))) := by rw [hC_155]; rw [va_up_ne _ _ (by decide)]; exact f1004_c153
  have f1005_c155 : C_155 1005 = some (.inl (E.2.1 0, 60, .inl (fun _ => 0))) := by rw [hC_155]; rw [va_up_ne _ _ (by decide)]; exact f1005_c153
  have f1006_c155 : C_155 1006 = some (.inl (E.2.1 0, 60, .inl (fun _ => 0))) := by rw [hC_155]; rw [va_up_ne _ _ (by decide)]; exact f1006_c153
  have f1007_c155 : C_155 1007 = some (.inl (E.2.1 1, 60, .inr (.inl (fun _ => 0)))) := by rw [hC_155]; rw [va_up_ne _ _ (by decide)]; exact f1007_c153
  have f1008_c155 : C_155 1008 = some (.inl (E.2.1 0, 60, .inl (fun _ => 0))) := by rw [hC_155]; rw [va_up_ne _ _ (by decide)]; exact f1008_c153
  have f1009_c155 : C_155 1009 = some (.inl (E.2.1 0, 4, .inl (fun _ => 0))) := by rw [hC_155]; rw [va_up_ne _ _ (by decide)]; exact f1009_c153
  have f1010_c155 : C_155 1010 = some (.inl (E.2.1 0, 4, .inl (fun _ => 0))) := by rw [hC_155]; rw [va_up_ne _ _ (by decide)]; exact f1010_c153
  have f1011_c155 : C_155 1011 = some (.inl (E.2.1 0, 44, .inl (fun _ => 0))) := by rw [hC_155]; rw [va_up_ne _ _ (by decide)]; exact f1011_c153
  have f1012_c155 : C_155 1012 = some (.inl (E.2.1 0, 4, .inl (fun _ => 0))) := by rw [hC_155]; rw [va_up_ne _ _ (by decide)]; exact f1012_c153
  have f1013_c155 : C_155 1013 = some (.inl (E.2.1 0, 4, .inl (fun _ => 0))) := by rw [hC_155]; rw [va_up_ne _ _ (by decide)]; exact f1013_c153
  have f1014_c155 : C_155 1014 = some (.inl (E.2.1 0, 4, .inl (fun _ => 0))) := by rw [hC_155]; rw [va_up_ne _ _ (by decide)]; exact f1014_c153
  have f1015_c155 : C_155 1015 = some (.inl (E.2.1 0, 4, .inl (fun _ => 0))) := by rw [hC_155]; rw [va_up_ne _ _ (by decide)]; exact f1015_c153
  have f1016_c155 : C_155 1016 = some (.inl (E.2.1 0, 240, .inl (fun _ => 0))) := by rw [hC_155]; rw [va_up_ne _ _ (by decide)]; exact f1016_c153
  have f1017_c155 : C_155 1017 = some (.inl (E.2.1 1, 8, .inr (.inl (fun _ => 0)))) := by rw [hC_155]; rw [va_up_ne _ _ (by decide)]; exact f1017_c153
  have f1018_c155 : C_155 1018 = some (.inl (E.2.1 1, 16, .inr (.inl (fun _ => 0)))) := by rw [hC_155]; rw [va_up_ne _ _ (by decide)]; exact f1018_c153
  have f1024_c155 : C_155 1024 = some (.inl (E.2.1 0, 4, .inl (fun _ => 0))) := by rw [hC_155]; rw [va_up_ne _ _ (by decide)]; exact f1024_c153
  have f1025_c155 : C_155 1025 = some (.inl (E.2.1 1, 4, .inr (.inl (fun _ => 0)))) := by rw [hC_155]; rw [va_up_ne _ _ (by decide)]; exact f1025_c153
  have f1026_c155 : C_155 1026 = some (.inl (E.2.1 0, 64, .inl (fun _ => 0))) := by rw [hC_155]; rw [va_up_ne _ _ (by decide)]; exact f1026_c153
  refine lv_aload_n hx hb dX8_init_158 rfl (lv_at hl 0 rfl) ?_
  refine lv_bipush (v := 16) hx hb dX8_init_159 (by decide) ?_
  refine wg_newaF (atype := .boolean) (a0 := (16, .inl (fun _ => 0))) F hP hS 1027 2 rfl (fun _ _ h => h) tb_637 (fun _ => rfl) (by decide) (by decide) (by decide) (Nat.le_of_ble_eq_true rfl) (Nat.le_of_ble_eq_true rfl) dX8_init_161 (fun q_161 H hP hS => ?_)
  obtain ⟨A_161, hA_161⟩ : ∃ z : Nat → Nat, z = va_up A_153 1027 q_161 := ⟨_, rfl⟩
  obtain ⟨C_161, hC_161⟩ : ∃ z : wg_C, z = va_up C_155 1027 (some (.inl (E.2.1 2, 16, .inl (fun _ => 0)))) := ⟨_, rfl⟩
  have hP : wg_P E A_161 C_161 H := by rw [hA_161, hC_161]; exact hP
  have an_161 : q_161 = A_161 1027 := by rw [hA_161]; exact (va_up_self _ _ _).symm
  have am_161_0 : A_161 1000 = A_153 1000 := by rw [hA_161]; rw [va_up_ne _ _ (by decide)]
  have am_161_1 : A_161 1001 = A_153 1001 := by rw [hA_161]; rw [va_up_ne _ _ (by decide)]
  have am_161_2 : A_161 1003 = A_153 1003 := by rw [hA_161]; rw [va_up_ne _ _ (by decide)]
  have am_161_3 : A_161 1004 = A_153 1004 := by rw [hA_161]; rw [va_up_ne _ _ (by decide)]
  have am_161_4 : A_161 1005 = A_153 1005 := by rw [hA_161]; rw [va_up_ne _ _ (by decide)]
  have am_161_5 : A_161 1006 = A_153 1006 := by rw [hA_161]; rw [va_up_ne _ _ (by decide)]
  have am_161_6 : A_161 1007 = A_153 1007 := by rw [hA_161]; rw [va_up_ne _ _ (by decide)]
  have am_161_7 : A_161 1008 = A_153 1008 := by rw [hA_161]; rw [va_up_ne _ _ (by decide)]
  have am_161_8 : A_161 1009 = A_153 1009 := by rw [hA_161]; rw [va_up_ne _ _ (by decide)]
  have am_161_9 : A_161 1010 = A_153 1010 := by rw [hA_161]; rw [va_up_ne _ _ (by decide)]
  have am_161_10 : A_161 1011 = A_153 1011 := by rw [hA_161]; rw [va_up_ne _ _ (by decide)]
  have am_161_11 : A_161 1012 = A_153 1012 := by rw [hA_161]; rw [va_up_ne _ _ (by decide)]
  have am_161_12 : A_161 1013 = A_153 1013 := by rw [hA_161]; rw [va_up_ne _ _ (by decide)]
  have am_161_13 : A_161 1014 = A_153 1014 := by rw [hA_161]; rw [va_up_ne _ _ (by decide)]
  have am_161_14 : A_161 1015 = A_153 1015 := by rw [hA_161]; rw [va_up_ne _ _ (by decide)]
  have am_161_15 : A_161 1016 = A_153 1016 := by rw [hA_161]; rw [va_up_ne _ _ (by decide)]
  have am_161_16 : A_161 1017 = A_153 1017 := by rw [hA_161]; rw [va_up_ne _ _ (by decide)]
  have am_161_17 : A_161 1018 = A_153 1018 := by rw [hA_161]; rw [va_up_ne _ _ (by decide)]
  have am_161_18 : A_161 1024 = A_153 1024 := by rw [hA_161]; rw [va_up_ne _ _ (by decide)]
  have am_161_19 : A_161 1025 = A_153 1025 := by rw [hA_161]; rw [va_up_ne _ _ (by decide)]
  have am_161_20 : A_161 1026 = A_153 1026 := by rw [hA_161]; rw [va_up_ne _ _ (by decide)]
  have f1000_c161 : C_161 1000 = some (.inr (8, [.int 0, .ref (A_161 1001), .int 0, .ref (A_161 1003), .ref (A_161 1004), .ref (A_161 1005), .ref (A_161 1006), .ref (A_161 1007), .ref (A_161 1008), .ref (A_161 1009), .ref (A_161 1010), .ref (A_161 1011), .ref (A_161 1012), .ref (A_161 1013), .ref (A_161 1014), .ref (A_161 1015), .ref (A_161 1016), .ref (A_161 1017), .ref (A_161 1018), .int 0, .int 0, .long 0, .long 0, .int 0, .ref (A_161 1024), .ref (A_161 1025), .ref (A_161 1026), .null, .null])) := by rw [hC_161]; rw [va_up_ne _ _ (by decide)]; rw [am_161_1, am_161_2, am_161_3, am_161_4, am_161_5, am_161_6, am_161_7, am_161_8, am_161_9, am_161_10, am_161_11, am_161_12, am_161_13, am_161_14, am_161_15, am_161_16, am_161_17, am_161_18, am_161_19, am_161_20]; exact f1000_c155
  have f1001_c161 : C_161 1001 = some (.inl (E.2.1 0, 160, .inl (fun _ => 0))) := by rw [hC_161]; rw [va_up_ne _ _ (by decide)]; exact f1001_c155
  have f1003_c161 : C_161 1003 = some (.inl (E.2.1 0, 60, .inl (fun _ => 0))) := by rw [hC_161]; rw [va_up_ne _ _ (by decide)]; exact f1003_c155
  have f1004_c161 : C_161 1004 = some (.inl (E.2.1 1, 60, .inr (.inl (fun _ => 0)))) := by rw [hC_161]; rw [va_up_ne _ _ (by decide)]; exact f1004_c155
  have f1005_c161 : C_161 1005 = some (.inl (E.2.1 0, 60, .inl (fun _ => 0))) := by rw [hC_161]; rw [va_up_ne _ _ (by decide)]; exact f1005_c155
  have f1006_c161 : C_161 1006 = some (.inl (E.2.1 0, 60, .inl (fun _ => 0))) := by rw [hC_161]; rw [va_up_ne _ _ (by decide)]; exact f1006_c155
  have f1007_c161 : C_161 1007 = some (.inl (E.2.1 1, 60, .inr (.inl (fun _ => 0)))) := by rw [hC_161]; rw [va_up_ne _ _ (by decide)]; exact f1007_c155
  have f1008_c161 : C_161 1008 = some (.inl (E.2.1 0, 60, .inl (fun _ => 0))) := by rw [hC_161]; rw [va_up_ne _ _ (by decide)]; exact f1008_c155
  have f1009_c161 : C_161 1009 = some (.inl (E.2.1 0, 4, .inl (fun _ => 0))) := by rw [hC_161]; rw [va_up_ne _ _ (by decide)]; exact f1009_c155
  have f1010_c161 : C_161 1010 = some (.inl (E.2.1 0, 4, .inl (fun _ => 0))) := by rw [hC_161]; rw [va_up_ne _ _ (by decide)]; exact f1010_c155
  have f1011_c161 : C_161 1011 = some (.inl (E.2.1 0, 44, .inl (fun _ => 0))) := by rw [hC_161]; rw [va_up_ne _ _ (by decide)]; exact f1011_c155
  have f1012_c161 : C_161 1012 = some (.inl (E.2.1 0, 4, .inl (fun _ => 0))) := by rw [hC_161]; rw [va_up_ne _ _ (by decide)]; exact f1012_c155
  have f1013_c161 : C_161 1013 = some (.inl (E.2.1 0, 4, .inl (fun _ => 0))) := by rw [hC_161]; rw [va_up_ne _ _ (by decide)]; exact f1013_c155
  have f1014_c161 : C_161 1014 = some (.inl (E.2.1 0, 4, .inl (fun _ => 0))) := by rw [hC_161]; rw [va_up_ne _ _ (by decide)]; exact f1014_c155
  have f1015_c161 : C_161 1015 = some (.inl (E.2.1 0, 4, .inl (fun _ => 0))) := by rw [hC_161]; rw [va_up_ne _ _ (by decide)]; exact f1015_c155
  have f1016_c161 : C_161 1016 = some (.inl (E.2.1 0, 240, .inl (fun _ => 0))) := by rw [hC_161]; rw [va_up_ne _ _ (by decide)]; exact f1016_c155
  have f1017_c161 : C_161 1017 = some (.inl (E.2.1 1, 8, .inr (.inl (fun _ => 0)))) := by rw [hC_161]; rw [va_up_ne _ _ (by decide)]; exact f1017_c155
  have f1018_c161 : C_161 1018 = some (.inl (E.2.1 1, 16, .inr (.inl (fun _ => 0)))) := by rw [hC_161]; rw [va_up_ne _ _ (by decide)]; exact f1018_c155
  have f1024_c161 : C_161 1024 = some (.inl (E.2.1 0, 4, .inl (fun _ => 0))) := by rw [hC_161]; rw [va_up_ne _ _ (by decide)]; exact f1024_c155
  have f1025_c161 : C_161 1025 = some (.inl (E.2.1 1, 4, .inr (.inl (fun _ => 0)))) := by rw [hC_161]; rw [va_up_ne _ _ (by decide)]; exact f1025_c155
  have f1026_c161 : C_161 1026 = some (.inl (E.2.1 0, 64, .inl (fun _ => 0))) := by rw [hC_161]; rw [va_up_ne _ _ (by decide)]; exact f1026_c155
  have f1027_c161 : C_161 1027 = some (.inl (E.2.1 2, 16, .inl (fun _ => 0))) := by rw [hC_161]; exact va_up_self _ _ _
  have hl : lv_has ls 2 [(0, .ref (A_161 1000))] := by rw [am_161_0]; exact hl
  refine W.eq (g2 := F0 m 163 ls [.ref (A_161 1027), .ref (A_161 1000)]) (by rw [← an_161, am_161_0]) ?_
  clear am_161_0 am_161_1 am_161_2 am_161_3 am_161_4 am_161_5 am_161_6 am_161_7 am_161_8 am_161_9 am_161_10 am_161_11 am_161_12 am_161_13 am_161_14 am_161_15 am_161_16 am_161_17 am_161_18 am_161_19 am_161_20 an_161
  refine wg_putF F hnm hP hS f1000_c161 rfl iw_X8 tyX8_ok nmX8 27 (by decide) tb_576 rfl rfl rfl (Nat.le_of_ble_eq_true rfl) dX8_init_163 (fun H locs hP hS => ?_)
  obtain ⟨C_163, hC_163⟩ : ∃ z : wg_C, z = va_up C_161 1000 (some (.inr (8, [.int 0, .ref (A_161 1001), .int 0, .ref (A_161 1003), .ref (A_161 1004), .ref (A_161 1005), .ref (A_161 1006), .ref (A_161 1007), .ref (A_161 1008), .ref (A_161 1009), .ref (A_161 1010), .ref (A_161 1011), .ref (A_161 1012), .ref (A_161 1013), .ref (A_161 1014), .ref (A_161 1015), .ref (A_161 1016), .ref (A_161 1017), .ref (A_161 1018), .int 0, .int 0, .long 0, .long 0, .int 0, .ref (A_161 1024), .ref (A_161 1025), .ref (A_161 1026), .ref (A_161 1027), .null]))) := ⟨_, rfl⟩
  have hP : wg_P E A_161 C_163 H := by rw [hC_163]; exact hP
  have f1000_c163 : C_163 1000 = some (.inr (8, [.int 0, .ref (A_161 1001), .int 0, .ref (A_161 1003), .ref (A_161 1004), .ref (A_161 1005), .ref (A_161 1006), .ref (A_161 1007), .ref (A_161 1008), .ref (A_161 1009), .ref (A_161 1010), .ref (A_161 1011), .ref (A_161 1012), .ref (A_161 1013), .ref (A_161 1014), .ref (A_161 1015), .ref (A_161 1016), .ref (A_161 1017), .ref (A_161 1018), .int 0, .int 0, .long 0, .long 0, .int 0, .ref (A_161 1024), .ref (A_161 1025), .ref (A_161 1026), .ref (A_161 1027), .null])) := by rw [hC_163]; exact va_up_self _ _ _
  have f1001_c163 : C_163 1001 = some (.inl (E.2.1 0, 160, .inl (fun _ => 0))) := by rw [hC_163]; rw [va_up_ne _ _ (by decide)]; exact f1001_c161
  have f1003_c163 : C_163 1003 = some (.inl (E.2.1 0, 60, .inl (fun _ => 0))) := by rw [hC_163]; rw [va_up_ne _ _ (by decide)]; exact f1003_c161
  have f1004_c163 : C_163 1004 = some (.inl (E.2.1 1, 60, .inr (.inl (fun _ => 0)))) := by rw [hC_163]; rw [va_up_ne _ _ (by decide)]; exact f1004_c161
  have f1005_c163 : C_163 1005 = some (.inl (E.2.1 0, 60, .inl (fun _ => 0))) := by rw [hC_163]; rw [va_up_ne _ _ (by decide)]; exact f1005_c161
  have f1006_c163 : C_163 1006 = some (.inl (E.2.1 0, 60, .inl (fun _ => 0))) := by rw [hC_163]; rw [va_up_ne _ _ (by decide)]; exact f1006_c161
  have f1007_c163 : C_163 1007 = some (.inl (E.2.1 1, 60, .inr (.inl (fun _ => 0)))) := by rw [hC_163]; rw [va_up_ne _ _ (by decide)]; exact f1007_c161
  have f1008_c163 : C_163 1008 = some (.inl (E.2.1 0, 60, .inl (fun _ => 0))) := by rw [hC_163]; rw [va_up_ne _ _ (by decide)]; exact f1008_c161
  have f1009_c163 : C_163 1009 = some (.inl (E.2.1 0, 4, .inl (fun _ => 0))) := by rw [hC_163]; rw [va_up_ne _ _ (by decide)]; exact f1009_c161
  have f1010_c163 : C_163 1010 = some (.inl (E.2.1 0, 4, .inl (fun _ => 0))) := by rw [hC_163]; rw [va_up_ne _ _ (by decide)]; exact f1010_c161
  have f1011_c163 : C_163 1011 = some (.inl (E.2.1 0, 44, .inl (fun _ => 0))) := by rw [hC_163]; rw [va_up_ne _ _ (by decide)]; exact f1011_c161
  have f1012_c163 : C_163 1012 = some (.inl (E.2.1 0, 4, .inl (fun _ => 0))) := by rw [hC_163]; rw [va_up_ne _ _ (by decide)]; exact f1012_c161
  have f1013_c163 : C_163 1013 = some (.inl (E.2.1 0, 4, .inl (fun _ => 0))) := by rw [hC_163]; rw [va_up_ne _ _ (by decide)]; exact f1013_c161
  have f1014_c163 : C_163 1014 = some (.inl (E.2.1 0, 4, .inl (fun _ => 0))) := by rw [hC_163]; rw [va_up_ne _ _ (by decide)]; exact f1014_c161
  have f1015_c163 : C_163 1015 = some (.inl (E.2.1 0, 4, .inl (fun _ => 0))) := by rw [hC_163]; rw [va_up_ne _ _ (by decide)]; exact f1015_c161
  have f1016_c163 : C_163 1016 = some (.inl (E.2.1 0, 240, .inl (fun _ => 0))) := by rw [hC_163]; rw [va_up_ne _ _ (by decide)]; exact f1016_c161
  have f1017_c163 : C_163 1017 = some (.inl (E.2.1 1, 8, .inr (.inl (fun _ => 0)))) := by rw [hC_163]; rw [va_up_ne _ _ (by decide)]; exact f1017_c161
  have f1018_c163 : C_163 1018 = some (.inl (E.2.1 1, 16, .inr (.inl (fun _ => 0)))) := by rw [hC_163]; rw [va_up_ne _ _ (by decide)]; exact f1018_c161
  have f1024_c163 : C_163 1024 = some (.inl (E.2.1 0, 4, .inl (fun _ => 0))) := by rw [hC_163]; rw [va_up_ne _ _ (by decide)]; exact f1024_c161
  have f1025_c163 : C_163 1025 = some (.inl (E.2.1 1, 4, .inr (.inl (fun _ => 0)))) := by rw [hC_163]; rw [va_up_ne _ _ (by decide)]; exact f1025_c161
  have f1026_c163 : C_163 1026 = some (.inl (E.2.1 0, 64, .inl (fun _ => 0))) := by rw [hC_163]; rw [va_up_ne _ _ (by decide)]; exact f1026_c161
  have f1027_c163 : C_163 1027 = some (.inl (E.2.1 2, 16, .inl (fun _ => 0))) := by rw [hC_163]; rw [va_up_ne _ _ (by decide)]; exact f1027_c161
  refine lv_aload_n hx hb dX8_init_166 rfl (lv_at hl 0 rfl) ?_
  refine lv_bipush (v := 16) hx hb dX8_init_167 (by decide) ?_
  refine wg_newaF (atype := .long) (a0 := (16, .inr (.inl (fun _ => 0)))) F hP hS 1028 1 rfl (fun _ _ h => h) tb_75 (fun _ => rfl) (by decide) (by decide) (by decide) (Nat.le_of_ble_eq_true rfl) (Nat.le_of_ble_eq_true rfl) dX8_init_169 (fun q_169 H hP hS => ?_)
  obtain ⟨A_169, hA_169⟩ : ∃ z : Nat → Nat, z = va_up A_161 1028 q_169 := ⟨_, rfl⟩
  obtain ⟨C_169, hC_169⟩ : ∃ z : wg_C, z = va_up C_163 1028 (some (.inl (E.2.1 1, 16, .inr (.inl (fun _ => 0))))) := ⟨_, rfl⟩
  have hP : wg_P E A_169 C_169 H := by rw [hA_169, hC_169]; exact hP
  have an_169 : q_169 = A_169 1028 := by rw [hA_169]; exact (va_up_self _ _ _).symm
  have am_169_0 : A_169 1000 = A_161 1000 := by rw [hA_169]; rw [va_up_ne _ _ (by decide)]
  have am_169_1 : A_169 1001 = A_161 1001 := by rw [hA_169]; rw [va_up_ne _ _ (by decide)]
  have am_169_2 : A_169 1003 = A_161 1003 := by rw [hA_169]; rw [va_up_ne _ _ (by decide)]
  have am_169_3 : A_169 1004 = A_161 1004 := by rw [hA_169]; rw [va_up_ne _ _ (by decide)]
  have am_169_4 : A_169 1005 = A_161 1005 := by rw [hA_169]; rw [va_up_ne _ _ (by decide)]
  have am_169_5 : A_169 1006 = A_161 1006 := by rw [hA_169]; rw [va_up_ne _ _ (by decide)]
  have am_169_6 : A_169 1007 = A_161 1007 := by rw [hA_169]; rw [va_up_ne _ _ (by decide)]
  have am_169_7 : A_169 1008 = A_161 1008 := by rw [hA_169]; rw [va_up_ne _ _ (by decide)]
  have am_169_8 : A_169 1009 = A_161 1009 := by rw [hA_169]; rw [va_up_ne _ _ (by decide)]
  have am_169_9 : A_169 1010 = A_161 1010 := by rw [hA_169]; rw [va_up_ne _ _ (by decide)]
  have am_169_10 : A_169 1011 = A_161 1011 := by rw [hA_169]; rw [va_up_ne _ _ (by decide)]
  have am_169_11 : A_169 1012 = A_161 1012 := by rw [hA_169]; rw [va_up_ne _ _ (by decide)]
  have am_169_12 : A_169 1013 = A_161 1013 := by rw [hA_169]; rw [va_up_ne _ _ (by decide)]
  have am_169_13 : A_169 1014 = A_161 1014 := by rw [hA_169]; rw [va_up_ne _ _ (by decide)]
  have am_169_14 : A_169 1015 = A_161 1015 := by rw [hA_169]; rw [va_up_ne _ _ (by decide)]
  have am_169_15 : A_169 1016 = A_161 1016 := by rw [hA_169]; rw [va_up_ne _ _ (by decide)]
  have am_169_16 : A_169 1017 = A_161 1017 := by rw [hA_169]; rw [va_up_ne _ _ (by decide)]
  have am_169_17 : A_169 1018 = A_161 1018 := by rw [hA_169]; rw [va_up_ne _ _ (by decide)]
  have am_169_18 : A_169 1024 = A_161 1024 := by rw [hA_169]; rw [va_up_ne _ _ (by decide)]
  have am_169_19 : A_169 1025 = A_161 1025 := by rw [hA_169]; rw [va_up_ne _ _ (by decide)]
  have am_169_20 : A_169 1026 = A_161 1026 := by rw [hA_169]; rw [va_up_ne _ _ (by decide)]
  have am_169_21 : A_169 1027 = A_161 1027 := by rw [hA_169]; rw [va_up_ne _ _ (by decide)]
  have f1000_c169 : C_169 1000 = some (.inr (8, [.int 0, .ref (A_169 1001), .int 0, .ref (A_169 1003), .ref (A_169 1004), .ref (A_169 1005), .ref (A_169 1006), .ref (A_169 1007), .ref (A_169 1008), .ref (A_169 1009), .ref (A_169 1010), .ref (A_169 1011), .ref (A_169 1012), .ref (A_169 1013), .ref (A_169 1014), .ref (A_169 1015), .ref (A_169 1016), .ref (A_169 1017), .ref (A_169 1018), .int 0, .int 0, .long 0, .long 0, .int 0, .ref (A_169 1024), .ref (A_169 1025), .ref (A_169 1026), .ref (A_169 1027), .null])) := by rw [hC_169]; rw [va_up_ne _ _ (by decide)]; rw [am_169_1, am_169_2, am_169_3, am_169_4, am_169_5, am_169_6, am_169_7, am_169_8, am_169_9, am_169_10, am_169_11, am_169_12, am_169_13, am_169_14, am_169_15, am_169_16, am_169_17, am_169_18, am_169_19, am_169_20, am_169_21]; exact f1000_c163
  have f1001_c169 : C_169 1001 = some (.inl (E.2.1 0, 160, .inl (fun _ => 0))) := by rw [hC_169]; rw [va_up_ne _ _ (by decide)]; exact f1001_c163
  have f1003_c169 : C_169 1003 = some (.inl (E.2.1 0, 60, .inl (fun _ => 0))) := by rw [hC_169]; rw [va_up_ne _ _ (by decide)]; exact f1003_c163
  have f1004_c169 : C_169 1004 = some (.inl (E.2.1 1, 60, .inr (.inl (fun _ => 0)))) := by rw [hC_169]; rw [va_up_ne _ _ (by decide)]; exact f1004_c163
  have f1005_c169 : C_169 1005 = some (.inl (E.2.1 0, 60, .inl (fun _ => 0))) := by rw [hC_169]; rw [va_up_ne _ _ (by decide)]; exact f1005_c163
  have f1006_c169 : C_169 1006 = some (.inl (E.2.1 0, 60, .inl (fun _ => 0))) := by rw [hC_169]; rw [va_up_ne _ _ (by decide)]; exact f1006_c163
  have f1007_c169 : C_169 1007 = some (.inl (E.2.1 1, 60, .inr (.inl (fun _ => 0)))) := by rw [hC_169]; rw [va_up_ne _ _ (by decide)]; exact f1007_c163
  have f1008_c169 : C_169 1008 = some (.inl (E.2.1 0, 60, .inl (fun _ => 0))) := by rw [hC_169]; rw [va_up_ne _ _ (by decide)]; exact f1008_c163
  have f1009_c169 : C_169 1009 = some (.inl (E.2.1 0, 4, .inl (fun _ => 0))) := by rw [hC_169]; rw [va_up_ne _ _ (by decide)]; exact f1009_c163
  have f1010_c169 : C_169 1010 = some (.inl (E.2.1 0, 4, .inl (fun _ => 0))) := by rw [hC_169]; rw [va_up_ne _ _ (by decide)]; exact f1010_c163
  have f1011_c169 : C_169 1011 = some (.inl (E.2.1 0, 44, .inl (fun _ => 0))) := by rw [hC_169]; rw [va_up_ne _ _ (by decide)]; exact f1011_c163
  have f1012_c169 : C_169 1012 = some (.inl (E.2.1 0, 4, .inl (fun _ => 0))) := by rw [hC_169]; rw [va_up_ne _ _ (by decide)]; exact f1012_c163
  have f1013_c169 : C_169 1013 = some (.inl (E.2.1 0, 4, .inl (fun _ => 0))) := by rw [hC_169]; rw [va_up_ne _ _ (by decide)]; exact f1013_c163
  have f1014_c169 : C_169 1014 = some (.inl (E.2.1 0, 4, .inl (fun _ => 0))) := by rw [hC_169]; rw [va_up_ne _ _ (by decide)]; exact f1014_c163
  have f1015_c169 : C_169 1015 = some (.inl (E.2.1 0, 4, .inl (fun _ => 0))) := by rw [hC_169]; rw [va_up_ne _ _ (by decide)]; exact f1015_c163
  have f1016_c169 : C_169 1016 = some (.inl (E.2.1 0, 240, .inl (fun _ => 0))) := by rw [hC_169]; rw [va_up_ne _ _ (by decide)]; exact f1016_c163
  have f1017_c169 : C_169 1017 = some (.inl (E.2.1 1, 8, .inr (.inl (fun _ => 0)))) := by rw [hC_169]; rw [va_up_ne _ _ (by decide)]; exact f1017_c163
  have f1018_c169 : C_169 1018 = some (.inl (E.2.1 1, 16, .inr (.inl (fun _ => 0)))) := by rw [hC_169]; rw [va_up_ne _ _ (by decide)]; exact f1018_c163
  have f1024_c169 : C_169 1024 = some (.inl (E.2.1 0, 4, .inl (fun _ => 0))) := by rw [hC_169]; rw [va_up_ne _ _ (by decide)]; exact f1024_c163
  have f1025_c169 : C_169 1025 = some (.inl (E.2.1 1, 4, .inr (.inl (fun _ => 0)))) := by rw [hC_169]; rw [va_up_ne _ _ (by decide)]; exact f1025_c163
  have f1026_c169 : C_169 1026 = some (.inl (E.2.1 0, 64, .inl (fun _ => 0))) := by rw [hC_169]; rw [va_up_ne _ _ (by decide)]; exact f1026_c163
  have f1027_c169 : C_169 1027 = some (.inl (E.2.1 2, 16, .inl (fun _ => 0))) := by rw [hC_169]; rw [va_up_ne _ _ (by decide)]; exact f1027_c163
  have f1028_c169 : C_169 1028 = some (.inl (E.2.1 1, 16, .inr (.inl (fun _ => 0)))) := by rw [hC_169]; exact va_up_self _ _ _
  have hl : lv_has ls 2 [(0, .ref (A_169 1000))] := by rw [am_169_0]; exact hl
  refine W.eq (g2 := F0 m 171 ls [.ref (A_169 1028), .ref (A_169 1000)]) (by rw [← an_169, am_169_0]) ?_
  clear am_169_0 am_169_1 am_169_2 am_169_3 am_169_4 am_169_5 am_169_6 am_169_7 am_169_8 am_169_9 am_169_10 am_169_11 am_169_12 am_169_13 am_169_14 am_169_15 am_169_16 am_169_17 am_169_18 am_169_19 am_169_20 am_169_21 an_169
  refine wg_putF F hnm hP hS f1000_c169 rfl iw_X8 tyX8_ok nmX8 28 (by decide) tb_577 rfl rfl rfl (Nat.le_of_ble_eq_true rfl) dX8_init_171 (fun H locs hP hS => ?_)
  obtain ⟨C_171, hC_171⟩ : ∃ z : wg_C, z = va_up C_169 1000 (some (.inr (8, [.int 0, .ref (A_169 1001), .int 0, .ref (A_169 1003), .ref (A_169 1004), .ref (A_169 1005), .ref (A_169 1006), .ref (A_169 1007), .ref (A_169 1008), .ref (A_169 1009), .ref (A_169 1010), .ref (A_169 1011), .ref (A_169 1012), .ref (A_169 1013), .ref (A_169 1014), .ref (A_169 1015), .ref (A_169 1016), .ref (A_169 1017), .ref (A_169 1018), .int 0, .int 0, .long 0, .long 0, .int 0, .ref (A_169 1024), .ref (A_169 1025), .ref (A_169 1026), .ref (A_169 1027), .ref (A_169 1028)]))) := ⟨_, rfl⟩
  have hP : wg_P E A_169 C_171 H := by rw [hC_171]; exact hP
  have f1000_c171 : C_171 1000 = some (.inr (8, [.int 0, .ref (A_169 1001), .int 0, .ref (A_169 1003), .ref (A_169 1004), .ref (A_169 1005), .ref (A_169 1006), .ref (A_169 1007), .ref (A_169 1008), .ref (A_169 1009), .ref (A_169 1010), .ref (A_169 1011), .ref (A_169 1012), .ref (A_169 1013), .ref (A_169 1014), .ref (A_169 1015), .ref (A_169 1016), .ref (A_169 1017), .ref (A_169 1018), .int 0, .int 0, .long 0, .long 0, .int 0, .ref (A_169 1024), .ref (A_169 1025), .ref (A_169 1026), .ref (A_169 1027), .ref (A_169 1028)])) := by rw [hC_171]; exact va_up_self _ _ _
  have f1001_c171 : C_171 1001 = some (.inl (E.2.1 0, 160, .inl (fun _ => 0))) := by rw [hC_171]; rw [va_up_ne _ _ (by decide)]; exact f1001_c169
  have f1003_c171 : C_171 1003 = some (.inl (E.2.1 0, 60, .inl (fun _ => 0))) := by rw [hC_171]; rw [va_up_ne _ _ (by decide)]; exact f1003_c169
  have f1004_c171 : C_171 1004 = some (.inl (E.2.1 1, 60, .inr (.inl (fun _ => 0)))) := by rw [hC_171]; rw [va_up_ne _ _ (by decide)]; exact f1004_c169
  have f1005_c171 : C_171 1005 = some (.inl (E.2.1 0, 60, .inl (fun _ => 0))) := by rw [hC_171]; rw [va_up_ne _ _ (by decide)]; exact f1005_c169
  have f1006_c171 : C_171 1006 = some (.inl (E.2.1 0, 60, .inl (fun _ => 0))) := by rw [hC_171]; rw [va_up_ne _ _ (by decide)]; exact f1006_c169
  have f1007_c171 : C_171 1007 = some (.inl (E.2.1 1, 60, .inr (.inl (fun _ => 0)))) := by rw [hC_171]; rw [va_up_ne _ _ (by decide)]; exact f1007_c169
  have f1008_c171 : C_171 1008 = some (.inl (E.2.1 0, 60, .inl (fun _ => 0))) := by rw [hC_171]; rw [va_up_ne _ _ (by decide)]; exact f1008_c169
  have f1009_c171 : C_171 1009 = some (.inl (E.2.1 0, 4, .inl (fun _ => 0))) := by rw [hC_171]; rw [va_up_ne _ _ (by decide)]; exact f1009_c169
  have f1010_c171 : C_171 1010 = some (.inl (E.2.1 0, 4, .inl (fun _ => 0))) := by rw [hC_171]; rw [va_up_ne _ _ (by decide)]; exact f1010_c169
  have f1011_c171 : C_171 1011 = some (.inl (E.2.1 0, 44, .inl (fun _ => 0))) := by rw [hC_171]; rw [va_up_ne _ _ (by decide)]; exact f1011_c169
  have f1012_c171 : C_171 1012 = some (.inl (E.2.1 0, 4, .inl (fun _ => 0))) := by rw [hC_171]; rw [va_up_ne _ _ (by decide)]; exact f1012_c169
  have f1013_c171 : C_171 1013 = some (.inl (E.2.1 0, 4, .inl (fun _ => 0))) := by rw [hC_171]; rw [va_up_ne _ _ (by decide)]; exact f1013_c169
  have f1014_c171 : C_171 1014 = some (.inl (E.2.1 0, 4, .inl (fun _ => 0))) := by rw [hC_171]; rw [va_up_ne _ _ (by decide)]; exact f1014_c169
  have f1015_c171 : C_171 1015 = some (.inl (E.2.1 0, 4, .inl (fun _ => 0))) := by rw [hC_171]; rw [va_up_ne _ _ (by decide)]; exact f1015_c169
  have f1016_c171 : C_171 1016 = some (.inl (E.2.1 0, 240, .inl (fun _ => 0))) := by rw [hC_171]; rw [va_up_ne _ _ (by decide)]; exact f1016_c169
  have f1017_c171 : C_171 1017 = some (.inl (E.2.1 1, 8, .inr (.inl (fun _ => 0)))) := by rw [hC_171]; rw [va_up_ne _ _ (by decide)]; exact f1017_c169
  have f1018_c171 : C_171 1018 = some (.inl (E.2.1 1, 16, .inr (.inl (fun _ => 0)))) := by rw [hC_171]; rw [va_up_ne _ _ (by decide)]; exact f1018_c169
  have f1024_c171 : C_171 1024 = some (.inl (E.2.1 0, 4, .inl (fun _ => 0))) := by rw [hC_171]; rw [va_up_ne _ _ (by decide)]; exact f1024_c169
  have f1025_c171 : C_171 1025 = some (.inl (E.2.1 1, 4, .inr (.inl (fun _ => 0)))) := by rw [hC_171]; rw [va_up_ne _ _ (by decide)]; exact f1025_c169
  have f1026_c171 : C_171 1026 = some (.inl (E.2.1 0, 64, .inl (fun _ => 0))) := by rw [hC_171]; rw [va_up_ne _ _ (by decide)]; exact f1026_c169
  have f1027_c171 : C_171 1027 = some (.inl (E.2.1 2, 16, .inl (fun _ => 0))) := by rw [hC_171]; rw [va_up_ne _ _ (by decide)]; exact f1027_c169
  have f1028_c171 : C_171 1028 = some (.inl (E.2.1 1, 16, .inr (.inl (fun _ => 0)))) := by rw [hC_171]; rw [va_up_ne _ _ (by decide)]; exact f1028_c169
  refine lv_aload_n hx hb dX8_init_174 rfl (lv_at hl 0 rfl) ?_
  refine wg_get F hP f1000_c171 rfl iw_X8 9 (by decide) tb_558 rfl rfl dX8_init_175 ?_
  refine lv_iconst (v := 0) hx hb dX8_init_178 (by decide) ?_
  refine lv_iconst (v := 1) hx hb dX8_init_179 (by decide) ?_
  refine wg_ist F hP hS f1009_c171 (vp_in_nI (n := 0) (by decide) (by decide)) dX8_init_180 (fun H locs hP hS => ?_)
  obtain ⟨C_180, hC_180⟩ : ∃ z : wg_C, z = va_up C_171 1009 (some (.inl (E.2.1 0, 4, .inl (upd (fun _ => 0) (0 : Int32).toNatClampNeg 1)))) := ⟨_, rfl⟩
  have hP : wg_P E A_169 C_180 H := by rw [hC_180]; exact hP
  have f1000_c180 : C_180 1000 = some (.inr (8, [.int 0, .ref (A_169 1001), .int 0, .ref (A_169 1003), .ref (A_169 1004), .ref (A_169 1005), .ref (A_169 1006), .ref (A_169 1007), .ref (A_169 1008), .ref (A_169 1009), .ref (A_169 1010), .ref (A_169 1011), .ref (A_169 1012), .ref (A_169 1013), .ref (A_169 1014), .ref (A_169 1015), .ref (A_169 1016), .ref (A_169 1017), .ref (A_169 1018), .int 0, .int 0, .long 0, .long 0, .int 0, .ref (A_169 1024), .ref (A_169 1025), .ref (A_169 1026), .ref (A_169 1027), .ref (A_169 1028)])) := by rw [hC_180]; rw [va_up_ne _ _ (by decide)]; exact f1000_c171
  have f1001_c180 : C_180 1001 = some (.inl (E.2.1 0, 160, .inl (fun _ => 0))) := by rw [hC_180]; rw [va_up_ne _ _ (by decide)]; exact f1001_c171
  have f1003_c180 : C_180 1003 = some (.inl (E.2.1 0, 60, .inl (fun _ => 0))) := by rw [hC_180]; rw [va_up_ne _ _ (by decide)]; exact f1003_c171
  have f1004_c180 : C_180 1004 = some (.inl (E.2.1 1, 60, .inr (.inl (fun _ => 0)))) := by rw [hC_180]; rw [va_up_ne _ _ (by decide)]; exact f1004_c171
  have f1005_c180 : C_180 1005 = some (.inl (E.2.1 0, 60, .inl (fun _ => 0))) := by rw [hC_180]; rw [va_up_ne _ _ (by decide)]; exact f1005_c171
  have f1006_c180 : C_180 1006 = some (.inl (E.2.1 0, 60, .inl (fun _ => 0))) := by rw [hC_180]; rw [va_up_ne _ _ (by decide)]; exact f1006_c171
  have f1007_c180 : C_180 1007 = some (.inl (E.2.1 1, 60, .inr (.inl (fun _ => 0)))) := by rw [hC_180]; rw [va_up_ne _ _ (by decide)]; exact f1007_c171
  have f1008_c180 : C_180 1008 = some (.inl (E.2.1 0, 60, .inl (fun _ => 0))) := by rw [hC_180]; rw [va_up_ne _ _ (by decide)]; exact f1008_c171
  have f1009_c180 : C_180 1009 = some (.inl (E.2.1 0, 4, .inl (upd (fun _ => 0) (0 : Int32).toNatClampNeg 1))) := by rw [hC_180]; exact va_up_self _ _ _
  have f1010_c180 : C_180 1010 = some (.inl (E.2.1 0, 4, .inl (fun _ => 0))) := by rw [hC_180]; rw [va_up_ne _ _ (by decide)]; exact f1010_c171
  have f1011_c180 : C_180 1011 = some (.inl (E.2.1 0, 44, .inl (fun _ => 0))) := by rw [hC_180]; rw [va_up_ne _ _ (by decide)]; exact f1011_c171
  have f1012_c180 : C_180 1012 = some (.inl (E.2.1 0, 4, .inl (fun _ => 0))) := by rw [hC_180]; rw [va_up_ne _ _ (by decide)]; exact f1012_c171
  have f1013_c180 : C_180 1013 = some (.inl (E.2.1 0, 4, .inl (fun _ => 0))) := by rw [hC_180]; rw [va_up_ne _ _ (by decide)]; exact f1013_c171
  have f1014_c180 : C_180 1014 = some (.inl (E.2.1 0, 4, .inl (fun _ => 0))) := by rw [hC_180]; rw [va_up_ne _ _ (by decide)]; exact f1014_c171
  have f1015_c180 : C_180 1015 = some (.inl (E.2.1 0, 4, .inl (fun _ => 0))) := by rw [hC_180]; rw [va_up_ne _ _ (by decide)]; exact f1015_c171
  have f1016_c180 : C_180 1016 = some (.inl (E.2.1 0, 240, .inl (fun _ => 0))) := by rw [hC_180]; rw [va_up_ne _ _ (by decide)]; exact f1016_c171
  have f1017_c180 : C_180 1017 = some (.inl (E.2.1 1, 8, .inr (.inl (fun _ => 0)))) := by rw [hC_180]; rw [va_up_ne _ _ (by decide)]; exact f1017_c171
  have f1018_c180 : C_180 1018 = some (.inl (E.2.1 1, 16, .inr (.inl (fun _ => 0)))) := by rw [hC_180]; rw [va_up_ne _ _ (by decide)]; exact f1018_c171
  have f1024_c180 : C_180 1024 = some (.inl (E.2.1 0, 4, .inl (fun _ => 0))) := by rw [hC_180]; rw [va_up_ne _ _ (by decide)]; exact f1024_c171
  have f1025_c180 : C_180 1025 = some (.inl (E.2.1 1, 4, .inr (.inl (fun _ => 0)))) := by rw [hC_180]; rw [va_up_ne _ _ (by decide)]; exact f1025_c171
  have f1026_c180 : C_180 1026 = some (.inl (E.2.1 0, 64, .inl (fun _ => 0))) := by rw [hC_180]; rw [va_up_ne _ _ (by decide)]; exact f1026_c171
  have f1027_c180 : C_180 1027 = some (.inl (E.2.1 2, 16, .inl (fun _ => 0))) := by rw [hC_180]; rw [va_up_ne _ _ (by decide)]; exact f1027_c171
  have f1028_c180 : C_180 1028 = some (.inl (E.2.1 1, 16, .inr (.inl (fun _ => 0)))) := by rw [hC_180]; rw [va_up_ne _ _ (by decide)]; exact f1028_c171
  refine lv_aload_n hx hb dX8_init_181 rfl (lv_at hl 0 rfl) ?_
  refine wg_get F hP f1000_c180 rfl iw_X8 9 (by decide) tb_558 rfl rfl dX8_init_182 ?_
  refine lv_iconst (v := 1) hx hb dX8_init_185 (by decide) ?_
  refine lv_iconst (v := 3) hx hb dX8_init_186 (by decide) ?_
  refine wg_ist F hP hS f1009_c180 (vp_in_nI (n := 1) (by decide) (by decide)) dX8_init_187 (fun H locs hP hS => ?_)
  obtain ⟨C_187, hC_187⟩ : ∃ z : wg_C, z = va_up C_180 1009 (some (.inl (E.2.1 0, 4, .inl (upd (upd (fun _ => 0) (0 : Int32).toNatClampNeg 1) (1 : Int32).toNatClampNeg 3)))) := ⟨_, rfl⟩
  have hP : wg_P E A_169 C_187 H := by rw [hC_187]; exact hP
  have f1000_c187 : C_187 1000 = some (.inr (8, [.int 0, .ref (A_169 1001), .int 0, .ref (A_169 1003), .ref (A_169 1004), .ref (A_169 1005), .ref (A_169 1006), .ref (A_169 1007), .ref (A_169 1008), .ref (A_169 1009), .ref (A_169 1010), .ref (A_169 1011), .ref (A_169 1012), .ref (A_169 1013), .ref (A_169 1014), .ref (A_169 1015), .ref (A_169 1016), .ref (A_169 1017), .ref (A_169 1018), .int 0, .int 0, .long 0, .long 0, .int 0, .ref (A_169 1024), .ref (A_169 1025), .ref (A_169 1026), .ref (A_169 1027), .ref (A_169 1028)])) := by rw [hC_187]; rw [va_up_ne _ _ (by decide)]; exact f1000_c180
  have f1001_c187 : C_187 1001 = some (.inl (E.2.1 0, 160, .inl (fun _ => 0))) := by rw [hC_187]; rw [va_up_ne _ _ (by decide)]; exact f1001_c180
  have f1003_c187 : C_187 1003 = some (.inl (E.2.1 0, 60, .inl (fun _ => 0))) := by rw [hC_187]; rw [va_up_ne _ _ (by decide)]; exact f1003_c180
  have f1004_c187 : C_187 1004 = some (.inl (E.2.1 1, 60, .inr (.inl (fun _ => 0)))) := by rw [hC_187]; rw [va_up_ne _ _ (by decide)]; exact f1004_c180
  have f1005_c187 : C_187 1005 = some (.inl (E.2.1 0, 60, .inl (fun _ => 0))) := by rw [hC_187]; rw [va_up_ne _ _ (by decide)]; exact f1005_c180
  have f1006_c187 : C_187 1006 = some (.inl (E.2.1 0, 60, .inl (fun _ => 0))) := by rw [hC_187]; rw [va_up_ne _ _ (by decide)]; exact f1006_c180
  have f1007_c187 : C_187 1007 = some (.inl (E.2.1 1, 60, .inr (.inl (fun _ => 0)))) := by rw [hC_187]; rw [va_up_ne _ _ (by decide)]; exact f1007_c180
  have f1008_c187 : C_187 1008 = some (.inl (E.2.1 0, 60, .inl (fun _ => 0))) := by rw [hC_187]; rw [va_up_ne _ _ (by decide)]; exact f1008_c180
  have f1009_c187 : C_187 1009 = some (.inl (E.2.1 0, 4, .inl (upd (upd (fun _ => 0) (0 : Int32).toNatClampNeg 1) (1 : Int32).toNatClampNeg 3))) := by rw [hC_187]; exact va_up_self _ _ _
  have f1010_c187 : C_187 1010 = some (.inl (E.2.1 0, 4, .inl (fun _ => 0))) := by rw [hC_187]; rw [va_up_ne _ _ (by decide)]; exact f1010_c180
  have f1011_c187 : C_187 1011 = some (.inl (E.2.1 0, 44, .inl (fun _ => 0))) := by rw [hC_187]; rw [va_up_ne _ _ (by decide)]; exact f1011_c180
  have f1012_c187 : C_187 1012 = some (.inl (E.2.1 0, 4, .inl (fun _ => 0))) := by rw [hC_187]; rw [va_up_ne _ _ (by decide)]; exact f1012_c180
  have f1013_c187 : C_187 1013 = some (.inl (E.2.1 0, 4, .inl (fun _ => 0))) := by rw [hC_187]; rw [va_up_ne _ _ (by decide)]; exact f1013_c180
  have f1014_c187 : C_187 1014 = some (.inl (E.2.1 0, 4, .inl (fun _ => 0))) := by rw [hC_187]; rw [va_up_ne _ _ (by decide)]; exact f1014_c180
  have f1015_c187 : C_187 1015 = some (.inl (E.2.1 0, 4, .inl (fun _ => 0))) := by rw [hC_187]; rw [va_up_ne _ _ (by decide)]; exact f1015_c180
  have f1016_c187 : C_187 1016 = some (.inl (E.2.1 0, 240, .inl (fun _ => 0))) := by rw [hC_187]; rw [va_up_ne _ _ (by decide)]; exact f1016_c180
  have f1017_c187 : C_187 1017 = some (.inl (E.2.1 1, 8, .inr (.inl (fun _ => 0)))) := by rw [hC_187]; rw [va_up_ne _ _ (by decide)]; exact f1017_c180
  have f1018_c187 : C_187 1018 = some (.inl (E.2.1 1, 16, .inr (.inl (fun _ => 0)))) := by rw [hC_187]; rw [va_up_ne _ _ (by decide)]; exact f1018_c180
  have f1024_c187 : C_187 1024 = some (.inl (E.2.1 0, 4, .inl (fun _ => 0))) := by rw [hC_187]; rw [va_up_ne _ _ (by decide)]; exact f1024_c180
  have f1025_c187 : C_187 1025 = some (.inl (E.2.1 1, 4, .inr (.inl (fun _ => 0)))) := by rw [hC_187]; rw [va_up_ne _ _ (by decide)]; exact f1025_c180
  have f1026_c187 : C_187 1026 = some (.inl (E.2.1 0, 64, .inl (fun _ => 0))) := by rw [hC_187]; rw [va_up_ne _ _ (by decide)]; exact f1026_c180
  have f1027_c187 : C_187 1027 = some (.inl (E.2.1 2, 16, .inl (fun _ => 0))) := by rw [hC_187]; rw [va_up_ne _ _ (by decide)]; exact f1027_c180
  have f1028_c187 : C_187 1028 = some (.inl (E.2.1 1, 16, .inr (.inl (fun _ => 0)))) := by rw [hC_187]; rw [va_up_ne _ _ (by decide)]; exact f1028_c180
  refine lv_aload_n hx hb dX8_init_188 rfl (lv_at hl 0 rfl) ?_
  refine wg_get F hP f1000_c187 rfl iw_X8 9 (by decide) tb_558 rfl rfl dX8_init_189 ?_
  refine lv_iconst (v := 2) hx hb dX8_init_192 (by decide) ?_
  refine lv_bipush (v := 50) hx hb dX8_init_193 (by decide) ?_
  refine wg_ist F hP hS f1009_c187 (vp_in_nI (n := 2) (by decide) (by decide)) dX8_init_195 (fun H locs hP hS => ?_)
  obtain ⟨C_195, hC_195⟩ : ∃ z : wg_C, z = va_up C_187 1009 (some (.inl (E.2.1 0, 4, .inl (upd (upd (upd (fun _ => 0) (0 : Int32).toNatClampNeg 1) (1 : Int32).toNatClampNeg 3) (2 : Int32).toNatClampNeg 50)))) := ⟨_, rfl⟩
  have hP : wg_P E A_169 C_195 H := by rw [hC_195]; exact hP
  have f1000_c195 : C_195 1000 = some (.inr (8, [.int 0, .ref (A_169 1001), .int 0, .ref (A_169 1003), .ref (A_169 1004), .ref (A_169 1005), .ref (A_169 1006), .ref (A_169 1007), .ref (A_169 1008), .ref (A_169 1009), .ref (A_169 1010), .ref (A_169 1011), .ref (A_169 1012), .ref (A_169 1013), .ref (A_169 1014), .ref (A_169 1015), .ref (A_169 1016), .ref (A_169 1017), .ref (A_169 1018), .int 0, .int 0, .long 0, .long 0, .int 0, .ref (A_169 1024), .ref (A_169 1025), .ref (A_169 1026), .ref (A_169 1027), .ref (A_169 1028)])) := by rw [hC_195]; rw [va_up_ne _ _ (by decide)]; exact f1000_c187
  have f1001_c195 : C_195 1001 = some (.inl (E.2.1 0, 160, .inl (fun _ => 0))) := by rw [hC_195]; rw [va_up_ne _ _ (by decide)]; exact f1001_c187
  have f1003_c195 : C_195 1003 = some (.inl (E.2.1 0, 60, .inl (fun _ => 0))) := by rw [hC_195]; rw [va_up_ne _ _ (by decide)]; exact f1003_c187
  have f1004_c195 : C_195 1004 = some (.inl (E.2.1 1, 60, .inr (.inl (fun _ => 0)))) := by rw [hC_195]; rw [va_up_ne _ _ (by decide)]; exact f1004_c187
  have f1005_c195 : C_195 1005 = some (.inl (E.2.1 0, 60, .inl (fun _ => 0))) := by rw [hC_195]; rw [va_up_ne _ _ (by decide)]; exact f1005_c187
  have f1006_c195 : C_195 1006 = some (.inl (E.2.1 0, 60, .inl (fun _ => 0))) := by rw [hC_195]; rw [va_up_ne _ _ (by decide)]; exact f1006_c187
  have f1007_c195 : C_195 1007 = some (.inl (E.2.1 1, 60, .inr (.inl (fun _ => 0)))) := by rw [hC_195]; rw [va_up_ne _ _ (by decide)]; exact f1007_c187
  have f1008_c195 : C_195 1008 = some (.inl (E.2.1 0, 60, .inl (fun _ => 0))) := by rw [hC_195]; rw [va_up_ne _ _ (by decide)]; exact f1008_c187
  have f1009_c195 : C_195 1009 = some (.inl (E.2.1 0, 4, .inl (upd (upd (upd (fun _ => 0) (0 : Int32).toNatClampNeg 1) (1 : Int32).toNatClampNeg 3) (2 : Int32).toNatClampNeg 50))) := by rw [hC_195]; exact va_up_self _ _ _
  have f1010_c195 : C_195 1010 = some (.inl (E.2.1 0, 4, .inl (fun _ => 0))) := by rw [hC_195]; rw [va_up_ne _ _ (by decide)]; exact f1010_c187
  have f1011_c195 : C_195 1011 = some (.inl (E.2.1 0, 44, .inl (fun _ => 0))) := by rw [hC_195]; rw [va_up_ne _ _ (by decide)]; exact f1011_c187
  have f1012_c195 : C_195 1012 = some (.inl (E.2.1 0, 4, .inl (fun _ => 0))) := by rw [hC_195]; rw [va_up_ne _ _ (by decide)]; exact f1012_c187
  have f1013_c195 : C_195 1013 = some (.inl (E.2.1 0, 4, .inl (fun _ => 0))) := by rw [hC_195]; rw [va_up_ne _ _ (by decide)]; exact f1013_c187
  have f1014_c195 : C_195 1014 = some (.inl (E.2.1 0, 4, .inl (fun _ => 0))) := by rw [hC_195]; rw [va_up_ne _ _ (by decide)]; exact f1014_c187
  have f1015_c195 : C_195 1015 = some (.inl (E.2.1 0, 4, .inl (fun _ => 0))) := by rw [hC_195]; rw [va_up_ne _ _ (by decide)]; exact f1015_c187
  have f1016_c195 : C_195 1016 = some (.inl (E.2.1 0, 240, .inl (fun _ => 0))) := by rw [hC_195]; rw [va_up_ne _ _ (by decide)]; exact f1016_c187
  have f1017_c195 : C_195 1017 = some (.inl (E.2.1 1, 8, .inr (.inl (fun _ => 0)))) := by rw [hC_195]; rw [va_up_ne _ _ (by decide)]; exact f1017_c187
  have f1018_c195 : C_195 1018 = some (.inl (E.2.1 1, 16, .inr (.inl (fun _ => 0)))) := by rw [hC_195]; rw [va_up_ne _ _ (by decide)]; exact f1018_c187
  have f1024_c195 : C_195 1024 = some (.inl (E.2.1 0, 4, .inl (fun _ => 0))) := by rw [hC_195]; rw [va_up_ne _ _ (by decide)]; exact f1024_c187
  have f1025_c195 : C_195 1025 = some (.inl (E.2.1 1, 4, .inr (.inl (fun _ => 0)))) := by rw [hC_195]; rw [va_up_ne _ _ (by decide)]; exact f1025_c187
  have f1026_c195 : C_195 1026 = some (.inl (E.2.1 0, 64, .inl (fun _ => 0))) := by rw [hC_195]; rw [va_up_ne _ _ (by decide)]; exact f1026_c187
  have f1027_c195 : C_195 1027 = some (.inl (E.2.1 2, 16, .inl (fun _ => 0))) := by rw [hC_195]; rw [va_up_ne _ _ (by decide)]; exact f1027_c187
  have f1028_c195 : C_195 1028 = some (.inl (E.2.1 1, 16, .inr (.inl (fun _ => 0)))) := by rw [hC_195]; rw [va_up_ne _ _ (by decide)]; exact f1028_c187
  refine lv_aload_n hx hb dX8_init_196 rfl (lv_at hl 0 rfl) ?_
  refine wg_get F hP f1000_c195 rfl iw_X8 9 (by decide) tb_558 rfl rfl dX8_init_197 ?_
  refine lv_iconst (v := 3) hx hb dX8_init_200 (by decide) ?_
  refine lv_iconst (v := 4) hx hb dX8_init_201 (by decide) ?_
  refine wg_ist F hP hS f1009_c195 (vp_in_nI (n := 3) (by decide) (by decide)) dX8_init_202 (fun H locs hP hS => ?_)
  obtain ⟨C_202, hC_202⟩ : ∃ z : wg_C, z = va_up C_195 1009 (some (.inl (E.2.1 0, 4, .inl (upd (upd (upd (upd (fun _ => 0) (0 : Int32).toNatClampNeg 1) (1 : Int32).toNatClampNeg 3) (2 : Int32).toNatClampNeg 50) (3 : Int32).toNatClampNeg 4)))) := ⟨_, rfl⟩
  have hP : wg_P E A_169 C_202 H := by rw [hC_202]; exact hP
  have f1000_c202 : C_202 1000 = some (.inr (8, [.int 0, .ref (A_169 1001), .int 0, .ref (A_169 1003), .ref (A_169 1004), .ref (A_169 1005), .ref (A_169 1006), .ref (A_169 1007), .ref (A_169 1008), .ref (A_169 1009), .ref (A_169 1010), .ref (A_169 1011), .ref (A_169 1012), .ref (A_169 1013), .ref (A_169 1014), .ref (A_169 1015), .ref (A_169 1016), .ref (A_169 1017), .ref (A_169 1018), .int 0, .int 0, .long 0, .long 0, .int 0, .ref (A_169 1024), .ref (A_169 1025), .ref (A_169 1026), .ref (A_169 1027), .ref (A_169 1028)])) := by rw [hC_202]; rw [va_up_ne _ _ (by decide)]; exact f1000_c195
  have f1001_c202 : C_202 1001 = some (.inl (E.2.1 0, 160, .inl (fun _ => 0))) := by rw [hC_202]; rw [va_up_ne _ _ (by decide)]; exact f1001_c195
  have f1003_c202 : C_202 1003 = some (.inl (E.2.1 0, 60, .inl (fun _ => 0))) := by rw [hC_202]; rw [va_up_ne _ _ (by decide)]; exact f1003_c195
  have f1004_c202 : C_202 1004 = some (.inl (E.2.1 1, 60, .inr (.inl (fun _ => 0)))) := by rw [hC_202]; rw [va_up_ne _ _ (by decide)]; exact f1004_c195
  have f1005_c202 : C_202 1005 = some (.inl (E.2.1 0, 60, .inl (fun _ => 0))) := by rw [hC_202]; rw [va_up_ne _ _ (by decide)]; exact f1005_c195
  have f1006_c202 : C_202 1006 = some (.inl (E.2.1 0, 60, .inl (fun _ => 0))) := by rw [hC_202]; rw [va_up_ne _ _ (by decide)]; exact f1006_c195
  have f1007_c202 : C_202 1007 = some (.inl (E.2.1 1, 60, .inr (.inl (fun _ => 0)))) := by rw [hC_202]; rw [va_up_ne _ _ (by decide)]; exact f1007_c195
  have f1008_c202 : C_202 1008 = some (.inl (E.2.1 0, 60, .inl (fun _ => 0))) := by rw [hC_202]; rw [va_up_ne _ _ (by decide)]; exact f1008_c195
  have f1009_c202 : C_202 1009 = some (.inl (E.2.1 0, 4, .inl (upd (upd (upd (upd (fun _ => 0) (0 : Int32).toNatClampNeg 1) (1 : Int32).toNatClampNeg 3) (2 : Int32).toNatClampNeg 50) (3 : Int32).toNatClampNeg 4))) := by rw [hC_202]; exact va_up_self _ _ _
  have f1010_c202 : C_202 1010 = some (.inl (E.2.1 0, 4, .inl (fun _ => 0))) := by rw [hC_202]; rw [va_up_ne _ _ (by decide)]; exact f1010_c195
  have f1011_c202 : C_202 1011 = some (.inl (E.2.1 0, 44, .inl (fun _ => 0))) := by rw [hC_202]; rw [va_up_ne _ _ (by decide)]; exact f1011_c195
  have f1012_c202 : C_202 1012 = some (.inl (E.2.1 0, 4, .inl (fun _ => 0))) := by rw [hC_202]; rw [va_up_ne _ _ (by decide)]; exact f1012_c195
  have f1013_c202 : C_202 1013 = some (.inl (E.2.1 0, 4, .inl (fun _ => 0))) := by rw [hC_202]; rw [va_up_ne _ _ (by decide)]; exact f1013_c195
  have f1014_c202 : C_202 1014 = some (.inl (E.2.1 0, 4, .inl (fun _ => 0))) := by rw [hC_202]; rw [va_up_ne _ _ (by decide)]; exact f1014_c195
  have f1015_c202 : C_202 1015 = some (.inl (E.2.1 0, 4, .inl (fun _ => 0))) := by rw [hC_202]; rw [va_up_ne _ _ (by decide)]; exact f1015_c195
  have f1016_c202 : C_202 1016 = some (.inl (E.2.1 0, 240, .inl (fun _ => 0))) := by rw [hC_202]; rw [va_up_ne _ _ (by decide)]; exact f1016_c195
  have f1017_c202 : C_202 1017 = some (.inl (E.2.1 1, 8, .inr (.inl (fun _ => 0)))) := by rw [hC_202]; rw [va_up_ne _ _ (by decide)]; exact f1017_c195
  have f1018_c202 : C_202 1018 = some (.inl (E.2.1 1, 16, .inr (.inl (fun _ => 0)))) := by rw [hC_202]; rw [va_up_ne _ _ (by decide)]; exact f1018_c195
  have f1024_c202 : C_202 1024 = some (.inl (E.2.1 0, 4, .inl (fun _ => 0))) := by rw [hC_202]; rw [va_up_ne _ _ (by decide)]; exact f1024_c195
  have f1025_c202 : C_202 1025 = some (.inl (E.2.1 1, 4, .inr (.inl (fun _ => 0)))) := by rw [hC_202]; rw [va_up_ne _ _ (by decide)]; exact f1025_c195
  have f1026_c202 : C_202 1026 = some (.inl (E.2.1 0, 64, .inl (fun _ => 0))) := by rw [hC_202]; rw [va_up_ne _ _ (by decide)]; exact f1026_c195
  have f1027_c202 : C_202 1027 = some (.inl (E.2.1 2, 16, .inl (fun _ => 0))) := by rw [hC_202]; rw [va_up_ne _ _ (by decide)]; exact f1027_c195
  have f1028_c202 : C_202 1028 = some (.inl (E.2.1 1, 16, .inr (.inl (fun _ => 0)))) := by rw [hC_202]; rw [va_up_ne _ _ (by decide)]; exact f1028_c195
  refine lv_iconst (v := 0) hx hb dX8_init_203 (by decide) ?_
  refine lv_istore_n (lv' := [(1, .int 0), (0, .ref (A_169 1000))]) hx hb dX8_init_204 rfl hl (by decide) rfl (fun ls hl => ?_)
  refine lv_iload_n hx hb dX8_init_205 rfl (lv_at hl 0 rfl) ?_
  refine lv_iconst (v := 4) hx hb dX8_init_206 (by decide) ?_
  refine lv_icmp_ge (tgt := 232) hx hb dX8_init_207 (by decide) (fun c_207 => ?_) (fun c_207 => ?_)
  · exact absurd c_207 (by decide)
  · refine lv_aload_n hx hb dX8_init_210 rfl (lv_at hl 1 rfl) ?_
    refine wg_get F hP f1000_c202 rfl iw_X8 13 (by decide) tb_562 rfl rfl dX8_init_211 ?_
    refine lv_iload_n hx hb dX8_init_214 rfl (lv_at hl 0 rfl) ?_
    refine lv_bipush (v := (-2)) hx hb dX8_init_215 (by decide) ?_
    refine wg_ist F hP hS f1013_c202 (vp_in_nI (n := 0) (by decide) (by decide)) dX8_init_217 (fun H locs hP hS => ?_)
    obtain ⟨C_217, hC_217⟩ : ∃ z : wg_C, z = va_up C_202 1013 (some (.inl (E.2.1 0, 4, .inl (upd (fun _ => 0) (0 : Int32).toNatClampNeg ((-2)))))) := ⟨_, rfl⟩
    have hP : wg_P E A_169 C_217 H := by rw [hC_217]; exact hP
    have f1000_c217 : C_217 1000 = some (.inr (8, [.int 0, .ref (A_169 1001), .int 0, .ref (A_169 1003), .ref (A_169 1004), .ref (A_169 1005), .ref (A_169 1006), .ref (A_169 1007), .ref (A_169 1008), .ref (A_169 1009), .ref (A_169 1010), .ref (A_169 1011), .ref (A_169 1012), .ref (A_169 1013), .ref (A_169 1014), .ref (A_169 1015), .ref (A_169 1016), .ref (A_169 1017), .ref (A_169 1018), .int 0, .int 0, .long 0, .long 0, .int 0, .ref (A_169 1024), .ref (A_169 1025), .ref (A_169 1026), .ref (A_169 1027), .ref (A_169 1028)])) := by rw [hC_217]; rw [va_up_ne _ _ (by decide)]; exact f1000_c202
    have f1001_c217 : C_217 1001 = some (.inl (E.2.1 0, 160, .inl (fun _ => 0))) := by rw [hC_217]; rw [va_up_ne _ _ (by decide)]; exact f1001_c202
    have f1003_c217 : C_217 1003 = some (.inl (E.2.1 0, 60, .inl (fun _ => 0))) := by rw [hC_217]; rw [va_up_ne _ _ (by decide)]; exact f1003_c202
    have f1004_c217 : C_217 1004 = some (.inl (E.2.1 1, 60, .inr (.inl (fun _ => 0)))) := by rw [hC_217]; rw [va_up_ne _ _ (by decide)]; exact f1004_c202
    have f1005_c217 : C_217 1005 = some (.inl (E.2.1 0, 60, .inl (fun _ => 0))) := by rw [hC_217]; rw [va_up_ne _ _ (by decide)]; exact f1005_c202
    have f1006_c217 : C_217 1006 = some (.inl (E.2.1 0, 60, .inl (fun _ => 0))) := by rw [hC_217]; rw [va_up_ne _ _ (by decide)]; exact f1006_c202
    have f1007_c217 : C_217 1007 = some (.inl (E.2.1 1, 60, .inr (.inl (fun _ => 0)))) := by rw [hC_217]; rw [va_up_ne _ _ (by decide)]; exact f1007_c202
    have f1008_c217 : C_217 1008 = some (.inl (E.2.1 0, 60, .inl (fun _ => 0))) := by rw [hC_217]; rw [va_up_ne _ _ (by decide)]; exact f1008_c202
    have f1009_c217 : C_217 1009 = some (.inl (E.2.1 0, 4, .inl (upd (upd (upd (upd (fun _ => 0) (0 : Int32).toNatClampNeg 1) (1 : Int32).toNatClampNeg 3) (2 : Int32).toNatClampNeg 50) (3 : Int32).toNatClampNeg 4))) := by rw [hC_217]; rw [va_up_ne _ _ (by decide)]; exact f1009_c202
    have f1010_c217 : C_217 1010 = some (.inl (E.2.1 0, 4, .inl (fun _ => 0))) := by rw [hC_217]; rw [va_up_ne _ _ (by decide)]; exact f1010_c202
    have f1011_c217 : C_217 1011 = some (.inl (E.2.1 0, 44, .inl (fun _ => 0))) := by rw [hC_217]; rw [va_up_ne _ _ (by decide)]; exact f1011_c202
    have f1012_c217 : C_217 1012 = some (.inl (E.2.1 0, 4, .inl (fun _ => 0))) := by rw [hC_217]; rw [va_up_ne _ _ (by decide)]; exact f1012_c202
    have f1013_c217 : C_217 1013 = some (.inl (E.2.1 0, 4, .inl (upd (fun _ => 0) (0 : Int32).toNatClampNeg ((-2))))) := by rw [hC_217]; exact va_up_self _ _ _
    have f1014_c217 : C_217 1014 = some (.inl (E.2.1 0, 4, .inl (fun _ => 0))) := by rw [hC_217]; rw [va_up_ne _ _ (by decide)]; exact f1014_c202
    have f1015_c217 : C_217 1015 = some (.inl (E.2.1 0, 4, .inl (fun _ => 0))) := by rw [hC_217]; rw [va_up_ne _ _ (by decide)]; exact f1015_c202
    have f1016_c217 : C_217 1016 = some (.inl (E.2.1 0, 240, .inl (fun _ => 0))) := by rw [hC_217]; rw [va_up_ne _ _ (by decide)]; exact f1016_c202
    have f1017_c217 : C_217 1017 = some (.inl (E.2.1 1, 8, .inr (.inl (fun _ => 0)))) := by rw [hC_217]; rw [va_up_ne _ _ (by decide)]; exact f1017_c202
    have f1018_c217 : C_217 1018 = some (.inl (E.2.1 1, 16, .inr (.inl (fun _ => 0)))) := by rw [hC_217]; rw [va_up_ne _ _ (by decide)]; exact f1018_c202
    have f1024_c217 : C_217 1024 = some (.inl (E.2.1 0, 4, .inl (fun _ => 0))) := by rw [hC_217]; rw [va_up_ne _ _ (by decide)]; exact f1024_c202
    have f1025_c217 : C_217 1025 = some (.inl (E.2.1 1, 4, .inr (.inl (fun _ => 0)))) := by rw [hC_217]; rw [va_up_ne _ _ (by decide)]; exact f1025_c202
    have f1026_c217 : C_217 1026 = some (.inl (E.2.1 0, 64, .inl (fun _ => 0))) := by rw [hC_217]; rw [va_up_ne _ _ (by decide)]; exact f1026_c202
    have f1027_c217 : C_217 1027 = some (.inl (E.2.1 2, 16, .inl (fun _ => 0))) := by rw [hC_217]; rw [va_up_ne _ _ (by decide)]; exact f1027_c202
    have f1028_c217 : C_217 1028 = some (.inl (E.2.1 1, 16, .inr (.inl (fun _ => 0)))) := by rw [hC_217]; rw [va_up_ne _ _ (by decide)]; exact f1028_c202
    refine lv_aload_n hx hb dX8_init_218 rfl (lv_at hl 1 rfl) ?_
    refine wg_get F hP f1000_c217 rfl iw_X8 14 (by decide) tb_563 rfl rfl dX8_init_219 ?_
    refine lv_iload_n hx hb dX8_init_222 rfl (lv_at hl 0 rfl) ?_
    refine lv_bipush (v := (-2)) hx hb dX8_init_223 (by decide) ?_
    refine wg_ist F hP hS f1014_c217 (vp_in_nI (n := 0) (by decide) (by decide)) dX8_init_225 (fun H locs hP hS => ?_)
    obtain ⟨C_225, hC_225⟩ : ∃ z : wg_C, z = va_up C_217 1014 (some (.inl (E.2.1 0, 4, .inl (upd (fun _ => 0) (0 : Int32).toNatClampNeg ((-2)))))) := ⟨_, rfl⟩
    have hP : wg_P E A_169 C_225 H := by rw [hC_225]; exact hP
    have f1000_c225 : C_225 1000 = some (.inr (8, [.int 0, .ref (A_169 1001), .int 0, .ref (A_169 1003), .ref (A_169 1004), .ref (A_169 1005), .ref (A_169 1006), .ref (A_169 1007), .ref (A_169 1008), .ref (A_169 1009), .ref (A_169 1010), .ref (A_169 1011), .ref (A_169 1012), .ref (A_169 1013), .ref (A_169 1014), .ref (A_169 1015), .ref (A_169 1016), .ref (A_169 1017), .ref (A_169 1018), .int 0, .int 0, .long 0, .long 0, .int 0, .ref (A_169 1024), .ref (A_169 1025), .ref (A_169 1026), .ref (A_169 1027), .ref (A_169 1028)])) := by rw [hC_225]; rw [va_up_ne _ _ (by decide)]; exact f1000_c217
    have f1001_c225 : C_225 1001 = some (.inl (E.2.1 0, 160, .inl (fun _ => 0))) := by rw [hC_225]; rw [va_up_ne _ _ (by decide)]; exact f1001_c217
    have f1003_c225 : C_225 1003 = some (.inl (E.2.1 0, 60, .inl (fun _ => 0))) := by rw [hC_225]; rw [va_up_ne _ _ (by decide)]; exact f1003_c217
    have f1004_c225 : C_225 1004 = some (.inl (E.2.1 1, 60, .inr (.inl (fun _ => 0)))) := by rw [hC_225]; rw [va_up_ne _ _ (by decide)]; exact f1004_c217
    have f1005_c225 : C_225 1005 = some (.inl (E.2.1 0, 60, .inl (fun _ => 0))) := by rw [hC_225]; rw [va_up_ne _ _ (by decide)]; exact f1005_c217
    have f1006_c225 : C_225 1006 = some (.inl (E.2.1 0, 60, .inl (fun _ => 0))) := by rw [hC_225]; rw [va_up_ne _ _ (by decide)]; exact f1006_c217
    have f1007_c225 : C_225 1007 = some (.inl (E.2.1 1, 60, .inr (.inl (fun _ => 0)))) := by rw [hC_225]; rw [va_up_ne _ _ (by decide)]; exact f1007_c217
    have f1008_c225 : C_225 1008 = some (.inl (E.2.1 0, 60, .inl (fun _ => 0))) := by rw [hC_225]; rw [va_up_ne _ _ (by decide)]; exact f1008_c217
    have f1009_c225 : C_225 1009 = some (.inl (E.2.1 0, 4, .inl (upd (upd (upd (upd (fun _ => 0) (0 : Int32).toNatClampNeg 1) (1 : Int32).toNatClampNeg 3) (2 : Int32).toNatClampNeg 50) (3 : Int32).toNatClampNeg 4))) := by rw [hC_225]; rw [va_up_ne _ _ (by decide)]; exact f1009_c217
    have f1010_c225 : C_225 1010 = some (.inl (E.2.1 0, 4, .inl (fun _ => 0))) := by rw [hC_225]; rw [va_up_ne _ _ (by decide)]; exact f1010_c217
    have f1011_c225 : C_225 1011 = some (.inl (E.2.1 0, 44, .inl (fun _ => 0))) := by rw [hC_225]; rw [va_up_ne _ _ (by decide)]; exact f1011_c217
    have f1012_c225 : C_225 1012 = some (.inl (E.2.1 0, 4, .inl (fun _ => 0))) := by rw [hC_225]; rw [va_up_ne _ _ (by decide)]; exact f1012_c217
    have f1013_c225 : C_225 1013 = some (.inl (E.2.1 0, 4, .inl (upd (fun _ => 0) (0 : Int32).toNatClampNeg ((-2))))) := by rw [hC_225]; rw [va_up_ne _ _ (by decide)]; exact f1013_c217
    have f1014_c225 : C_225 1014 = some (.inl (E.2.1 0, 4, .inl (upd (fun _ => 0) (0 : Int32).toNatClampNeg ((-2))))) := by rw [hC_225]; exact va_up_self _ _ _
    have f1015_c225 : C_225 1015 = some (.inl (E.2.1 0, 4, .inl (fun _ => 0))) := by rw [hC_225]; rw [va_up_ne _ _ (by decide)]; exact f1015_c217
    have f1016_c225 : C_225 1016 = some (.inl (E.2.1 0, 240, .inl (fun _ => 0))) := by rw [hC_225]; rw [va_up_ne _ _ (by decide)]; exact f1016_c217
    have f1017_c225 : C_225 1017 = some (.inl (E.2.1 1, 8, .inr (.inl (fun _ => 0)))) := by rw [hC_225]; rw [va_up_ne _ _ (by decide)]; exact f1017_c217
    have f1018_c225 : C_225 1018 = some (.inl (E.2.1 1, 16, .inr (.inl (fun _ => 0)))) := by rw [hC_225]; rw [va_up_ne _ _ (by decide)]; exact f1018_c217
    have f1024_c225 : C_225 1024 = some (.inl (E.2.1 0, 4, .inl (fun _ => 0))) := by rw [hC_225]; rw [va_up_ne _ _ (by decide)]; exact f1024_c217
    have f1025_c225 : C_225 1025 = some (.inl (E.2.1 1, 4, .inr (.inl (fun _ => 0)))) := by rw [hC_225]; rw [va_up_ne _ _ (by decide)]; exact f1025_c217
    have f1026_c225 : C_225 1026 = some (.inl (E.2.1 0, 64, .inl (fun _ => 0))) := by rw [hC_225]; rw [va_up_ne _ _ (by decide)]; exact f1026_c217
    have f1027_c225 : C_225 1027 = some (.inl (E.2.1 2, 16, .inl (fun _ => 0))) := by rw [hC_225]; rw [va_up_ne _ _ (by decide)]; exact f1027_c217
    have f1028_c225 : C_225 1028 = some (.inl (E.2.1 1, 16, .inr (.inl (fun _ => 0)))) := by rw [hC_225]; rw [va_up_ne _ _ (by decide)]; exact f1028_c217
    refine lv_iinc (v := 1) (lv' := [(1, .int 1), (0, .ref (A_169 1000))]) hx hb dX8_init_226 hl (k := 0) rfl (by decide) (by decide) rfl (fun ls hl => ?_)
    refine lv_goto (tgt := 205) hx hb dX8_init_229 (by decide) ?_
    refine lv_iload_n hx hb dX8_init_205 rfl (lv_at hl 0 rfl) ?_
    refine lv_iconst (v := 4) hx hb dX8_init_206 (by decide) ?_
    refine lv_icmp_ge (tgt := 232) hx hb dX8_init_207 (by decide) (fun c_207 => ?_) (fun c_207 => ?_)
    · exact absurd c_207 (by decide)
    · refine lv_aload_n hx hb dX8_init_210 rfl (lv_at hl 1 rfl) ?_
      refine wg_get F hP f1000_c225 rfl iw_X8 13 (by decide) tb_562 rfl rfl dX8_init_211 ?_
      refine lv_iload_n hx hb dX8_init_214 rfl (lv_at hl 0 rfl) ?_
      refine lv_bipush (v := (-2)) hx hb dX8_init_215 (by decide) ?_
      refine wg_ist F hP hS f1013_c225 (vp_in_nI (n := 1) (by decide) (by decide)) dX8_init_217 (fun H locs hP hS => ?_)
      obtain ⟨C_217_1, hC_217_1⟩ : ∃ z : wg_C, z = va_up C_225 1013 (some (.inl (E.2.1 0, 4, .inl (upd (upd (fun _ => 0) (0 : Int32).toNatClampNeg ((-2))) (1 : Int32).toNatClampNeg ((-2)))))) := ⟨_, rfl⟩
      have hP : wg_P E A_169 C_217_1 H := by rw [hC_217_1]; exact hP
      have f1000_c217_1 : C_217_1 1000 = some (.inr (8, [.int 0, .ref (A_169 1001), .int 0, .ref (A_169 1003), .ref (A_169 1004), .ref (A_169 1005), .ref (A_169 1006), .ref (A_169 1007), .ref (A_169 1008), .ref (A_169 1009), .ref (A_169 1010), .ref (A_169 1011), .ref (A_169 1012), .ref (A_169 1013), .ref (A_169 1014), .ref (A_169 1015), .ref (A_169 1016), .ref (A_169 1017), .ref (A_169 1018), .int 0, .int 0, .long 0, .long 0, .int 0, .ref (A_169 1024), .ref (A_169 1025), .ref (A_169 1026), .ref (A_169 1027), .ref (A_169 1028)])) := by rw [hC_217_1]; rw [va_up_ne _ _ (by decide)]; exact f1000_c225
      have f1001_c217_1 : C_217_1 1001 = some (.inl (E.2.1 0, 160, .inl (fun _ => 0))) := by rw [hC_217_1]; rw [va_up_ne _ _ (by decide)]; exact f1001_c225
      have f1003_c217_1 : C_217_1 1003 = some (.inl (E.2.1 0, 60, .inl (fun _ => 0))) := by rw [hC_217_1]; rw [va_up_ne _ _ (by decide)]; exact f1003_c225
      have f1004_c217_1 : C_217_1 1004 = some (.inl (E.2.1 1, 60, .inr (.inl (fun _ => 0)))) := by rw [hC_217_1]; rw [va_up_ne _ _ (by decide)]; exact f1004_c225
      have f1005_c217_1 : C_217_1 1005 = some (.inl (E.2.1 0, 60, .inl (fun _ => 0))) := by rw [hC_217_1]; rw [va_up_ne _ _ (by decide)]; exact f1005_c225
      have f1006_c217_1 : C_217_1 1006 = some (.inl (E.2.1 0, 60, .inl (fun _ => 0))) := by rw [hC_217_1]; rw [va_up_ne _ _ (by decide)]; exact f1006_c225
      have f1007_c217_1 : C_217_1 1007 = some (.inl (E.2.1 1, 60, .inr (.inl (fun _ => 0)))) := by rw [hC_217_1]; rw [va_up_ne _ _ (by decide)]; exact f1007_c225
      have f1008_c217_1 : C_217_1 1008 = some (.inl (E.2.1 0, 60, .inl (fun _ => 0))) := by rw [hC_217_1]; rw [va_up_ne _ _ (by decide)]; exact f1008_c225
      have f1009_c217_1 : C_217_1 1009 = some (.inl (E.2.1 0, 4, .inl (upd (upd (upd (upd (fun _ => 0) (0 : Int32).toNatClampNeg 1) (1 : Int32).toNatClampNeg 3) (2 : Int32).toNatClampNeg 50) (3 : Int32).toNatClampNeg 4))) := by rw [hC_217_1]; rw [va_up_ne _ _ (by decide)]; exact f1009_c225
      have f1010_c217_1 : C_217_1 1010 = some (.inl (E.2.1 0, 4, .inl (fun _ => 0))) := by rw [hC_217_1]; rw [va_up_ne _ _ (by decide)]; exact f1010_c225
      have f1011_c217_1 : C_217_1 1011 = some (.inl (E.2.1 0, 44, .inl (fun _ => 0))) := by rw [hC_217_1]; rw [va_up_ne _ _ (by decide)]; exact f1011_c225
      have f1012_c217_1 : C_217_1 1012 = some (.inl (E.2.1 0, 4, .inl (fun _ => 0))) := by rw [hC_217_1]; rw [va_up_ne _ _ (by decide)]; exact f1012_c225
      have f1013_c217_1 : C_217_1 1013 = some (.inl (E.2.1 0, 4, .inl (upd (upd (fun _ => 0) (0 : Int32).toNatClampNeg ((-2))) (1 : Int32).toNatClampNeg ((-2))))) := by rw [hC_217_1]; exact va_up_self _ _ _
      have f1014_c217_1 : C_217_1 1014 = some (.inl (E.2.1 0, 4, .inl (upd (fun _ => 0) (0 : Int32).toNatClampNeg ((-2))))) := by rw [hC_217_1]; rw [va_up_ne _ _ (by decide)]; exact f1014_c225
      have f1015_c217_1 : C_217_1 1015 = some (.inl (E.2.1 0, 4, .inl (fun _ => 0))) := by rw [hC_217_1]; rw [va_up_ne _ _ (by decide)]; exact f1015_c225
      have f1016_c217_1 : C_217_1 1016 = some (.inl (E.2.1 0, 240, .inl (fun _ => 0))) := by rw [hC_217_1]; rw [va_up_ne _ _ (by decide)]; exact f1016_c225
      have f1017_c217_1 : C_217_1 1017 = some (.inl (E.2.1 1, 8, .inr (.inl (fun _ => 0)))) := by rw [hC_217_1]; rw [va_up_ne _ _ (by decide)]; exact f1017_c225
      have f1018_c217_1 : C_217_1 1018 = some (.inl (E.2.1 1, 16, .inr (.inl (fun _ => 0)))) := by rw [hC_217_1]; rw [va_up_ne _ _ (by decide)]; exact f1018_c225
      have f1024_c217_1 : C_217_1 1024 = some (.inl (E.2.1 0, 4, .inl (fun _ => 0))) := by rw [hC_217_1]; rw [va_up_ne _ _ (by decide)]; exact f1024_c225
      have f1025_c217_1 : C_217_1 1025 = some (.inl (E.2.1 1, 4, .inr (.inl (fun _ => 0)))) := by rw [hC_217_1]; rw [va_up_ne _ _ (by decide)]; exact f1025_c225
      have f1026_c217_1 : C_217_1 1026 = some (.inl (E.2.1 0, 64, .inl (fun _ => 0))) := by rw [hC_217_1]; rw [va_up_ne _ _ (by decide)]; exact f1026_c225
      have f1027_c217_1 : C_217_1 1027 = some (.inl (E.2.1 2, 16, .inl (fun _ => 0))) := by rw [hC_217_1]; rw [va_up_ne _ _ (by decide)]; exact f1027_c225
      have f1028_c217_1 : C_217_1 1028 = some (.inl (E.2.1 1, 16, .inr (.inl (fun _ => 0)))) := by rw [hC_217_1]; rw [va_up_ne _ _ (by decide)]; exact f1028_c225
      refine lv_aload_n hx hb dX8_init_218 rfl (lv_at hl 1 rfl) ?_
      refine wg_get F hP f1000_c217_1 rfl iw_X8 14 (by decide) tb_563 rfl rfl dX8_init_219 ?_
      refine lv_iload_n hx hb dX8_init_222 rfl (lv_at hl 0 rfl) ?_
      refine lv_bipush (v := (-2)) hx hb dX8_init_223 (by decide) ?_
      refine wg_ist F hP hS f1014_c217_1 (vp_in_nI (n := 1) (by decide) (by decide)) dX8_init_225 (fun H locs hP hS => ?_)
      obtain ⟨C_225_1, hC_225_1⟩ : ∃ z : wg_C, z = va_up C_217_1 1014 (some (.inl (E.2.1 0, 4, .inl (upd (upd (fun _ => 0) (0 : Int32).toNatClampNeg ((-2))) (1 : Int32).toNatClampNeg ((-2)))))) := ⟨_, rfl⟩
      have hP : wg_P E A_169 C_225_1 H := by rw [hC_225_1]; exact hP
      have f1000_c225_1 : C_225_1 1000 = some (.inr (8, [.int 0, .ref (A_169 1001), .int 0, .ref (A_169 1003), .ref (A_169 1004), .ref (A_169 1005), .ref (A_169 1006), .ref (A_169 1007), .ref (A_169 1008), .ref (A_169 1009), .ref (A_169 1010), .ref (A_169 1011), .ref (A_169 1012), .ref (A_169 1013), .ref (A_169 1014), .ref (A_169 1015), .ref (A_169 1016), .ref (A_169 1017), .ref (A_169 1018), .int 0, .int 0, .long 0, .long 0, .int 0, .ref (A_169 1024), .ref (A_169 1025), .ref (A_169 1026), .ref (A_169 1027), .ref (A_169 1028)])) := by rw [hC_225_1]; rw [va_up_ne _ _ (by decide)]; exact f1000_c217_1
      have f1001_c225_1 : C_225_1 1001 = some (.inl (E.2.1 0, 160, .inl (fun _ => 0))) := by rw [hC_225_1]; rw [va_up_ne _ _ (by decide)]; exact f1001_c217_1
      have f1003_c225_1 : C_225_1 1003 = some (.inl (E.2.1 0, 60, .inl (fun _ => 0))) := by rw [hC_225_1]; rw [va_up_ne _ _ (by decide)]; exact f1003_c217_1
      have f1004_c225_1 : C_225_1 1004 = some (.inl (E.2.1 1, 60, .inr (.inl (fun _ => 0)))) := by rw [hC_225_1]; rw [va_up_ne _ _ (by decide)]; exact f1004_c217_1
      have f1005_c225_1 : C_225_1 1005 = some (.inl (E.2.1 0, 60, .inl (fun _ => 0))) := by rw [hC_225_1]; rw [va_up_ne _ _ (by decide)]; exact f1005_c217_1
      have f1006_c225_1 : C_225_1 1006 = some (.inl (E.2.1 0, 60, .inl (fun _ => 0))) := by rw [hC_225_1]; rw [va_up_ne _ _ (by decide)]; exact f1006_c217_1
      have f1007_c225_1 : C_225_1 1007 = some (.inl (E.2.1 1, 60, .inr (.inl (fun _ => 0)))) := by rw [hC_225_1]; rw [va_up_ne _ _ (by decide)]; exact f1007_c217_1
      have f1008_c225_1 : C_225_1 1008 = some (.inl (E.2.1 0, 60, .inl (fun _ => 0))) := by rw [hC_225_1]; rw [va_up_ne _ _ (by decide)]; exact f1008_c217_1
      have f1009_c225_1 : C_225_1 1009 = some (.inl (E.2.1 0, 4, .inl (upd (upd (upd (upd (fun _ => 0) (0 : Int32).toNatClampNeg 1) (1 : Int32).toNatClampNeg 3) (2 : Int32).toNatClampNeg 50) (3 : Int32).toNatClampNeg 4))) := by rw [hC_225_1]; rw [va_up_ne _ _ (by decide)]; exact f1009_c217_1
      have f1010_c225_1 : C_225_1 1010 = some (.inl (E.2.1 0, 4, .inl (fun _ => 0))) := by rw [hC_225_1]; rw [va_up_ne _ _ (by decide)]; exact f1010_c217_1
      have f1011_c225_1 : C_225_1 1011 = some (.inl (E.2.1 0, 44, .inl (fun _ => 0))) := by rw [hC_225_1]; rw [va_up_ne _ _ (by decide)]; exact f1011_c217_1
      have f1012_c225_1 : C_225_1 1012 = some (.inl (E.2.1 0, 4, .inl (fun _ => 0))) := by rw [hC_225_1]; rw [va_up_ne _ _ (by decide)]; exact f1012_c217_1
      have f1013_c225_1 : C_225_1 1013 = some (.inl (E.2.1 0, 4, .inl (upd (upd (fun _ => 0) (0 : Int32).toNatClampNeg ((-2))) (1 : Int32).toNatClampNeg ((-2))))) := by rw [hC_225_1]; rw [va_up_ne _ _ (by decide)]; exact f1013_c217_1
      have f1014_c225_1 : C_225_1 1014 = some (.inl (E.2.1 0, 4, .inl (upd (upd (fun _ => 0) (0 : Int32).toNatClampNeg ((-2))) (1 : Int32).toNatClampNeg ((-2))))) := by rw [hC_225_1]; exact va_up_self _ _ _
      have f1015_c225_1 : C_225_1 1015 = some (.inl (E.2.1 0, 4, .inl (fun _ => 0))) := by rw [hC_225_1]; rw [va_up_ne _ _ (by decide)]; exact f1015_c217_1
      have f1016_c225_1 : C_225_1 1016 = some (.inl (E.2.1 0, 240, .inl (fun _ => 0))) := by rw [hC_225_1]; rw [va_up_ne _ _ (by decide)]; exact f1016_c217_1
      have f1017_c225_1 : C_225_1 1017 = some (.inl (E.2.1 1, 8, .inr (.inl (fun _ => 0)))) := by rw [hC_225_1]; rw [va_up_ne _ _ (by decide)]; exact f1017_c217_1
      have f1018_c225_1 : C_225_1 1018 = some (.inl (E.2.1 1, 16, .inr (.inl (fun _ => 0)))) := by rw [hC_225_1]; rw [va_up_ne _ _ (by decide)]; exact f1018_c217_1
      have f1024_c225_1 : C_225_1 1024 = some (.inl (E.2.1 0, 4, .inl (fun _ => 0))) := by rw [hC_225_1]; rw [va_up_ne _ _ (by decide)]; exact f1024_c217_1
      have f1025_c225_1 : C_225_1 1025 = some (.inl (E.2.1 1, 4, .inr (.inl (fun _ => 0)))) := by rw [hC_225_1]; rw [va_up_ne _ _ (by decide)]; exact f1025_c217_1
      have f1026_c225_1 : C_225_1 1026 = some (.inl (E.2.1 0, 64, .inl (fun _ => 0))) := by rw [hC_225_1]; rw [va_up_ne _ _ (by decide)]; exact f1026_c217_1
      have f1027_c225_1 : C_225_1 1027 = some (.inl (E.2.1 2, 16, .inl (fun _ => 0))) := by rw [hC_225_1]; rw [va_up_ne _ _ (by decide)]; exact f1027_c217_1
      have f1028_c225_1 : C_225_1 1028 = some (.inl (E.2.1 1, 16, .inr (.inl (fun _ => 0)))) := by rw [hC_225_1]; rw [va_up_ne _ _ (by decide)]; exact f1028_c217_1
      refine lv_iinc (v := 2) (lv' := [(1, .int 2), (0, .ref (A_169 1000))]) hx hb dX8_init_226 hl (k := 0) rfl (by decide) (by decide) rfl (fun ls hl => ?_)
      refine lv_goto (tgt := 205) hx hb dX8_init_229 (by decide) ?_
      refine lv_iload_n hx hb dX8_init_205 rfl (lv_at hl 0 rfl) ?_
      refine lv_iconst (v := 4) hx hb dX8_init_206 (by decide) ?_
      refine lv_icmp_ge (tgt := 232) hx hb dX8_init_207 (by decide) (fun c_207 => ?_) (fun c_207 => ?_)
      · exact absurd c_207 (by decide)
      · refine lv_aload_n hx hb dX8_init_210 rfl (lv_at hl 1 rfl) ?_
        refine wg_get F hP f1000_c225_1 rfl iw_X8 13 (by decide) tb_562 rfl rfl dX8_init_211 ?_
        refine lv_iload_n hx hb dX8_init_214 rfl (lv_at hl 0 rfl) ?_
        refine lv_bipush (v := (-2)) hx hb dX8_init_215 (by decide) ?_
        refine wg_ist F hP hS f1013_c225_1 (vp_in_nI (n := 2) (by decide) (by decide)) dX8_init_217 (fun H locs hP hS => ?_)
        obtain ⟨C_217_2, hC_217_2⟩ : ∃ z : wg_C, z = va_up C_225_1 1013 (some (.inl (E.2.1 0, 4, .inl (upd (upd (upd (fun _ => 0) (0 : Int32).toNatClampNeg ((-2))) (1 : Int32).toNatClampNeg ((-2))) (2 : Int32).toNatClampNeg ((-2)))))) := ⟨_, rfl⟩
        have hP : wg_P E A_169 C_217_2 H := by rw [hC_217_2]; exact hP
        have f1000_c217_2 : C_217_2 1000 = some (.inr (8, [.int 0, .ref (A_169 1001), .int 0, .ref (A_169 1003), .ref (A_169 1004), .ref (A_169 1005), .ref (A_169 1006), .ref (A_169 1007), .ref (A_169 1008), .ref (A_169 1009), .ref (A_169 1010), .ref (A_169 1011), .ref (A_169 1012), .ref (A_169 1013), .ref (A_169 1014), .ref (A_169 1015), .ref (A_169 1016), .ref (A_169 1017), .ref (A_169 1018), .int 0, .int 0, .long 0, .long 0, .int 0, .ref (A_169 1024), .ref (A_169 1025), .ref (A_169 1026), .ref (A_169 1027), .ref (A_169 1028)])) := by rw [hC_217_2]; rw [va_up_ne _ _ (by decide)]; exact f1000_c225_1
        have f1001_c217_2 : C_217_2 1001 = some (.inl (E.2.1 0, 160, .inl (fun _ => 0))) := by rw [hC_217_2]; rw [va_up_ne _ _ (by decide)]; exact f1001_c225_1
        have f1003_c217_2 : C_217_2 1003 = some (.inl (E.2.1 0, 60, .inl (fun _ => 0))) := by rw [hC_217_2]; rw [va_up_ne _ _ (by decide)]; exact f1003_c225_1
        have f1004_c217_2 : C_217_2 1004 = some (.inl (E.2.1 1, 60, .inr (.inl (fun _ => 0)))) := by rw [hC_217_2]; rw [va_up_ne _ _ (by decide)]; exact f1004_c225_1
        have f1005_c217_2 : C_217_2 1005 = some (.inl (E.2.1 0, 60, .inl (fun _ => 0))) := by rw [hC_217_2]; rw [va_up_ne _ _ (by decide)]; exact f1005_c225_1
        have f1006_c217_2 : C_217_2 1006 = some (.inl (E.2.1 0, 60, .inl (fun _ => 0))) := by rw [hC_217_2]; rw [va_up_ne _ _ (by decide)]; exact f1006_c225_1
        have f1007_c217_2 : C_217_2 1007 = some (.inl (E.2.1 1, 60, .inr (.inl (fun _ => 0)))) := by rw [hC_217_2]; rw [va_up_ne _ _ (by decide)]; exact f1007_c225_1
        have f1008_c217_2 : C_217_2 1008 = some (.inl (E.2.1 0, 60, .inl (fun _ => 0))) := by rw [hC_217_2]; rw [va_up_ne _ _ (by decide)]; exact f1008_c225_1
        have f1009_c217_2 : C_217_2 1009 = some (.inl (E.2.1 0, 4, .inl (upd (upd (upd (upd (fun _ => 0) (0 : Int32).toNatClampNeg 1) (1 : Int32).toNatClampNeg 3) (2 : Int32).toNatClampNeg 50) (3 : Int32).toNatClampNeg 4))) := by rw [hC_217_2]; rw [va_up_ne _ _ (by decide)]; exact f1009_c225_1
        have f1010_c217_2 : C_217_2 1010 = some (.inl (E.2.1 0, 4, .inl (fun _ => 0))) := by rw [hC_217_2]; rw [va_up_ne _ _ (by decide)]; exact f1010_c225_1
        have f1011_c217_2 : C_217_2 1011 = some (.inl (E.2.1 0, 44, .inl (fun _ => 0))) := by rw [hC_217_2]; rw [va_up_ne _ _ (by decide)]; exact f1011_c225_1
        have f1012_c217_2 : C_217_2 1012 = some (.inl (E.2.1 0, 4, .inl (fun _ => 0))) := by rw [hC_217_2]; rw [va_up_ne _ _ (by decide)]; exact f1012_c225_1
        have f1013_c217_2 : C_217_2 1013 = some (.inl (E.2.1 0, 4, .inl (upd (upd (upd (fun _ => 0) (0 : Int32).toNatClampNeg ((-2))) (1 : Int32).toNatClampNeg ((-2))) (2 : Int32).toNatClampNeg ((-2))))) := by rw [hC_217_2]; exact va_up_self _ _ _
        have f1014_c217_2 : C_217_2 1014 = some (.inl (E.2.1 0, 4, .inl (upd (upd (fun _ => 0) (0 : Int32).toNatClampNeg ((-2))) (1 : Int32).toNatClampNeg ((-2))))) := by rw [hC_217_2]; rw [va_up_ne _ _ (by decide)]; exact f1014_c225_1
        have f1015_c217_2 : C_217_2 1015 = some (.inl (E.2.1 0, 4, .inl (fun _ => 0))) := by rw [hC_217_2]; rw [va_up_ne _ _ (by decide)]; exact f1015_c225_1
        have f1016_c217_2 : C_217_2 1016 = some (.inl (E.2.1 0, 240, .inl (fun _ => 0))) := by rw [hC_217_2]; rw [va_up_ne _ _ (by decide)]; exact f1016_c225_1
        have f1017_c217_2 : C_217_2 1017 = some (.inl (E.2.1 1, 8, .inr (.inl (fun _ => 0)))) := by rw [hC_217_2]; rw [va_up_ne _ _ (by decide)]; exact f1017_c225_1
        have f1018_c217_2 : C_217_2 1018 = some (.inl (E.2.1 1, 16, .inr (.inl (fun _ => 0)))) := by rw [hC_217_2]; rw [va_up_ne _ _ (by decide)]; exact f1018_c225_1
        have f1024_c217_2 : C_217_2 1024 = some (.inl (E.2.1 0, 4, .inl (fun _ => 0))) := by rw [hC_217_2]; rw [va_up_ne _ _ (by decide)]; exact f1024_c225_1
        have f1025_c217_2 : C_217_2 1025 = some (.inl (E.2.1 1, 4, .inr (.inl (fun _ => 0)))) := by rw [hC_217_2]; rw [va_up_ne _ _ (by decide)]; exact f1025_c225_1
        have f1026_c217_2 : C_217_2 1026 = some (.inl (E.2.1 0, 64, .inl (fun _ => 0))) := by rw [hC_217_2]; rw [va_up_ne _ _ (by decide)]; exact f1026_c225_1
        have f1027_c217_2 : C_217_2 1027 = some (.inl (E.2.1 2, 16, .inl (fun _ => 0))) := by rw [hC_217_2]; rw [va_up_ne _ _ (by decide)]; exact f1027_c225_1
        have f1028_c217_2 : C_217_2 1028 = some (.inl (E.2.1 1, 16, .inr (.inl (fun _ => 0)))) := by rw [hC_217_2]; rw [va_up_ne _ _ (by decide)]; exact f1028_c225_1
        refine lv_aload_n hx hb dX8_init_218 rfl (lv_at hl 1 rfl) ?_
        refine wg_get F hP f1000_c217_2 rfl iw_X8 14 (by decide) tb_563 rfl rfl dX8_init_219 ?_
        refine lv_iload_n hx hb dX8_init_222 rfl (lv_at hl 0 rfl) ?_
        refine lv_bipush (v := (-2)) hx hb dX8_init_223 (by decide) ?_
        refine wg_ist F hP hS f1014_c217_2 (vp_in_nI (n := 2) (by decide) (by decide)) dX8_init_225 (fun H locs hP hS => ?_)
        obtain ⟨C_225_2, hC_225_2⟩ : ∃ z : wg_C, z = va_up C_217_2 1014 (some (.inl (E.2.1 0, 4, .inl (upd (upd (upd (fun _ => 0) (0 : Int32).toNatClampNeg ((-2))) (1 : Int32).toNatClampNeg ((-2))) (2 : Int32).toNatClampNeg ((-2)))))) := ⟨_, rfl⟩
        have hP : wg_P E A_169 C_225_2 H := by rw [hC_225_2]; exact hP
        have f1000_c225_2 : C_225_2 1000 = some (.inr (8, [.int 0, .ref (A_169 1001), .int 0, .ref (A_169 1003), .ref (A_169 1004), .ref (A_169 1005), .ref (A_169 1006), .ref (A_169 1007), .ref (A_169 1008), .ref (A_169 1009), .ref (A_169 1010), .ref (A_169 1011), .ref (A_169 1012), .ref (A_169 1013), .ref (A_169 1014), .ref (A_169 1015), .ref (A_169 1016), .ref (A_169 1017), .ref (A_169 1018), .int 0, .int 0, .long 0, .long 0, .int 0, .ref (A_169 1024), .ref (A_169 1025), .ref (A_169 1026), .ref (A_169 1027), .ref (A_169 1028)])) := by rw [hC_225_2]; rw [va_up_ne _ _ (by decide)]; exact f1000_c217_2
        have f1001_c225_2 : C_225_2 1001 = some (.inl (E.2.1 0, 160, .inl (fun _ => 0))) := by rw [hC_225_2]; rw [va_up_ne _ _ (by decide)]; exact f1001_c217_2
        have f1003_c225_2 : C_225_2 1003 = some (.inl (E.2.1 0, 60, .inl (fun _ => 0))) := by rw [hC_225_2]; rw [va_up_ne _ _ (by decide)]; exact f1003_c217_2
        have f1004_c225_2 : C_225_2 1004 = some (.inl (E.2.1 1, 60, .inr (.inl (fun _ => 0)))) := by rw [hC_225_2]; rw [va_up_ne _ _ (by decide)]; exact f1004_c217_2
        have f1005_c225_2 : C_225_2 1005 = some (.inl (E.2.1 0, 60, .inl (fun _ => 0))) := by rw [hC_225_2]; rw [va_up_ne _ _ (by decide)]; exact f1005_c217_2
        have f1006_c225_2 : C_225_2 1006 = some (.inl (E.2.1 0, 60, .inl (fun _ => 0))) := by rw [hC_225_2]; rw [va_up_ne _ _ (by decide)]; exact f1006_c217_2
        have f1007_c225_2 : C_225_2 1007 = some (.inl (E.2.1 1, 60, .inr (.inl (fun _ => 0)))) := by rw [hC_225_2]; rw [va_up_ne _ _ (by decide)]; exact f1007_c217_2
        have f1008_c225_2 : C_225_2 1008 = some (.inl (E.2.1 0, 60, .inl (fun _ => 0))) := by rw [hC_225_2]; rw [va_up_ne _ _ (by decide)]; exact f1008_c217_2
        have f1009_c225_2 : C_225_2 1009 = some (.inl (E.2.1 0, 4, .inl (upd (upd (upd (upd (fun _ => 0) (0 : Int32).toNatClampNeg 1) (1 : Int32).toNatClampNeg 3) (2 : Int32).toNatClampNeg 50) (3 : Int32).toNatClampNeg 4))) := by rw [hC_225_2]; rw [va_up_ne _ _ (by decide)]; exact f1009_c217_2
        have f1010_c225_2 : C_225_2 1010 = some (.inl (E.2.1 0, 4, .inl (fun _ => 0))) := by rw [hC_225_2]; rw [va_up_ne _ _ (by decide)]; exact f1010_c217_2
        have f1011_c225_2 : C_225_2 1011 = some (.inl (E.2.1 0, 44, .inl (fun _ => 0))) := by rw [hC_225_2]; rw [va_up_ne _ _ (by decide)]; exact f1011_c217_2
        have f1012_c225_2 : C_225_2 1012 = some (.inl (E.2.1 0, 4, .inl (fun _ => 0))) := by rw [hC_225_2]; rw [va_up_ne _ _ (by decide)]; exact f1012_c217_2
        have f1013_c225_2 : C_225_2 1013 = some (.inl (E.2.1 0, 4, .inl (upd (upd (upd (fun _ => 0) (0 : Int32).toNatClampNeg ((-2))) (1 : Int32).toNatClampNeg ((-2))) (2 : Int32).toNatClampNeg ((-2))))) := by rw [hC_225_2]; rw [va_up_ne _ _ (by decide)]; exact f1013_c217_2
        have f1014_c225_2 : C_225_2 1014 = some (.inl (E.2.1 0, 4, .inl (upd (upd (upd (fun _ => 0) (0 : Int32).toNatClampNeg ((-2))) (1 : Int32).toNatClampNeg ((-2))) (2 : Int32).toNatClampNeg ((-2))))) := by rw [hC_225_2]; exact va_up_self _ _ _
        have f1015_c225_2 : C_225_2 1015 = some (.inl (E.2.1 0, 4, .inl (fun _ => 0))) := by rw [hC_225_2]; rw [va_up_ne _ _ (by decide)]; exact f1015_c217_2
        have f1016_c225_2 : C_225_2 1016 = some (.inl (E.2.1 0, 240, .inl (fun _ => 0))) := by rw [hC_225_2]; rw [va_up_ne _ _ (by decide)]; exact f1016_c217_2
        have f1017_c225_2 : C_225_2 1017 = some (.inl (E.2.1 1, 8, .inr (.inl (fun _ => 0)))) := by rw [hC_225_2]; rw [va_up_ne _ _ (by decide)]; exact f1017_c217_2
        have f1018_c225_2 : C_225_2 1018 = some (.inl (E.2.1 1, 16, .inr (.inl (fun _ => 0)))) := by rw [hC_225_2]; rw [va_up_ne _ _ (by decide)]; exact f1018_c217_2
        have f1024_c225_2 : C_225_2 1024 = some (.inl (E.2.1 0, 4, .inl (fun _ => 0))) := by rw [hC_225_2]; rw [va_up_ne _ _ (by decide)]; exact f1024_c217_2
        have f1025_c225_2 : C_225_2 1025 = some (.inl (E.2.1 1, 4, .inr (.inl (fun _ => 0)))) := by rw [hC_225_2]; rw [va_up_ne _ _ (by decide)]; exact f1025_c217_2
        have f1026_c225_2 : C_225_2 1026 = some (.inl (E.2.1 0, 64, .inl (fun _ => 0))) := by rw [hC_225_2]; rw [va_up_ne _ _ (by decide)]; exact f1026_c217_2
        have f1027_c225_2 : C_225_2 1027 = some (.inl (E.2.1 2, 16, .inl (fun _ => 0))) := by rw [hC_225_2]; rw [va_up_ne _ _ (by decide)]; exact f1027_c217_2
        have f1028_c225_2 : C_225_2 1028 = some (.inl (E.2.1 1, 16, .inr (.inl (fun _ => 0)))) := by rw [hC_225_2]; rw [va_up_ne _ _ (by decide)]; exact f1028_c217_2
        refine lv_iinc (v := 3) (lv' := [(1, .int 3), (0, .ref (A_169 1000))]) hx hb dX8_init_226 hl (k := 0) rfl (by decide) (by decide) rfl (fun ls hl => ?_)
        refine lv_goto (tgt := 205) hx hb dX8_init_229 (by decide) ?_
        refine lv_iload_n hx hb dX8_init_205 rfl (lv_at hl 0 rfl) ?_
        refine lv_iconst (v := 4) hx hb dX8_init_206 (by decide) ?_
        refine lv_icmp_ge (tgt := 232) hx hb dX8_init_207 (by decide) (fun c_207 => ?_) (fun c_207 => ?_)
        · exact absurd c_207 (by decide)
        · refine lv_aload_n hx hb dX8_init_210 rfl (lv_at hl 1 rfl) ?_
          refine wg_get F hP f1000_c225_2 rfl iw_X8 13 (by decide) tb_562 rfl rfl dX8_init_211 ?_
          refine lv_iload_n hx hb dX8_init_214 rfl (lv_at hl 0 rfl) ?_
          refine lv_bipush (v := (-2)) hx hb dX8_init_215 (by decide) ?_
          refine wg_ist F hP hS f1013_c225_2 (vp_in_nI (n := 3) (by decide) (by decide)) dX8_init_217 (fun H locs hP hS => ?_)
          obtain ⟨C_217_3, hC_217_3⟩ : ∃ z : wg_C, z = va_up C_225_2 1013 (some (.inl (E.2.1 0, 4, .inl (upd (upd (upd (upd (fun _ => 0) (0 : Int32).toNatClampNeg ((-2))) (1 : Int32).toNatClampNeg ((-2))) (2 : Int32).toNatClampNeg ((-2))) (3 : Int32).toNatClampNeg ((-2)))))) := ⟨_, rfl⟩
          have hP : wg_P E A_169 C_217_3 H := by rw [hC_217_3]; exact hP
          have f1000_c217_3 : C_217_3 1000 = some (.inr (8, [.int 0, .ref (A_169 1001), .int 0, .ref (A_169 1003), .ref (A_169 1004), .ref (A_169 1005), .ref (A_169 1006), .ref (A_169 1007), .ref (A_169 1008), .ref (A_169 1009), .ref (A_169 1010), .ref (A_169 1011), .ref (A_169 1012), .ref (A_169 1013), .ref (A_169 1014), .ref (A_169 1015), .ref (A_169 1016), .ref (A_169 1017), .ref (A_169 1018), .int 0, .int 0, .long 0, .long 0, .int 0, .ref (A_169 1024), .ref (A_169 1025), .ref (A_169 1026), .ref (A_169 1027), .ref (A_169 1028)])) := by rw [hC_217_3]; rw [va_up_ne _ _ (by decide)]; exact f1000_c225_2
          have f1001_c217_3 : C_217_3 1001 = some (.inl (E.2.1 0, 160, .inl (fun _ => 0))) := by rw [hC_217_3]; rw [va_up_ne _ _ (by decide)]; exact f1001_c225_2
          have f1003_c217_3 : C_217_3 1003 = some (.inl (E.2.1 0, 60, .inl (fun _ => 0))) := by rw [hC_217_3]; rw [va_up_ne _ _ (by decide)]; exact f1003_c225_2
          have f1004_c217_3 : C_217_3 1004 = some (.inl (E.2.1 1, 60, .inr (.inl (fun _ => 0)))) := by rw [hC_217_3]; rw [va_up_ne _ _ (by decide)]; exact f1004_c225_2
          have f1005_c217_3 : C_217_3 1005 = some (.inl (E.2.1 0, 60, .inl (fun _ => 0))) := by rw [hC_217_3]; rw [va_up_ne _ _ (by decide)]; exact f1005_c225_2
          have f1006_c217_3 : C_217_3 1006 = some (.inl (E.2.1 0, 60, .inl (fun _ => 0))) := by rw [hC_217_3]; rw [va_up_ne _ _ (by decide)]; exact f1006_c225_2
          have f1007_c217_3 : C_217_3 1007 = some (.inl (E.2.1 1, 60, .inr (.inl (fun _ => 0)))) := by rw [hC_217_3]; rw [va_up_ne _ _ (by decide)]; exact f1007_c225_2
          have f1008_c217_3 : C_217_3 1008 = some (.inl (E.2.1 0, 60, .inl (fun _ => 0))) := by rw [hC_217_3]; rw [va_up_ne _ _ (by decide)]; exact f1008_c225_2
          have f1009_c217_3 : C_217_3 1009 = some (.inl (E.2.1 0, 4, .inl (upd (upd (upd (upd (fun _ => 0) (0 : Int32).toNatClampNeg 1) (1 : Int32).toNatClampNeg 3) (2 : Int32).toNatClampNeg 50) (3 : Int32).toNatClampNeg 4))) := by rw [hC_217_3]; rw [va_up_ne _ _ (by decide)]; exact f1009_c225_2
          have f1010_c217_3 : C_217_3 1010 = some (.inl (E.2.1 0, 4, .inl (fun _ => 0))) := by rw [hC_217_3]; rw [va_up_ne _ _ (by decide)]; exact f1010_c225_2
          have f1011_c217_3 : C_217_3 1011 = some (.inl (E.2.1 0, 44, .inl (fun _ => 0))) := by rw [hC_217_3]; rw [va_up_ne _ _ (by decide)]; exact f1011_c225_2
          have f1012_c217_3 : C_217_3 1012 = some (.inl (E.2.1 0, 4, .inl (fun _ => 0))) := by rw [hC_217_3]; rw [va_up_ne _ _ (by decide)]; exact f1012_c225_2
          have f1013_c217_3 : C_217_3 1013 = some (.inl (E.2.1 0, 4, .inl (upd (upd (upd (upd (fun _ => 0) (0 : Int32).toNatClampNeg ((-2))) (1 : Int32).toNatClampNeg ((-2))) (2 : Int32).toNatClampNeg ((-2))) (3 : Int32).toNatClampNeg ((-2))))) := by rw [hC_217_3]; exact va_up_self _ _ _
          have f1014_c217_3 : C_217_3 1014 = some (.inl (E.2.1 0, 4, .inl (upd (upd (upd (fun _ => 0) (0 : Int32).toNatClampNeg ((-2))) (1 : Int32).toNatClampNeg ((-2))) (2 : Int32).toNatClampNeg ((-2))))) := by rw [hC_217_3]; rw [va_up_ne _ _ (by decide)]; exact f1014_c225_2
          have f1015_c217_3 : C_217_3 1015 = some (.inl (E.2.1 0, 4, .inl (fun _ => 0))) := by rw [hC_217_3]; rw [va_up_ne _ _ (by decide)]; exact f1015_c225_2
          have f1016_c217_3 : C_217_3 1016 = some (.inl (E.2.1 0, 240, .inl (fun _ => 0))) := by rw [hC_217_3]; rw [va_up_ne _ _ (by decide)]; exact f1016_c225_2
          have f1017_c217_3 : C_217_3 1017 = some (.inl (E.2.1 1, 8, .inr (.inl (fun _ => 0)))) := by rw [hC_217_3]; rw [va_up_ne _ _ (by decide)]; exact f1017_c225_2
          have f1018_c217_3 : C_217_3 1018 = some (.inl (E.2.1 1, 16, .inr (.inl (fun _ => 0)))) := by rw [hC_217_3]; rw [va_up_ne _ _ (by decide)]; exact f1018_c225_2
          have f1024_c217_3 : C_217_3 1024 = some (.inl (E.2.1 0, 4, .inl (fun _ => 0))) := by rw [hC_217_3]; rw [va_up_ne _ _ (by decide)]; exact f1024_c225_2
          have f1025_c217_3 : C_217_3 1025 = some (.inl (E.2.1 1, 4, .inr (.inl (fun _ => 0)))) := by rw [hC_217_3]; rw [va_up_ne _ _ (by decide)]; exact f1025_c225_2
          have f1026_c217_3 : C_217_3 1026 = some (.inl (E.2.1 0, 64, .inl (fun _ => 0))) := by rw [hC_217_3]; rw [va_up_ne _ _ (by decide)]; exact f1026_c225_2
          have f1027_c217_3 : C_217_3 1027 = some (.inl (E.2.1 2, 16, .inl (fun _ => 0))) := by rw [hC_217_3]; rw [va_up_ne _ _ (by decide)]; exact f1027_c225_2
          have f1028_c217_3 : C_217_3 1028 = some (.inl (E.2.1 1, 16, .inr (.inl (fun _ => 0)))) := by rw [hC_217_3]; rw [va_up_ne _ _ (by decide)]; exact f1028_c225_2
          refine lv_aload_n hx hb dX8_init_218 rfl (lv_at hl 1 rfl) ?_
          refine wg_get F hP f1000_c217_3 rfl iw_X8 14 (by decide) tb_563 rfl rfl dX8_init_219 ?_
          refine lv_iload_n hx hb dX8_init_222 rfl (lv_at hl 0 rfl) ?_
          refine lv_bipush (v := (-2)) hx hb dX8_init_223 (by decide) ?_
          refine wg_ist F hP hS f1014_c217_3 (vp_in_nI (n := 3) (by decide) (by decide)) dX8_init_225 (fun H locs hP hS => ?_)
          obtain ⟨C_225_3, hC_225_3⟩ : ∃ z : wg_C, z = va_up C_217_3 1014 (some (.inl (E.2.1 0, 4, .inl (upd (upd (upd (upd (fun _ => 0) (0 : Int32).toNatClampNeg ((-2))) (1 : Int32).toNatClampNeg ((-2))) (2 : Int32).toNatClampNeg ((-2))) (3 : Int32).toNatClampNeg ((-2)))))) := ⟨_, rfl⟩
          have hP : wg_P E A_169 C_225_3 H := by rw [hC_225_3]; exact hP
          have f1000_c225_3 : C_225_3 1000 = some (.inr (8, [.int 0, .ref (A_169 1001), .int 0, .ref (A_169 1003), .ref (A_169 1004), .ref (A_169 1005), .ref (A_169 1006), .ref (A_169 1007), .ref (A_169 1008), .ref (A_169 1009), .ref (A_169 1010), .ref (A_169 1011), .ref (A_169 1012), .ref (A_169 1013), .ref (A_169 1014), .ref (A_169 1015), .ref (A_169 1016), .ref (A_169 1017), .ref (A_169 1018), .int 0, .int 0, .long 0, .long 0, .int 0, .ref (A_169 1024), .ref (A_169 1025), .ref (A_169 1026), .ref (A_169 1027), .ref (A_169 1028)])) := by rw [hC_225_3]; rw [va_up_ne _ _ (by decide)]; exact f1000_c217_3
          have f1001_c225_3 : C_225_3 1001 = some (.inl (E.2.1 0, 160, .inl (fun _ => 0))) := by rw [hC_225_3]; rw [va_up_ne _ _ (by decide)]; exact f1001_c217_3
          have f1003_c225_3 : C_225_3 1003 = some (.inl (E.2.1 0, 60, .inl (fun _ => 0))) := by rw [hC_225_3]; rw [va_up_ne _ _ (by decide)]; exact f1003_c217_3
          have f1004_c225_3 : C_225_3 1004 = some (.inl (E.2.1 1, 60, .inr (.inl (fun _ => 0)))) := by rw [hC_225_3]; rw [va_up_ne _ _ (by decide)]; exact f1004_c217_3
          have f1005_c225_3 : C_225_3 1005 = some (.inl (E.2.1 0, 60, .inl (fun _ => 0))) := by rw [hC_225_3]; rw [va_up_ne _ _ (by decide)]; exact f1005_c217_3
          have f1006_c225_3 : C_225_3 1006 = some (.inl (E.2.1 0, 60, .inl (fun _ => 0))) := by rw [hC_225_3]; rw [va_up_ne _ _ (by decide)]; exact f1006_c217_3
          have f1007_c225_3 : C_225_3 1007 = some (.inl (E.2.1 1, 60, .inr (.inl (fun _ => 0)))) := by rw [hC_225_3]; rw [va_up_ne _ _ (by decide)]; exact f1007_c217_3
          have f1008_c225_3 : C_225_3 1008 = some (.inl (E.2.1 0, 60, .inl (fun _ => 0))) := by rw [hC_225_3]; rw [va_up_ne _ _ (by decide)]; exact f1008_c217_3
          have f1009_c225_3 : C_225_3 1009 = some (.inl (E.2.1 0, 4, .inl (upd (upd (upd (upd (fun _ => 0) (0 : Int32).toNatClampNeg 1) (1 : Int32).toNatClampNeg 3) (2 : Int32).toNatClampNeg 50) (3 : Int32).toNatClampNeg 4))) := by rw [hC_225_3]; rw [va_up_ne _ _ (by decide)]; exact f1009_c217_3
          have f1010_c225_3 : C_225_3 1010 = some (.inl (E.2.1 0, 4, .inl (fun _ => 0))) := by rw [hC_225_3]; rw [va_up_ne _ _ (by decide)]; exact f1010_c217_3
          have f1011_c225_3 : C_225_3 1011 = some (.inl (E.2.1 0, 44, .inl (fun _ => 0))) := by rw [hC_225_3]; rw [va_up_ne _ _ (by decide)]; exact f1011_c217_3
          have f1012_c225_3 : C_225_3 1012 = some (.inl (E.2.1 0, 4, .inl (fun _ => 0))) := by rw [hC_225_3]; rw [va_up_ne _ _ (by decide)]; exact f1012_c217_3
          have f1013_c225_3 : C_225_3 1013 = some (.inl (E.2.1 0, 4, .inl (upd (upd (upd (upd (fun _ => 0) (0 : Int32).toNatClampNeg ((-2))) (1 : Int32).toNatClampNeg ((-2))) (2 : Int32).toNatClampNeg ((-2))) (3 : Int32).toNatClampNeg ((-2))))) := by rw [hC_225_3]; rw [va_up_ne _ _ (by decide)]; exact f1013_c217_3
          have f1014_c225_3 : C_225_3 1014 = some (.inl (E.2.1 0, 4, .inl (upd (upd (upd (upd (fun _ => 0) (0 : Int32).toNatClampNeg ((-2))) (1 : Int32).toNatClampNeg ((-2))) (2 : Int32).toNatClampNeg ((-2))) (3 : Int32).toNatClampNeg ((-2))))) := by rw [hC_225_3]; exact va_up_self _ _ _
          have f1015_c225_3 : C_225_3 1015 = some (.inl (E.2.1 0, 4, .inl (fun _ => 0))) := by rw [hC_225_3]; rw [va_up_ne _ _ (by decide)]; exact f1015_c217_3
          have f1016_c225_3 : C_225_3 1016 = some (.inl (E.2.1 0, 240, .inl (fun _ => 0))) := by rw [hC_225_3]; rw [va_up_ne _ _ (by decide)]; exact f1016_c217_3
          have f1017_c225_3 : C_225_3 1017 = some (.inl (E.2.1 1, 8, .inr (.inl (fun _ => 0)))) := by rw [hC_225_3]; rw [va_up_ne _ _ (by decide)]; exact f1017_c217_3
          have f1018_c225_3 : C_225_3 1018 = some (.inl (E.2.1 1, 16, .inr (.inl (fun _ => 0)))) := by rw [hC_225_3]; rw [va_up_ne _ _ (by decide)]; exact f1018_c217_3
          have f1024_c225_3 : C_225_3 1024 = some (.inl (E.2.1 0, 4, .inl (fun _ => 0))) := by rw [hC_225_3]; rw [va_up_ne _ _ (by decide)]; exact f1024_c217_3
          have f1025_c225_3 : C_225_3 1025 = some (.inl (E.2.1 1, 4, .inr (.inl (fun _ => 0)))) := by rw [hC_225_3]; rw [va_up_ne _ _ (by decide)]; exact f1025_c217_3
          have f1026_c225_3 : C_225_3 1026 = some (.inl (E.2.1 0, 64, .inl (fun _ => 0))) := by rw [hC_225_3]; rw [va_up_ne _ _ (by decide)]; exact f1026_c217_3
          have f1027_c225_3 : C_225_3 1027 = some (.inl (E.2.1 2, 16, .inl (fun _ => 0))) := by rw [hC_225_3]; rw [va_up_ne _ _ (by decide)]; exact f1027_c217_3
          have f1028_c225_3 : C_225_3 1028 = some (.inl (E.2.1 1, 16, .inr (.inl (fun _ => 0)))) := by rw [hC_225_3]; rw [va_up_ne _ _ (by decide)]; exact f1028_c217_3
          refine lv_iinc (v := 4) (lv' := [(1, .int 4), (0, .ref (A_169 1000))]) hx hb dX8_init_226 hl (k := 0) rfl (by decide) (by decide) rfl (fun ls hl => ?_)
          refine lv_goto (tgt := 205) hx hb dX8_init_229 (by decide) ?_
          refine lv_iload_n hx hb dX8_init_205 rfl (lv_at hl 0 rfl) ?_
          refine lv_iconst (v := 4) hx hb dX8_init_206 (by decide) ?_
          refine lv_icmp_ge (tgt := 232) hx hb dX8_init_207 (by decide) (fun c_207 => ?_) (fun c_207 => ?_)
          · refine lv_aload_n hx hb dX8_init_232 rfl (lv_at hl 1 rfl) ?_
            refine lv_iconst (v := 0) hx hb dX8_init_233 (by decide) ?_
            refine wg_topi (y := nI 0) rfl ?_
            refine lv_iconst (v := 1) hx hb dX8_init_234 (by decide) ?_
            refine wg_topi (y := nI 1) rfl ?_
            refine wg_ci hS (wg_rV (As := [.int (nI 0), .int (nI 1)]) (rest := []) F hP hS (c_X8_prove0 l E A_169 C_225_3 0 1 0 0 0 0 0 0 0 (fun _ => 0) (fun _ => 0) (fun _ => 0) (fun _ => 0) (fun _ => 0) (by decide) (by decide) (by decide) f1000_c225_3 f1017_c225_3 f1018_c225_3 f1024_c225_3 f1025_c225_3 f1027_c225_3) ok_X8_prove tb_527 rfl rfl ⟨Nat.le_of_ble_eq_true rfl, Nat.le_of_ble_eq_true rfl⟩ f1000_c225_3 rfl rfl rfl hl.1 rfl (Nat.le_of_ble_eq_true rfl) dX8_init_235 ⟨Nat.le_of_ble_eq_true rfl, Nat.le_of_ble_eq_true rfl⟩) (fun r_235 A1 C_235 H locs w_235 hP hS => ?_)
            obtain ⟨w_235, rfl, hfr_235, p0, ⟨nd, p18⟩, ⟨fn, p24, q24⟩, ⟨fv, p25, q25⟩, ⟨fz, p27⟩⟩ := w_235
            have f1001_c235 : C_235 1001 = some (.inl (E.2.1 0, 160, .inl (fun _ => 0))) := by rw [hfr_235 1001 (by decide) (by decide) (by decide) (by decide) (by decide)]; exact f1001_c225_3
            have f1003_c235 : C_235 1003 = some (.inl (E.2.1 0, 60, .inl (fun _ => 0))) := by rw [hfr_235 1003 (by decide) (by decide) (by decide) (by decide) (by decide)]; exact f1003_c225_3
            have f1004_c235 : C_235 1004 = some (.inl (E.2.1 1, 60, .inr (.inl (fun _ => 0)))) := by rw [hfr_235 1004 (by decide) (by decide) (by decide) (by decide) (by decide)]; exact f1004_c225_3
            have f1005_c235 : C_235 1005 = some (.inl (E.2.1 0, 60, .inl (fun _ => 0))) := by rw [hfr_235 1005 (by decide) (by decide) (by decide) (by decide) (by decide)]; exact f1005_c225_3
            have f1006_c235 : C_235 1006 = some (.inl (E.2.1 0, 60, .inl (fun _ => 0))) := by rw [hfr_235 1006 (by decide) (by decide) (by decide) (by decide) (by decide)]; exact f1006_c225_3
            have f1007_c235 : C_235 1007 = some (.inl (E.2.1 1, 60, .inr (.inl (fun _ => 0)))) := by rw [hfr_235 1007 (by decide) (by decide) (by decide) (by decide) (by decide)]; exact f1007_c225_3
            have f1008_c235 : C_235 1008 = some (.inl (E.2.1 0, 60, .inl (fun _ => 0))) := by rw [hfr_235 1008 (by decide) (by decide) (by decide) (by decide) (by decide)]; exact f1008_c225_3
            have f1009_c235 : C_235 1009 = some (.inl (E.2.1 0, 4, .inl (upd (upd (upd (upd (fun _ => 0) (0 : Int32).toNatClampNeg 1) (1 : Int32).toNatClampNeg 3) (2 : Int32).toNatClampNeg 50) (3 : Int32).toNatClampNeg 4))) := by rw [hfr_235 1009 (by decide) (by decide) (by decide) (by decide) (by decide)]; exact f1009_c225_3
            have f1010_c235 : C_235 1010 = some (.inl (E.2.1 0, 4, .inl (fun _ => 0))) := by rw [hfr_235 1010 (by decide) (by decide) (by decide) (by decide) (by decide)]; exact f1010_c225_3
            have f1011_c235 : C_235 1011 = some (.inl (E.2.1 0, 44, .inl (fun _ => 0))) := by rw [hfr_235 1011 (by decide) (by decide) (by decide) (by decide) (by decide)]; exact f1011_c225_3
            have f1012_c235 : C_235 1012 = some (.inl (E.2.1 0, 4, .inl (fun _ => 0))) := by rw [hfr_235 1012 (by decide) (by decide) (by decide) (by decide) (by decide)]; exact f1012_c225_3
            have f1013_c235 : C_235 1013 = some (.inl (E.2.1 0, 4, .inl (upd (upd (upd (upd (fun _ => 0) (0 : Int32).toNatClampNeg ((-2))) (1 : Int32).toNatClampNeg ((-2))) (2 : Int32).toNatClampNeg ((-2))) (3 : Int32).toNatClampNeg ((-2))))) := by rw [hfr_235 1013 (by decide) (by decide) (by decide) (by decide) (by decide)]; exact f1013_c225_3
            have f1014_c235 : C_235 1014 = some (.inl (E.2.1 0, 4, .inl (upd (upd (upd (upd (fun _ => 0) (0 : Int32).toNatClampNeg ((-2))) (1 : Int32).toNatClampNeg ((-2))) (2 : Int32).toNatClampNeg ((-2))) (3 : Int32).toNatClampNeg ((-2))))) := by rw [hfr_235 1014 (by decide) (by decide) (by decide) (by decide) (by decide)]; exact f1014_c225_3
            have f1015_c235 : C_235 1015 = some (.inl (E.2.1 0, 4, .inl (fun _ => 0))) := by rw [hfr_235 1015 (by decide) (by decide) (by decide) (by decide) (by decide)]; exact f1015_c225_3
            have f1016_c235 : C_235 1016 = some (.inl (E.2.1 0, 240, .inl (fun _ => 0))) := by rw [hfr_235 1016 (by decide) (by decide) (by decide) (by decide) (by decide)]; exact f1016_c225_3
            have f1017_c235 : C_235 1017 = some (.inl (E.2.1 1, 8, .inr (.inl (fun _ => 0)))) := by rw [hfr_235 1017 (by decide) (by decide) (by decide) (by decide) (by decide)]; exact f1017_c225_3
            have f1026_c235 : C_235 1026 = some (.inl (E.2.1 0, 64, .inl (fun _ => 0))) := by rw [hfr_235 1026 (by decide) (by decide) (by decide) (by decide) (by decide)]; exact f1026_c225_3
            have f1028_c235 : C_235 1028 = some (.inl (E.2.1 1, 16, .inr (.inl (fun _ => 0)))) := by rw [hfr_235 1028 (by decide) (by decide) (by decide) (by decide) (by decide)]; exact f1028_c225_3
            refine lv_istore_n (lv' := [(1, .int r_235), (0, .ref (A_169 1000))]) hx hb dX8_init_238 rfl hl (by decide) rfl (fun ls hl => ?_)
            refine W.widen (k := 40) (n := 1000) (Nat.le_of_ble_eq_true rfl) (Nat.le_of_ble_eq_true rfl) ?_
            exact wg_vret F hP hS hr hlk (⟨fun q hq => by rw [hA_169, va_up_ne _ _ (lm_small1 hq (by decide)), hA_161, va_up_ne _ _ (lm_small1 hq (by decide)), hA_153, va_up_ne _ _ (lm_small1 hq (by decide)), hA_145, va_up_ne _ _ (lm_small1 hq (by decide)), hA_138, va_up_ne _ _ (lm_small1 hq (by decide)), hA_131, va_up_ne _ _ (lm_small1 hq (by decide)), hA_123, va_up_ne _ _ (lm_small1 hq (by decide)), hA_115, va_up_ne _ _ (lm_small1 hq (by decide)), hA_106, va_up_ne _ _ (lm_small1 hq (by decide)), hA_99, va_up_ne _ _ (lm_small1 hq (by decide)), hA_92, va_up_ne _ _ (lm_small1 hq (by decide)), hA_85, va_up_ne _ _ (lm_small1 hq (by decide)), hA_78, va_up_ne _ _ (lm_small1 hq (by decide)), hA_70, va_up_ne _ _ (lm_small1 hq (by decide)), hA_63, va_up_ne _ _ (lm_small1 hq (by decide)), hA_56, va_up_ne _ _ (lm_small1 hq (by decide)), hA_48, va_up_ne _ _ (lm_small1 hq (by decide)), hA_40, va_up_ne _ _ (lm_small1 hq (by decide)), hA_32, va_up_ne _ _ (lm_small1 hq (by decide)), hA_24, va_up_ne _ _ (lm_small1 hq (by decide)), hA_16, va_up_ne _ _ (lm_small1 hq (by decide)), hA_8, va_up_ne _ _ (lm_small1 hq (by decide))], fun q hq => by rw [hfr_235 q (lm_small hq (by decide)) (lm_small hq (by decide)) (lm_small hq (by decide)) (lm_small hq (by decide)) (lm_small hq (by decide)), hC_225_3, va_up_ne _ _ (lm_small hq (by decide)), hC_217_3, va_up_ne _ _ (lm_small hq (by decide)), hC_225_2, va_up_ne _ _ (lm_small hq (by decide)), hC_217_2, va_up_ne _ _ (lm_small hq (by decide)), hC_225_1, va_up_ne _ _ (lm_small hq (by decide)), hC_217_1, va_up_ne _ _ (lm_small hq (by decide)), hC_225, va_up_ne _ _ (lm_small hq (by decide)), hC_217, va_up_ne _ _ (lm_small hq (by decide)), hC_202, va_up_ne _ _ (lm_small hq (by decide)), hC_195, va_up_ne _ _ (lm_small hq (by decide)), hC_187, va_up_ne _ _ (lm_small hq (by decide)), hC_180, va_up_ne _ _ (lm_small hq (by decide)), hC_171, va_up_ne _ _ (lm_small hq (by decide)), hC_169, va_up_ne _ _ (lm_small hq (by decide)), hC_163, va_up_ne _ _ (lm_small hq (by decide)), hC_161, va_up_ne _ _ (lm_small hq (by decide)), hC_155, va_up_ne _ _ (lm_small hq (by decide)), hC_153, va_up_ne _ _ (lm_small hq (by decide)), hC_147, va_up_ne _ _ (lm_small hq (by decide)), hC_145, va_up_ne _ _ (lm_small hq (by decide)), hC_140, va_up_ne _ _ (lm_small hq (by decide)), hC_138, va_up_ne _ _ (lm_small hq (by decide)), hC_133, va_up_ne _ _ (lm_small hq (by decide)), hC_131, va_up_ne _ _ (lm_small hq (by decide)), hC_125, va_up_ne _ _ (lm_small hq (by decide)), hC_123, va_up_ne _ _ (lm_small hq (by decide)), hC_117, va_up_ne _ _ (lm_small hq (by decide)), hC_115, va_up_ne _ _ (lm_small hq (by decide)), hC_108, va_up_ne _ _ (lm_small hq (by decide)), hC_106, va_up_ne _ _ (lm_small hq (by decide)), hC_101, va_up_ne _ _ (lm_small hq (by decide)), hC_99, va_up_ne _ _ (lm_small hq (by decide)), hC_94, va_up_ne _ _ (lm_small hq (by decide)), hC_92, va_up_ne _ _ (lm_small hq (by decide)), hC_87, va_up_ne _ _ (lm_small hq (by decide)), hC_85, va_up_ne _ _ (lm_small hq (by decide)), hC_80, va_up_ne _ _ (lm_small hq (by decide)), hC_78, va_up_ne _ _ (lm_small hq (by decide)), hC_72, va_up_ne _ _ (lm_small hq (by decide)), hC_70, va_up_ne _ _ (lm_small hq (by decide)), hC_65, va_up_ne _ _ (lm_small hq (by decide)), hC_63, va_up_ne _ _ (lm_small hq (by decide)), hC_58, va_up_ne _ _ (lm_small hq (by decide)), hC_56, va_up_ne _ _ (lm_small hq (by decide)), hC_50, va_up_ne _ _ (lm_small hq (by decide)), hC_48, va_up_ne _ _ (lm_small hq (by decide)), hC_42, va_up_ne _ _ (lm_small hq (by decide)), hC_40, va_up_ne _ _ (lm_small hq (by decide)), hC_34, va_up_ne _ _ (lm_small hq (by decide)), hC_32, va_up_ne _ _ (lm_small hq (by decide)), hC_26, va_up_ne _ _ (lm_small hq (by decide)), hC_24, va_up_ne _ _ (lm_small hq (by decide)), hC_18, va_up_ne _ _ (lm_small hq (by decide)), hC_16, va_up_ne _ _ (lm_small hq (by decide)), hC_10, va_up_ne _ _ (lm_small hq (by decide)), hC_8, va_up_ne _ _ (lm_small hq (by decide))], ⟨p0, ⟨_, f1001_c235, fun k hk => absurd hk (Nat.not_lt_zero _)⟩, ⟨_, f1003_c235, fun k hk => absurd hk (Nat.not_lt_zero _)⟩, ⟨_, f1004_c235, fun k hk => absurd hk (Nat.not_lt_zero _)⟩, ⟨_, f1005_c235, fun k hk => absurd hk (Nat.not_lt_zero _)⟩, ⟨_, f1006_c235, fun k hk => absurd hk (Nat.not_lt_zero _)⟩, ⟨_, f1007_c235, fun k hk => absurd hk (Nat.not_lt_zero _)⟩, ⟨_, f1008_c235, fun k hk => absurd hk (Nat.not_lt_zero _)⟩, ⟨_, f1009_c235, fun k _ => congrFun lc_terms0 k⟩, ⟨_, f1010_c235, fun k hk => rfl⟩, ⟨_, f1011_c235, fun i hi j hj => absurd hj (Nat.not_lt_zero _)⟩, ⟨_, f1012_c235, fun k hk => rfl⟩, ⟨_, f1013_c235, lm_m2x⟩, ⟨_, f1014_c235, lm_m2x⟩, ⟨_, f1015_c235, fun k hk => rfl⟩, ⟨_, f1016_c235, fun i hi j hj => absurd hj (Nat.not_lt_zero _)⟩, ⟨_, f1017_c235, fun k hk => rfl⟩, ⟨nd, p18, trivial⟩, ⟨fn, p24, q24⟩, ⟨fv, p25, fun z hz => (q25 z hz).trans (if_pos hz).symm⟩, ⟨_, f1026_c235, trivial⟩, ⟨fz, p27⟩, ⟨_, f1028_c235, trivial⟩⟩⟩) dX8_init_239
          · exact absurd c_207 (by decide)
