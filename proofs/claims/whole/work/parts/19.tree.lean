set_option maxHeartbeats 4000000 in
set_option maxRecDepth 100000 in
theorem c_X5_reckon (l : Launch) (E : wg_E) (A : Nat → Nat) (C : wg_C) (lf nd : Nat → Int64)  (f8 : C 8 = some (.inr (5, [.ref (A 9), .ref (A 10)]))) (f9 : C 9 = some (.inl (E.2.1 1, 8, .inr (.inl lf)))) (f10 : C 10 = some (.inl (E.2.1 1, 16, .inr (.inl nd)))) : Met l yX5_reckon (wg_ws yX5_reckon cX5_reckon 2 none) (wg_rm 2 0 0) (wg_Pc E A C [.ref (A 8)]) (wg_Qv E (fun A1 C1 => A = A1 ∧ (∀ r, r ≠ 10 → C1 r = C r) ∧ ∃ nd1 : Nat → Int64, C1 10 = some (.inl (E.2.1 1, 16, .inr (.inl nd1))) ∧ ∀ j, 1 ≤ j → j < 16 → nd1 j = lc_node lf j)) 0 0 (wg_A E) := by
  refine wg_met (by decide) (Nat.le_of_ble_eq_true rfl) ?_
  intro p e s m below meth c ls F hr hlk hnm hP hS hl
  have F : wg_F p m c cX5_reckon 2 s ([.ref (A 8)] : List Value).toArray "LightChecks$Tree" E := F
  have hx := F.1
  have hb := F.2.1
  have hml := F.2.2.1
  have hown := F.2.2.2.1
  have hts := F.2.2.2.2.1
  have hl : lv_has ls 2 [(0, .ref (A 8))] := hl
  refine lv_bipush (v := 15) hx hb dX5_reckon_0 (by decide) ?_
  refine lv_istore_n (lv' := [(1, .int 15), (0, .ref (A 8))]) hx hb dX5_reckon_2 rfl hl (by decide) rfl (fun ls hl => ?_)
  have loop_3 : ∀ (fuel : Nat) (k : Nat) (x1 : Int32) (fi : Nat → Int64), k < fuel → (k < 16) → (x1 = nI k) → (∀ j, k < j → j < 16 → fi j = lc_node lf j) → ∀ (Cw : wg_C) , Cw 8 = some (.inr (5, [.ref (A 9), .ref (A 10)])) → Cw 9 = some (.inl (E.2.1 1, 8, .inr (.inl lf))) → Cw 10 = some (.inl (E.2.1 1, 16, .inr (.inl fi))) → (∀ r, r ≠ 10 → Cw r = C r) → ∀ (H : Heap) (locs : List Loc) (ls : Array Slot), wg_P E A Cw H → va_S (wg_A E) s.heap H locs → lv_has ls 2 [(0, .ref (A 8)), (1, .int x1)] → W p l e (wg_rm 2 0 0) s m ([.ref (A 8)] : List Value).toArray below meth c H locs 0 0 (MQ below (wg_Qv E (fun A1 C1 => A = A1 ∧ (∀ r, r ≠ 10 → C1 r = C r) ∧ ∃ nd1 : Nat → Int64, C1 10 = some (.inl (E.2.1 1, 16, .inr (.inl nd1))) ∧ ∀ j, 1 ≤ j → j < 16 → nd1 j = lc_node lf j)) ([.ref (A 8)] : List Value).toArray s 0 0 (wg_A E)) (F0 m 3 ls []) := by
    intro fuel
    induction fuel with
    | zero => intro k x1 fi hm; exact absurd hm (Nat.not_lt_zero _)
    | succ fuel ih_loop_3 =>
      intro k x1 fi hm_loop_3 hk ex1 hfi Cw f8w f9w f10w hbase H locs ls hP hS hl
      subst ex1
      refine lv_iload_n hx hb dX5_reckon_3 rfl (lv_at hl 1 rfl) ?_
      refine lv_iconst (v := 1) hx hb dX5_reckon_4 (by decide) ?_
      refine lv_icmp_lt (tgt := 62) hx hb dX5_reckon_5 (by decide) (fun c_5 => ?_) (fun c_5 => ?_)
      · have hk0 : k = 0 := by rw [show (1 : Int32) = nI 1 from rfl, nI_ltI (by omega) (by decide)] at c_5; omega
        subst hk0
        exact wg_vret F hP hS hr hlk (⟨rfl, fun r h2 => by rw [hbase r h2], _, f10w, fun j h1 h2 => hfi j (by omega) h2⟩) dX5_reckon_62
      · have hk1 : 1 ≤ k := by rw [show (1 : Int32) = nI 1 from rfl, nI_ltI (by omega) (by decide)] at c_5; omega
        obtain ⟨k, rfl⟩ : ∃ q, k = q + 1 := ⟨k - 1, by omega⟩
        refine lv_aload_n hx hb dX5_reckon_8 rfl (lv_at hl 0 rfl) ?_
        refine wg_get F hP f8w rfl iw_X5 1 (by decide) tb_68 rfl rfl dX5_reckon_9 ?_
        refine lv_iload_n hx hb dX5_reckon_12 rfl (lv_at hl 1 rfl) ?_
        refine lv_iload_n hx hb dX5_reckon_13 rfl (lv_at hl 1 rfl) ?_
        refine lv_bipush (v := 8) hx hb dX5_reckon_14 (by decide) ?_
        refine lv_icmp_lt (tgt := 34) hx hb dX5_reckon_16 (by decide) (fun c_16 => ?_) (fun c_16 => ?_)
        · have hk8 : k + 1 < 8 := by rw [show (8 : Int32) = nI 8 from rfl, nI_ltI (by omega) (by decide)] at c_16; exact c_16
          have e2 : (2 : Int32) * nI (k + 1) = nI (2 * (k + 1)) := by rw [show (2 : Int32) = nI 2 from rfl, pk_mul]
          have e3 : nI (2 * (k + 1)) + 1 = nI (2 * (k + 1) + 1) := nI_1 _
          refine lv_aload_n hx hb dX5_reckon_34 rfl (lv_at hl 0 rfl) ?_
          refine wg_get F hP f8w rfl iw_X5 1 (by decide) tb_68 rfl rfl dX5_reckon_35 ?_
          refine lv_iconst (v := 2) hx hb dX5_reckon_38 (by decide) ?_
          refine lv_iload_n hx hb dX5_reckon_39 rfl (lv_at hl 1 rfl) ?_
          refine lv_imul hx hb dX5_reckon_40 ?_
          refine wg_lld F hP f10w (by rw [e2]; exact vp_in_nI (by omega) (by decide)) dX5_reckon_41 ?_
          refine wg_topl (y := lc_node lf (2 * (k + 1))) (by rw [e2, nI_clamp (by omega)]; exact hfi _ (by omega) (by omega)) ?_
          refine lv_aload_n hx hb dX5_reckon_42 rfl (lv_at hl 0 rfl) ?_
          refine wg_get F hP f8w rfl iw_X5 1 (by decide) tb_68 rfl rfl dX5_reckon_43 ?_
          refine lv_iconst (v := 2) hx hb dX5_reckon_46 (by decide) ?_
          refine lv_iload_n hx hb dX5_reckon_47 rfl (lv_at hl 1 rfl) ?_
          refine lv_imul hx hb dX5_reckon_48 ?_
          refine lv_iconst (v := 1) hx hb dX5_reckon_49 (by decide) ?_
          refine lv_iadd hx hb dX5_reckon_50 ?_
          refine wg_lld F hP f10w (by rw [e2, e3]; exact vp_in_nI (by omega) (by decide)) dX5_reckon_51 ?_
          refine wg_topl (y := lc_node lf (2 * (k + 1) + 1)) (by rw [e2, e3, nI_clamp (by omega)]; exact hfi _ (by omega) (by omega)) ?_
          refine wg_cl_ hS (wg_rSN (As := [.long (lc_node lf (2 * (k + 1))), .long (lc_node lf (2 * (k + 1) + 1))]) (rest := [.int (nI (k + 1)), .ref (A 10)]) F hP hS (c_X7_pair l E A Cw _ _) ok_X7_pair nb_61 rfl rfl ⟨Nat.le_of_ble_eq_true rfl, Nat.le_of_ble_eq_true rfl⟩ rfl hl.1 rfl (Nat.le_of_ble_eq_true rfl) dX5_reckon_52 ⟨Nat.le_of_ble_eq_true rfl, Nat.le_of_ble_eq_true rfl⟩) (fun r_52 A1 C_52 H locs w_52 hP hS => ?_)
          obtain ⟨w_52, rfl, rfl⟩ := w_52
          refine wg_topl (y := lc_node lf (k + 1)) (w_52.trans (lc_node_lo (by omega) hk8).symm) ?_
          refine lv_topl (fun x_55 ex_55 => ?_)
          refine wg_lst F hP hS f10w (vp_in_nI (by omega) (by decide)) dX5_reckon_55 (fun H locs hP hS => ?_)
          obtain ⟨C_55, hC_55⟩ : ∃ z : wg_C, z = va_up Cw 10 (some (.inl (E.2.1 1, 16, .inr (.inl (vp_updL fi (nI (k + 1)).toNatClampNeg x_55))))) := ⟨_, rfl⟩
          have hP : wg_P E A C_55 H := by rw [hC_55]; exact hP
          have f8w_c55 : C_55 8 = some (.inr (5, [.ref (A 9), .ref (A 10)])) := by rw [hC_55]; rw [va_up_ne _ _ (by decide)]; exact f8w
          have f9w_c55 : C_55 9 = some (.inl (E.2.1 1, 8, .inr (.inl lf))) := by rw [hC_55]; rw [va_up_ne _ _ (by decide)]; exact f9w
          have f10w_c55 : C_55 10 = some (.inl (E.2.1 1, 16, .inr (.inl (vp_updL fi (nI (k + 1)).toNatClampNeg x_55)))) := by rw [hC_55]; exact va_up_self _ _ _
          have f10w_c55n : C_55 10 = some (.inl (E.2.1 1, 16, .inr (.inl (vp_updL fi ((k + 1)) x_55)))) := by rw [f10w_c55, nI_clamp (by omega)]
          obtain ⟨x_56, ex_56⟩ : ∃ y : Int32, y = nI (k + 1) + (-1) := ⟨_, rfl⟩
          refine lv_iinc (v := x_56) (lv' := [(1, .int x_56), (0, .ref (A 8))]) hx hb dX5_reckon_56 hl (k := 1) rfl (by rw [ex_56]; rfl) (by decide) rfl (fun ls hl => ?_)
          refine lv_goto (tgt := 3) hx hb dX5_reckon_59 (by decide) ?_
          exact ih_loop_3 k x_56 (vp_updL fi ((k + 1)) x_55) (by omega) (by omega) (lc_dec ex_56) (fun j h1 h2 => by by_cases e : j = k + 1; rw [e, pk_uLs, ex_55]; rw [pk_uLn e]; exact hfi j (by omega) h2) C_55 f8w_c55 f9w_c55 f10w_c55n (fun r h2 => by rw [hC_55, va_up_ne _ _ h2, hbase r h2]) _ _ _ hP hS (lv_sub hl [1, 0] rfl)
        · have hk8 : 8 ≤ k + 1 := by rw [show (8 : Int32) = nI 8 from rfl, nI_ltI (by omega) (by decide)] at c_16; omega
          have e8 : nI (k + 1) - 8 = nI (k + 1 - 8) := by rw [show (8 : Int32) = nI 8 from rfl, pk_sub hk8]
          refine lv_aload_n hx hb dX5_reckon_19 rfl (lv_at hl 0 rfl) ?_
          refine wg_get F hP f8w rfl iw_X5 0 (by decide) tb_67 rfl rfl dX5_reckon_20 ?_
          refine lv_iload_n hx hb dX5_reckon_23 rfl (lv_at hl 1 rfl) ?_
          refine lv_bipush (v := 8) hx hb dX5_reckon_24 (by decide) ?_
          refine lv_isub hx hb dX5_reckon_26 ?_
          refine wg_lld F hP f9w (by rw [e8]; exact vp_in_nI (by omega) (by decide)) dX5_reckon_27 ?_
          refine wg_topl (y := lf (k + 1 - 8)) (by rw [e8, nI_clamp (by omega)]) ?_
          refine wg_cl_ hS (wg_rSN (As := [.long (lf (k + 1 - 8))]) (rest := [.int (nI (k + 1)), .ref (A 10)]) F hP hS (c_X7_mix l E A Cw _) ok_X7_mix nb_56 rfl rfl ⟨Nat.le_of_ble_eq_true rfl, Nat.le_of_ble_eq_true rfl⟩ rfl hl.1 rfl (Nat.le_of_ble_eq_true rfl) dX5_reckon_28 ⟨Nat.le_of_ble_eq_true rfl, Nat.le_of_ble_eq_true rfl⟩) (fun r_28 A1 C_28 H locs w_28 hP hS => ?_)
          obtain ⟨w_28, rfl, rfl⟩ := w_28
          refine wg_topl (y := lc_node lf (k + 1)) (w_28.trans (lc_node_hi hk8).symm) ?_
          refine lv_goto (tgt := 55) hx hb dX5_reckon_31 (by decide) ?_
          refine lv_topl (fun x_55 ex_55 => ?_)
          refine wg_lst F hP hS f10w (vp_in_nI (by omega) (by decide)) dX5_reckon_55 (fun H locs hP hS => ?_)
          obtain ⟨C_55, hC_55⟩ : ∃ z : wg_C, z = va_up Cw 10 (some (.inl (E.2.1 1, 16, .inr (.inl (vp_updL fi (nI (k + 1)).toNatClampNeg x_55))))) := ⟨_, rfl⟩
          have hP : wg_P E A C_55 H := by rw [hC_55]; exact hP
          have f8w_c55 : C_55 8 = some (.inr (5, [.ref (A 9), .ref (A 10)])) := by rw [hC_55]; rw [va_up_ne _ _ (by decide)]; exact f8w
          have f9w_c55 : C_55 9 = some (.inl (E.2.1 1, 8, .inr (.inl lf))) := by rw [hC_55]; rw [va_up_ne _ _ (by decide)]; exact f9w
          have f10w_c55 : C_55 10 = some (.inl (E.2.1 1, 16, .inr (.inl (vp_updL fi (nI (k + 1)).toNatClampNeg x_55)))) := by rw [hC_55]; exact va_up_self _ _ _
          have f10w_c55n : C_55 10 = some (.inl (E.2.1 1, 16, .inr (.inl (vp_updL fi ((k + 1)) x_55)))) := by rw [f10w_c55, nI_clamp (by omega)]
          obtain ⟨x_56, ex_56⟩ : ∃ y : Int32, y = nI (k + 1) + (-1) := ⟨_, rfl⟩
          refine lv_iinc (v := x_56) (lv' := [(1, .int x_56), (0, .ref (A 8))]) hx hb dX5_reckon_56 hl (k := 1) rfl (by rw [ex_56]; rfl) (by decide) rfl (fun ls hl => ?_)
          refine lv_goto (tgt := 3) hx hb dX5_reckon_59 (by decide) ?_
          exact ih_loop_3 k x_56 (vp_updL fi ((k + 1)) x_55) (by omega) (by omega) (lc_dec ex_56) (fun j h1 h2 => by by_cases e : j = k + 1; rw [e, pk_uLs, ex_55]; rw [pk_uLn e]; exact hfi j (by omega) h2) C_55 f8w_c55 f9w_c55 f10w_c55n (fun r h2 => by rw [hC_55, va_up_ne _ _ h2, hbase r h2]) _ _ _ hP hS (lv_sub hl [1, 0] rfl)
  exact loop_3 _ 15 15 nd (Nat.lt_succ_self _) (by decide) rfl (fun j h1 h2 => absurd h1 (by omega)) C f8 f9 f10 (fun r h2 => rfl) _ _ _ hP hS (lv_sub hl [1, 0] rfl)
set_option maxHeartbeats 4000000 in
set_option maxRecDepth 100000 in
theorem c_X5_leafAt (l : Launch) (E : wg_E) (A : Nat → Nat) (C : wg_C) (lf nd : Nat → Int64) (j : Nat) (hj : j < 8) (f8 : C 8 = some (.inr (5, [.ref (A 9), .ref (A 10)]))) (f9 : C 9 = some (.inl (E.2.1 1, 8, .inr (.inl lf)))) (f10 : C 10 = some (.inl (E.2.1 1, 16, .inr (.inl nd)))) : Met l yX5_leafAt (wg_ws yX5_leafAt cX5_leafAt 2 (some .long)) (wg_rm 1 0 0) (wg_Pc E A C [.ref (A 8), .int (nI j)]) (wg_Ql E (fun r A1 C1 => r = lf j ∧ A = A1 ∧ C = C1)) 0 0 (wg_A E) := by
  refine wg_met (by decide) (Nat.le_of_ble_eq_true rfl) ?_
  intro p e s m below meth c ls F hr hlk hnm hP hS hl
  have F : wg_F p m c cX5_leafAt 2 s ([.ref (A 8), .int (nI j)] : List Value).toArray "LightChecks$Tree" E := F
  have hx := F.1
  have hb := F.2.1
  have hml := F.2.2.1
  have hown := F.2.2.2.1
  have hts := F.2.2.2.2.1
  have hl : lv_has ls 2 [(0, .ref (A 8)), (1, .int (nI j))] := hl
  refine lv_iload_n hx hb dX5_leafAt_0 rfl (lv_at hl 1 rfl) ?_
  refine wg_ci hS (wg_rSN (As := [.int (nI j)]) (rest := []) F hP hS (c_X7_isLeaf l E A C _) ok_X7_isLeaf nb_148 rfl rfl ⟨Nat.le_of_ble_eq_true rfl, Nat.le_of_ble_eq_true rfl⟩ rfl hl.1 rfl (Nat.le_of_ble_eq_true rfl) dX5_leafAt_1 ⟨Nat.le_of_ble_eq_true rfl, Nat.le_of_ble_eq_true rfl⟩) (fun r_1 A1 C_1 H locs w_1 hP hS => ?_)
  obtain ⟨w_1, rfl, rfl⟩ := w_1
  have w2 : r_1 = 1 := by
    rcases w_1 with ⟨_, _, _, h⟩ | ⟨h, _⟩
    · exact h
    · exact absurd h (lc_isin hj (by decide))
  refine lv_if_eq (tgt := 16) hx hb dX5_leafAt_4 (by decide) (fun c_4 => ?_) (fun c_4 => ?_)
  · exact absurd (w2.symm.trans c_4) (by decide)
  · refine lv_aload_n hx hb dX5_leafAt_7 rfl (lv_at hl 0 rfl) ?_
    refine wg_get F hP f8 rfl iw_X5 0 (by decide) tb_67 rfl rfl dX5_leafAt_8 ?_
    refine lv_iload_n hx hb dX5_leafAt_11 rfl (lv_at hl 1 rfl) ?_
    refine wg_lld F hP f9 (vp_in_nI hj (by decide)) dX5_leafAt_12 ?_
    refine lv_goto (tgt := 17) hx hb dX5_leafAt_13 (by decide) ?_
    exact wg_lret F hP hS hr hlk (⟨by rw [nI_clamp (by omega)], rfl, rfl⟩) dX5_leafAt_17
set_option maxHeartbeats 4000000 in
set_option maxRecDepth 100000 in
theorem c_X5_nodeAt (l : Launch) (E : wg_E) (A : Nat → Nat) (C : wg_C) (lf nd : Nat → Int64) (k : Int32) (hnd : ∀ j, 1 ≤ j → j < 16 → nd j = lc_node lf j) (f8 : C 8 = some (.inr (5, [.ref (A 9), .ref (A 10)]))) (f9 : C 9 = some (.inl (E.2.1 1, 8, .inr (.inl lf)))) (f10 : C 10 = some (.inl (E.2.1 1, 16, .inr (.inl nd)))) : Met l yX5_nodeAt (wg_ws yX5_nodeAt cX5_nodeAt 2 (some .long)) (wg_rm 0 0 0) (wg_Pc E A C [.ref (A 8), .int k]) (wg_Ql E (fun r A1 C1 => ((∃ j : Nat, 1 ≤ j ∧ j < 16 ∧ k = nI j ∧ r = lc_node lf j) ∨ ((k < 1 ∨ nI 16 ≤ k) ∧ r = 0)) ∧ A = A1 ∧ C = C1)) 0 0 (wg_A E) := by
  refine wg_met (by decide) (Nat.le_of_ble_eq_true rfl) ?_
  intro p e s m below meth c ls F hr hlk hnm hP hS hl
  have F : wg_F p m c cX5_nodeAt 2 s ([.ref (A 8), .int k] : List Value).toArray "LightChecks$Tree" E := F
  have hx := F.1
  have hb := F.2.1
  have hml := F.2.2.1
  have hown := F.2.2.2.1
  have hts := F.2.2.2.2.1
  have hl : lv_has ls 2 [(0, .ref (A 8)), (1, .int k)] := hl
  refine lv_iload_n hx hb dX5_nodeAt_0 rfl (lv_at hl 1 rfl) ?_
  refine lv_iconst (v := 1) hx hb dX5_nodeAt_1 (by decide) ?_
  refine lv_icmp_lt (tgt := 20) hx hb dX5_nodeAt_2 (by decide) (fun c_2 => ?_) (fun c_2 => ?_)
  · refine lv_lconst (v := 0) hx hb dX5_nodeAt_20 (by decide) ?_
    exact wg_lret F hP hS hr hlk (⟨Or.inr ⟨by first | exact Or.inl c_2 | exact Or.inr c_8, rfl⟩, rfl, rfl⟩) dX5_nodeAt_21
  · refine lv_iload_n hx hb dX5_nodeAt_5 rfl (lv_at hl 1 rfl) ?_
    refine lv_bipush (v := 16) hx hb dX5_nodeAt_6 (by decide) ?_
    refine lv_icmp_ge (tgt := 20) hx hb dX5_nodeAt_8 (by decide) (fun c_8 => ?_) (fun c_8 => ?_)
    · refine lv_lconst (v := 0) hx hb dX5_nodeAt_20 (by decide) ?_
      exact wg_lret F hP hS hr hlk (⟨Or.inr ⟨by first | exact Or.inl c_2 | exact Or.inr c_8, rfl⟩, rfl, rfl⟩) dX5_nodeAt_21
    · obtain ⟨j, h1, h2, rfl⟩ := lc_range c_2 c_8
      refine lv_aload_n hx hb dX5_nodeAt_11 rfl (lv_at hl 0 rfl) ?_
      refine wg_get F hP f8 rfl iw_X5 1 (by decide) tb_68 rfl rfl dX5_nodeAt_12 ?_
      refine lv_iload_n hx hb dX5_nodeAt_15 rfl (lv_at hl 1 rfl) ?_
      refine wg_lld F hP f10 (vp_in_nI h2 (by decide)) dX5_nodeAt_16 ?_
      refine lv_goto (tgt := 21) hx hb dX5_nodeAt_17 (by decide) ?_
      exact wg_lret F hP hS hr hlk (⟨Or.inl ⟨j, h1, h2, rfl, by rw [nI_clamp (by omega)]; exact hnd j h1 h2⟩, rfl, rfl⟩) dX5_nodeAt_21
set_option maxHeartbeats 4000000 in
set_option maxRecDepth 100000 in
theorem c_X5_change (l : Launch) (E : wg_E) (A : Nat → Nat) (C : wg_C) (lf nd : Nat → Int64) (k : Int32) (v : Int64)  (f8 : C 8 = some (.inr (5, [.ref (A 9), .ref (A 10)]))) (f9 : C 9 = some (.inl (E.2.1 1, 8, .inr (.inl lf)))) (f10 : C 10 = some (.inl (E.2.1 1, 16, .inr (.inl nd)))) : Met l yX5_change (wg_ws yX5_change cX5_change 6 (some .long)) (wg_rm 3 0 0) (wg_Pc E A C [.ref (A 8), .int k, .long v]) (wg_Ql E (fun r A1 C1 => A = A1 ∧ ((∃ j : Nat, j < 8 ∧ k = nI j ∧ r = lf j ∧ (∀ q, q ≠ 9 → q ≠ 10 → C1 q = C q) ∧ C1 9 = some (.inl (E.2.1 1, 8, .inr (.inl (vp_updL lf j v)))) ∧ ∃ nd1 : Nat → Int64, C1 10 = some (.inl (E.2.1 1, 16, .inr (.inl nd1))) ∧ ∀ i, 1 ≤ i → i < 16 → nd1 i = lc_node (vp_updL lf j v) i) ∨ ((k < 0 ∨ nI 8 ≤ k) ∧ r = 0 ∧ C = C1)))) 0 0 (wg_A E) := by
  refine wg_met (by decide) (Nat.le_of_ble_eq_true rfl) ?_
  intro p e s m below meth c ls F hr hlk hnm hP hS hl
  have F : wg_F p m c cX5_change 6 s ([.ref (A 8), .int k, .long v] : List Value).toArray "LightChecks$Tree" E := F
  have hx := F.1
  have hb := F.2.1
  have hml := F.2.2.1
  have hown := F.2.2.2.1
  have hts := F.2.2.2.2.1
  have hl : lv_has ls 6 [(0, .ref (A 8)), (1, .int k), (2, .long v)] := hl
  refine lv_iload_n hx hb dX5_change_0 rfl (lv_at hl 1 rfl) ?_
  refine wg_ci hS (wg_rSN (As := [.int k]) (rest := []) F hP hS (c_X7_isLeaf l E A C _) ok_X7_isLeaf nb_148 rfl rfl ⟨Nat.le_of_ble_eq_true rfl, Nat.le_of_ble_eq_true rfl⟩ rfl hl.1 rfl (Nat.le_of_ble_eq_true rfl) dX5_change_1 ⟨Nat.le_of_ble_eq_true rfl, Nat.le_of_ble_eq_true rfl⟩) (fun r_1 A1 C_1 H locs w_1 hP hS => ?_)
  obtain ⟨w_1, rfl, rfl⟩ := w_1
  rcases w_1 with ⟨j, hj, rfl, w2⟩ | ⟨ho, w2⟩
  · refine lv_if_ne (tgt := 9) hx hb dX5_change_4 (by decide) (fun c_4 => ?_) (fun c_4 => ?_)
    · refine lv_aload_n hx hb dX5_change_9 rfl (lv_at hl 0 rfl) ?_
      refine wg_get F hP f8 rfl iw_X5 0 (by decide) tb_67 rfl rfl dX5_change_10 ?_
      refine lv_iload_n hx hb dX5_change_13 rfl (lv_at hl 1 rfl) ?_
      refine wg_lld F hP f9 (vp_in_nI hj (by decide)) dX5_change_14 ?_
      refine lv_topl (fun x_15 ex_15 => ?_)
      refine lv_lstore (lv' := [(4, .long x_15), (0, .ref (A 8)), (1, .int (nI j)), (2, .long v)]) hx hb dX5_change_15 hl (by decide) rfl (fun ls hl => ?_)
      refine lv_aload_n hx hb dX5_change_17 rfl (lv_at hl 1 rfl) ?_
      refine wg_get F hP f8 rfl iw_X5 0 (by decide) tb_67 rfl rfl dX5_change_18 ?_
      refine lv_iload_n hx hb dX5_change_21 rfl (lv_at hl 2 rfl) ?_
      refine lv_lload_n hx hb dX5_change_22 rfl (lv_at hl 3 rfl) ?_
      refine wg_lst F hP hS f9 (vp_in_nI hj (by decide)) dX5_change_23 (fun H locs hP hS => ?_)
      obtain ⟨C_23, hC_23⟩ : ∃ z : wg_C, z = va_up C 9 (some (.inl (E.2.1 1, 8, .inr (.inl (vp_updL lf (nI j).toNatClampNeg v))))) := ⟨_, rfl⟩
      have hP : wg_P E A C_23 H := by rw [hC_23]; exact hP
      have f8_c23 : C_23 8 = some (.inr (5, [.ref (A 9), .ref (A 10)])) := by rw [hC_23]; rw [va_up_ne _ _ (by decide)]; exact f8
      have f9_c23 : C_23 9 = some (.inl (E.2.1 1, 8, .inr (.inl (vp_updL lf (nI j).toNatClampNeg v)))) := by rw [hC_23]; exact va_up_self _ _ _
      have f10_c23 : C_23 10 = some (.inl (E.2.1 1, 16, .inr (.inl nd))) := by rw [hC_23]; rw [va_up_ne _ _ (by decide)]; exact f10
      have f9_c23n : C_23 9 = some (.inl (E.2.1 1, 8, .inr (.inl (vp_updL lf j v)))) := by rw [f9_c23, nI_clamp (by omega)]
      refine lv_aload_n hx hb dX5_change_24 rfl (lv_at hl 1 rfl) ?_
      refine wg_cv hS (wg_rV (As := []) (rest := []) F hP hS (c_X5_reckon l E A C_23 (vp_updL lf j v) nd f8_c23 f9_c23n f10_c23) ok_X5_reckon tb_52 rfl rfl ⟨Nat.le_of_ble_eq_true rfl, Nat.le_of_ble_eq_true rfl⟩ f8_c23 rfl rfl rfl hl.1 rfl (Nat.le_of_ble_eq_true rfl) dX5_change_25 ⟨Nat.le_of_ble_eq_true rfl, Nat.le_of_ble_eq_true rfl⟩) (fun A1 C_25 H locs w_25 hP hS => ?_)
      obtain ⟨rfl, hfr_25, nd1, hn1, hn2⟩ := w_25
      have f8_c25 : C_25 8 = some (.inr (5, [.ref (A 9), .ref (A 10)])) := by rw [hfr_25 8 (by decide)]; exact f8_c23
      have f9_c25 : C_25 9 = some (.inl (E.2.1 1, 8, .inr (.inl (vp_updL lf j v)))) := by rw [hfr_25 9 (by decide)]; exact f9_c23n
      refine lv_lload hx hb dX5_change_28 (lv_at hl 0 rfl) ?_
      exact wg_lret F hP hS hr hlk (⟨rfl, Or.inl ⟨j, hj, rfl, by rw [ex_15, nI_clamp (by omega)], fun r h1 h2 => by rw [hfr_25 r h2, hC_23, va_up_ne _ _ h1], f9_c25, nd1, hn1, hn2⟩⟩) dX5_change_30
    · exact absurd (w2.symm.trans c_4) (by decide)
  · refine lv_if_ne (tgt := 9) hx hb dX5_change_4 (by decide) (fun c_4 => ?_) (fun c_4 => ?_)
    · exact absurd w2 c_4
    · refine lv_lconst (v := 0) hx hb dX5_change_7 (by decide) ?_
      exact wg_lret F hP hS hr hlk (⟨rfl, Or.inr ⟨ho, rfl, rfl⟩⟩) dX5_change_8
