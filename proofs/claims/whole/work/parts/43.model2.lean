set_option maxHeartbeats 4000000 in
set_option maxRecDepth 100000 in
theorem c_X8_against (l : Launch) (E : wg_E) (A : Nat → Nat) (C : wg_C) (S : lc_S) (t j : Nat) (hM : lm E A C S) (hI : lc_inv S) (ht : t < lc_nh (st_B S)) (hj : j < lc_nh (st_B S))  : Met l yX8_against (wg_ws yX8_against cX8_against 4 (some .int)) (wg_rm 3 0 0) (wg_Pc E A C [.ref (A 1000), .int (nI t), .int (nI j)]) (wg_Qi E (fun r A1 C1 => r = nI (lc_why (st_B S) (st_tm S) t j) ∧ A = A1 ∧ C = C1)) 0 0 (wg_A E) := by
  refine wg_met (by decide) (Nat.le_of_ble_eq_true rfl) ?_
  intro p e s m below meth c ls F hr hlk hnm hP hS hl
  have F : wg_F p m c cX8_against 4 s ([.ref (A 1000), .int (nI t), .int (nI j)] : List Value).toArray "LightChecksModel" E := F
  have hx := F.1
  have hb := F.2.1
  have hml := F.2.2.1
  have hown := F.2.2.2.1
  have hts := F.2.2.2.2.1
  have hl : lv_has ls 4 [(0, .ref (A 1000)), (1, .int (nI t)), (2, .int (nI j))] := hl
  obtain ⟨mo, ⟨g1, m1, r1⟩, ⟨g3, m3, r3⟩, ⟨g4, m4, r4⟩, ⟨g5, m5, r5⟩, ⟨g6, m6, r6⟩, ⟨g7, m7, r7⟩, ⟨g8, m8, r8⟩, ⟨g9, m9, r9⟩, ⟨g10, m10, r10⟩, ⟨g11, m11, r11⟩, ⟨g12, m12, r12⟩, ⟨g13, m13, r13⟩, ⟨g14, m14, r14⟩, ⟨g15, m15, r15⟩, ⟨g16, m16, r16⟩, ⟨g17, m17, r17⟩, ⟨g18, m18, r18⟩, ⟨g24, m24, r24⟩, ⟨g25, m25, r25⟩, ⟨g26, m26, r26⟩, ⟨g27, m27⟩, ⟨g28, m28, r28⟩⟩ := id hM
  obtain ⟨iok, ⟨itm, itm3a, itm3b⟩, icl, igv, ipa, ipb, ipab⟩ := id hI
  have ins := iok.1
  have inh := iok.2.1
  obtain ⟨hk1, hk2, hk3, hk4⟩ := iok.2.2.2 j hj
  obtain ⟨ht1, ht2, ht3, ht4⟩ := iok.2.2.2 t ht
  refine lv_aload_n hx hb dX8_against_0 rfl (lv_at hl 0 rfl) ?_
  refine wg_get F hP mo rfl iw_X8 3 (by decide) tb_552 rfl rfl dX8_against_1 ?_
  refine lv_iload_n hx hb dX8_against_4 rfl (lv_at hl 2 rfl) ?_
  refine wg_ild F hP m3 (vp_in_nI (by omega) (by decide)) dX8_against_5 ?_
  refine wg_topi (y := nI (lc_hh (st_B S) j)) (by rw [nI_clamp (by omega)]; exact r3 j hj) ?_
  refine lv_aload_n hx hb dX8_against_6 rfl (lv_at hl 0 rfl) ?_
  refine wg_get F hP mo rfl iw_X8 3 (by decide) tb_552 rfl rfl dX8_against_7 ?_
  refine lv_iload_n hx hb dX8_against_10 rfl (lv_at hl 1 rfl) ?_
  refine wg_ild F hP m3 (vp_in_nI (by omega) (by decide)) dX8_against_11 ?_
  refine wg_topi (y := nI (lc_hh (st_B S) t)) (by rw [nI_clamp (by omega)]; exact r3 t ht) ?_
  refine lv_isub hx hb dX8_against_12 ?_
  refine lv_topi (fun x_13 ex_13 => ?_)
  refine lv_istore_n (lv' := [(3, .int x_13), (0, .ref (A 1000)), (1, .int (nI t)), (2, .int (nI j))]) hx hb dX8_against_13 rfl hl (by decide) rfl (fun ls hl => ?_)
  have up : 0 < x_13 ↔ lc_hh (st_B S) t < lc_hh (st_B S) j := by rw [ex_13]; exact lc_rise0 (by omega) (by omega)
  have up1 : x_13 = 1 ↔ lc_hh (st_B S) j = lc_hh (st_B S) t + 1 := by rw [ex_13]; exact lc_rise1 (by omega) (by omega)
  refine lv_iload_n hx hb dX8_against_14 rfl (lv_at hl 0 rfl) ?_
  refine lv_if_gt (tgt := 20) hx hb dX8_against_15 (by decide) (fun c_15 => ?_) (fun c_15 => ?_)
  · rw [up] at c_15
    have ed : x_13 = nI (lc_hh (st_B S) j - lc_hh (st_B S) t) := by rw [ex_13, pk_sub (by omega)]
    refine lv_iload_n hx hb dX8_against_20 rfl (lv_at hl 0 rfl) ?_
    refine lv_iconst (v := 1) hx hb dX8_against_21 (by decide) ?_
    refine lv_icmp_ne (tgt := 77) hx hb dX8_against_22 (by decide) (fun c_22 => ?_) (fun c_22 => ?_)
    · rw [up1] at c_22
      refine lv_iload_n hx hb dX8_against_77 rfl (lv_at hl 0 rfl) ?_
      refine lv_aload_n hx hb dX8_against_78 rfl (lv_at hl 1 rfl) ?_
      refine wg_get F hP mo rfl iw_X8 9 (by decide) tb_558 rfl rfl dX8_against_79 ?_
      refine lv_iconst (v := 2) hx hb dX8_against_82 (by decide) ?_
      refine wg_ild F hP m9 (vp_in_nI (n := 2) (by decide) (by decide)) dX8_against_83 ?_
      refine wg_topi (y := nI (st_tm S 2)) (r9 2 (by decide)) ?_
      refine lv_icmp_le (tgt := 91) hx hb dX8_against_84 (by decide) (fun c_84 => ?_) (fun c_84 => ?_)
      · have h2 := itm 2 (by decide)
        rw [ed, nI_leI (by omega) (by omega)] at c_84
        refine lv_aload_n hx hb dX8_against_91 rfl (lv_at hl 1 rfl) ?_
        refine lv_iload_n hx hb dX8_against_92 rfl (lv_at hl 3 rfl) ?_
        refine wg_ci hS (wg_rV (As := [.int (nI j)]) (rest := []) F hP hS (c_X8_isCertified l E A C S j hM hI hj) ok_X8_isCertified tb_682 rfl rfl ⟨Nat.le_of_ble_eq_true rfl, Nat.le_of_ble_eq_true rfl⟩ mo rfl rfl rfl hl.1 rfl (Nat.le_of_ble_eq_true rfl) dX8_against_93 ⟨Nat.le_of_ble_eq_true rfl, Nat.le_of_ble_eq_true rfl⟩) (fun r_93 A1 C_93 H locs w_93 hP hS => ?_)
        obtain ⟨w_93, rfl, rfl⟩ := w_93
        refine lv_if_ne (tgt := 103) hx hb dX8_against_96 (by decide) (fun c_96 => ?_) (fun c_96 => ?_)
        · have hc := lc_if2 w_93 c_96
          refine lv_aload_n hx hb dX8_against_103 rfl (lv_at hl 1 rfl) ?_
          refine lv_iload_n hx hb dX8_against_104 rfl (lv_at hl 3 rfl) ?_
          refine lv_aload_n hx hb dX8_against_105 rfl (lv_at hl 1 rfl) ?_
          refine wg_get F hP mo rfl iw_X8 6 (by decide) tb_555 rfl rfl dX8_against_106 ?_
          refine lv_iload_n hx hb dX8_against_109 rfl (lv_at hl 2 rfl) ?_
          refine wg_ild F hP m6 (vp_in_nI (by omega) (by decide)) dX8_against_110 ?_
          refine wg_topi (y := nI (lc_hx (st_B S) t)) (by rw [nI_clamp (by omega)]; exact r6 t ht) ?_
          refine wg_ci hS (wg_rV (As := [.int (nI j), .int (nI (lc_hx (st_B S) t))]) (rest := []) F hP hS (c_X8_doesOverlap l E A C S j (lc_hx (st_B S) t) hM hI hj ht3) ok_X8_doesOverlap tb_694 rfl rfl ⟨Nat.le_of_ble_eq_true rfl, Nat.le_of_ble_eq_true rfl⟩ mo rfl rfl rfl hl.1 rfl (Nat.le_of_ble_eq_true rfl) dX8_against_111 ⟨Nat.le_of_ble_eq_true rfl, Nat.le_of_ble_eq_true rfl⟩) (fun r_111 A1 C_111 H locs w_111 hP hS => ?_)
          obtain ⟨w_111, rfl, rfl⟩ := w_111
          refine lv_if_eq (tgt := 121) hx hb dX8_against_114 (by decide) (fun c_114 => ?_) (fun c_114 => ?_)
          · have hv := lc_if1 w_111 c_114
            refine lv_bipush (v := 6) hx hb dX8_against_121 (by decide) ?_
            exact wg_iret F hP hS hr hlk (⟨by unfold lc_why; rw [if_neg (by omega), if_neg c_22, if_neg (by omega), if_pos hc, if_neg hv]; rfl, rfl, rfl⟩) dX8_against_123
          · have hv := lc_if2 w_111 c_114
            refine lv_iconst (v := 0) hx hb dX8_against_117 (by decide) ?_
            refine lv_goto (tgt := 123) hx hb dX8_against_118 (by decide) ?_
            exact wg_iret F hP hS hr hlk (⟨by unfold lc_why; rw [if_neg (by omega), if_neg c_22, if_neg (by omega), if_pos hc, if_pos hv]; rfl, rfl, rfl⟩) dX8_against_123
        · have hc := lc_if1 w_93 c_96
          refine lv_iconst (v := 4) hx hb dX8_against_99 (by decide) ?_
          refine lv_goto (tgt := 123) hx hb dX8_against_100 (by decide) ?_
          exact wg_iret F hP hS hr hlk (⟨by unfold lc_why; rw [if_neg (by omega), if_neg c_22, if_neg (by omega), if_neg hc]; rfl, rfl, rfl⟩) dX8_against_123
      · have h2 := itm 2 (by decide)
        rw [ed, nI_leI (by omega) (by omega)] at c_84
        refine lv_iconst (v := 5) hx hb dX8_against_87 (by decide) ?_
        refine lv_goto (tgt := 123) hx hb dX8_against_88 (by decide) ?_
        exact wg_iret F hP hS hr hlk (⟨by unfold lc_why; rw [if_neg (by omega), if_neg c_22, if_pos (by omega)]; rfl, rfl, rfl⟩) dX8_against_123
    · rw [up1] at c_22
      refine lv_aload_n hx hb dX8_against_25 rfl (lv_at hl 1 rfl) ?_
      refine wg_get F hP mo rfl iw_X8 4 (by decide) tb_553 rfl rfl dX8_against_26 ?_
      refine lv_iload_n hx hb dX8_against_29 rfl (lv_at hl 3 rfl) ?_
      refine wg_lld F hP m4 (vp_in_nI (by omega) (by decide)) dX8_against_30 ?_
      refine wg_topl (y := lc_hp (st_B S) j) (by rw [nI_clamp (by omega)]; exact r4 j hj) ?_
      refine lv_aload_n hx hb dX8_against_31 rfl (lv_at hl 1 rfl) ?_
      refine lv_iload_n hx hb dX8_against_32 rfl (lv_at hl 2 rfl) ?_
      refine wg_cl_ hS (wg_rV (As := [.int (nI t)]) (rest := [.long (lc_hp (st_B S) j)]) F hP hS (c_X8_digestOf l E A C S t hM hI ht) ok_X8_digestOf tb_674 rfl rfl ⟨Nat.le_of_ble_eq_true rfl, Nat.le_of_ble_eq_true rfl⟩ mo rfl rfl rfl hl.1 rfl (Nat.le_of_ble_eq_true rfl) dX8_against_33 ⟨Nat.le_of_ble_eq_true rfl, Nat.le_of_ble_eq_true rfl⟩) (fun r_33 A1 C_33 H locs w_33 hP hS => ?_)
      obtain ⟨w_33, rfl, rfl⟩ := w_33
      refine W.lcmp hx hb dX8_against_36 ?_
      refine lv_if_eq (tgt := 44) hx hb dX8_against_37 (by decide) (fun c_37 => ?_) (fun c_37 => ?_)
      · rw [lg_cmp_eq, w_33] at c_37
        refine lv_aload_n hx hb dX8_against_44 rfl (lv_at hl 1 rfl) ?_
        refine wg_get F hP mo rfl iw_X8 5 (by decide) tb_554 rfl rfl dX8_against_45 ?_
        refine lv_iload_n hx hb dX8_against_48 rfl (lv_at hl 3 rfl) ?_
        refine wg_ild F hP m5 (vp_in_nI (by omega) (by decide)) dX8_against_49 ?_
        refine wg_topi (y := nI (lc_ho (st_B S) j)) (by rw [nI_clamp (by omega)]; exact r5 j hj) ?_
        refine lv_aload_n hx hb dX8_against_50 rfl (lv_at hl 1 rfl) ?_
        refine wg_get F hP mo rfl iw_X8 6 (by decide) tb_555 rfl rfl dX8_against_51 ?_
        refine lv_iload_n hx hb dX8_against_54 rfl (lv_at hl 2 rfl) ?_
        refine wg_ild F hP m6 (vp_in_nI (by omega) (by decide)) dX8_against_55 ?_
        refine wg_topi (y := nI (lc_hx (st_B S) t)) (by rw [nI_clamp (by omega)]; exact r6 t ht) ?_
        refine lv_icmp_eq (tgt := 63) hx hb dX8_against_56 (by decide) (fun c_56 => ?_) (fun c_56 => ?_)
        · rw [nI_eq (by omega) (by omega)] at c_56
          refine lv_aload_n hx hb dX8_against_63 rfl (lv_at hl 1 rfl) ?_
          refine lv_iload_n hx hb dX8_against_64 rfl (lv_at hl 3 rfl) ?_
          refine wg_ci hS (wg_rV (As := [.int (nI j)]) (rest := []) F hP hS (c_X8_isCertified l E A C S j hM hI hj) ok_X8_isCertified tb_682 rfl rfl ⟨Nat.le_of_ble_eq_true rfl, Nat.le_of_ble_eq_true rfl⟩ mo rfl rfl rfl hl.1 rfl (Nat.le_of_ble_eq_true rfl) dX8_against_65 ⟨Nat.le_of_ble_eq_true rfl, Nat.le_of_ble_eq_true rfl⟩) (fun r_65 A1 C_65 H locs w_65 hP hS => ?_)
          obtain ⟨w_65, rfl, rfl⟩ := w_65
          refine lv_if_eq (tgt := 75) hx hb dX8_against_68 (by decide) (fun c_68 => ?_) (fun c_68 => ?_)
          · have hc := lc_if1 w_65 c_68
            refine lv_iconst (v := 4) hx hb dX8_against_75 (by decide) ?_
            exact wg_iret F hP hS hr hlk (⟨by unfold lc_why; rw [if_neg (by omega), if_pos c_22, if_pos c_37, if_pos c_56, if_neg hc]; rfl, rfl, rfl⟩) dX8_against_76
          · have hc := lc_if2 w_65 c_68
            refine lv_iconst (v := 0) hx hb dX8_against_71 (by decide) ?_
            refine lv_goto (tgt := 76) hx hb dX8_against_72 (by decide) ?_
            exact wg_iret F hP hS hr hlk (⟨by unfold lc_why; rw [if_neg (by omega), if_pos c_22, if_pos c_37, if_pos c_56, if_pos hc]; rfl, rfl, rfl⟩) dX8_against_76
        · rw [nI_eq (by omega) (by omega)] at c_56
          refine lv_iconst (v := 3) hx hb dX8_against_59 (by decide) ?_
          refine lv_goto (tgt := 76) hx hb dX8_against_60 (by decide) ?_
          exact wg_iret F hP hS hr hlk (⟨by unfold lc_why; rw [if_neg (by omega), if_pos c_22, if_pos c_37, if_neg c_56]; rfl, rfl, rfl⟩) dX8_against_76
      · rw [lg_cmp_eq, w_33] at c_37
        refine lv_iconst (v := 2) hx hb dX8_against_40 (by decide) ?_
        refine lv_goto (tgt := 76) hx hb dX8_against_41 (by decide) ?_
        exact wg_iret F hP hS hr hlk (⟨by unfold lc_why; rw [if_neg (by omega), if_pos c_22, if_neg c_37]; rfl, rfl, rfl⟩) dX8_against_76
  · rw [up] at c_15
    refine lv_iconst (v := 1) hx hb dX8_against_18 (by decide) ?_
    exact wg_iret F hP hS hr hlk (⟨by unfold lc_why; rw [if_pos (by omega)]; rfl, rfl, rfl⟩) dX8_against_19
set_option maxHeartbeats 4000000 in
set_option maxRecDepth 100000 in
theorem c_X8_trustedOf (l : Launch) (E : wg_E) (A : Nat → Nat) (C : wg_C) (S : lc_S) (i : Nat) (hM : lm E A C S) (hI : lc_inv S) (hi : i < 4) (hcn : st_cn S i ≠ 0)  : Met l yX8_trustedOf (wg_ws yX8_trustedOf cX8_trustedOf 2 (some .int)) (wg_rm 0 0 0) (wg_Pc E A C [.ref (A 1000), .int (nI i)]) (wg_Qi E (fun r A1 C1 => r = nI (st_t S i) ∧ A = A1 ∧ C = C1)) 0 0 (wg_A E) := by
  refine wg_met (by decide) (Nat.le_of_ble_eq_true rfl) ?_
  intro p e s m below meth c ls F hr hlk hnm hP hS hl
  have F : wg_F p m c cX8_trustedOf 2 s ([.ref (A 1000), .int (nI i)] : List Value).toArray "LightChecksModel" E := F
  have hx := F.1
  have hb := F.2.1
  have hml := F.2.2.1
  have hown := F.2.2.2.1
  have hts := F.2.2.2.2.1
  have hl : lv_has ls 2 [(0, .ref (A 1000)), (1, .int (nI i))] := hl
  obtain ⟨mo, ⟨g1, m1, r1⟩, ⟨g3, m3, r3⟩, ⟨g4, m4, r4⟩, ⟨g5, m5, r5⟩, ⟨g6, m6, r6⟩, ⟨g7, m7, r7⟩, ⟨g8, m8, r8⟩, ⟨g9, m9, r9⟩, ⟨g10, m10, r10⟩, ⟨g11, m11, r11⟩, ⟨g12, m12, r12⟩, ⟨g13, m13, r13⟩, ⟨g14, m14, r14⟩, ⟨g15, m15, r15⟩, ⟨g16, m16, r16⟩, ⟨g17, m17, r17⟩, ⟨g18, m18, r18⟩, ⟨g24, m24, r24⟩, ⟨g25, m25, r25⟩, ⟨g26, m26, r26⟩, ⟨g27, m27⟩, ⟨g28, m28, r28⟩⟩ := id hM
  obtain ⟨iok, ⟨itm, itm3a, itm3b⟩, icl, igv, ipa, ipb, ipab⟩ := id hI
  have ins := iok.1
  have inh := iok.2.1
  obtain ⟨hc1, hc2⟩ := icl i hi
  refine lv_aload_n hx hb dX8_trustedOf_0 rfl (lv_at hl 0 rfl) ?_
  refine wg_get F hP mo rfl iw_X8 11 (by decide) tb_560 rfl rfl dX8_trustedOf_1 ?_
  refine lv_bipush (v := 11) hx hb dX8_trustedOf_4 (by decide) ?_
  refine lv_iload_n hx hb dX8_trustedOf_6 rfl (lv_at hl 1 rfl) ?_
  refine lv_imul hx hb dX8_trustedOf_7 ?_
  refine lv_aload_n hx hb dX8_trustedOf_8 rfl (lv_at hl 0 rfl) ?_
  refine wg_get F hP mo rfl iw_X8 10 (by decide) tb_559 rfl rfl dX8_trustedOf_9 ?_
  refine lv_iload_n hx hb dX8_trustedOf_12 rfl (lv_at hl 1 rfl) ?_
  refine wg_ild F hP m10 (vp_in_nI (by omega) (by decide)) dX8_trustedOf_13 ?_
  refine wg_topi (y := nI (st_cn S i)) (by rw [nI_clamp (by omega)]; exact r10 i hi) ?_
  refine lv_iadd hx hb dX8_trustedOf_14 ?_
  refine lv_iconst (v := 1) hx hb dX8_trustedOf_15 (by decide) ?_
  refine lv_isub hx hb dX8_trustedOf_16 ?_
  refine wg_topi (y := nI (11 * i + (st_cn S i - 1))) (by rw [show (11 : Int32) = nI 11 from rfl, pk_mul, nI_add, show (1 : Int32) = nI 1 from rfl, pk_sub (by omega), Nat.add_sub_assoc (by omega)]) ?_
  refine wg_ild F hP m11 (vp_in_nI (by omega) (by decide)) dX8_trustedOf_17 ?_
  refine wg_topi (y := nI (st_t S i)) (by rw [nI_clamp (by omega)]; exact r11 i hi _ (by omega)) ?_
  exact wg_iret F hP hS hr hlk (⟨rfl, rfl, rfl⟩) dX8_trustedOf_18
set_option maxHeartbeats 4000000 in
set_option maxRecDepth 100000 in
theorem c_X8_placeOf (l : Launch) (E : wg_E) (A : Nat → Nat) (C : wg_C) (S : lc_S) (i x : Nat) (hM : lm E A C S) (hI : lc_inv S) (hi : i < 4) (hx31 : x < 2 ^ 31)  : Met l yX8_placeOf (wg_ws yX8_placeOf cX8_placeOf 4 (some .int)) (wg_rm 0 0 0) (wg_Pc E A C [.ref (A 1000), .int (nI i), .int (nI x)]) (wg_Qi E (fun r A1 C1 => r = lc_I ((lc_pl (fun k => lc_hh (st_B S) (st_gg S i k)) x (st_gn S i)).map (fun k => 60 * i + k)) ∧ A = A1 ∧ C = C1)) 0 0 (wg_A E) := by
  refine wg_met (by decide) (Nat.le_of_ble_eq_true rfl) ?_
  intro p e s m below meth c ls F hr hlk hnm hP hS hl
  have F : wg_F p m c cX8_placeOf 4 s ([.ref (A 1000), .int (nI i), .int (nI x)] : List Value).toArray "LightChecksModel" E := F
  have hx := F.1
  have hb := F.2.1
  have hml := F.2.2.1
  have hown := F.2.2.2.1
  have hts := F.2.2.2.2.1
  have hl : lv_has ls 4 [(0, .ref (A 1000)), (1, .int (nI i)), (2, .int (nI x))] := hl
  obtain ⟨mo, ⟨g1, m1, r1⟩, ⟨g3, m3, r3⟩, ⟨g4, m4, r4⟩, ⟨g5, m5, r5⟩, ⟨g6, m6, r6⟩, ⟨g7, m7, r7⟩, ⟨g8, m8, r8⟩, ⟨g9, m9, r9⟩, ⟨g10, m10, r10⟩, ⟨g11, m11, r11⟩, ⟨g12, m12, r12⟩, ⟨g13, m13, r13⟩, ⟨g14, m14, r14⟩, ⟨g15, m15, r15⟩, ⟨g16, m16, r16⟩, ⟨g17, m17, r17⟩, ⟨g18, m18, r18⟩, ⟨g24, m24, r24⟩, ⟨g25, m25, r25⟩, ⟨g26, m26, r26⟩, ⟨g27, m27⟩, ⟨g28, m28, r28⟩⟩ := id hM
  obtain ⟨iok, ⟨itm, itm3a, itm3b⟩, icl, igv, ipa, ipb, ipab⟩ := id hI
  have ins := iok.1
  have inh := iok.2.1
  obtain ⟨hg1, hg2, hg3⟩ := igv i hi
  refine lv_bipush (v := 60) hx hb dX8_placeOf_0 (by decide) ?_
  refine lv_iload_n hx hb dX8_placeOf_2 rfl (lv_at hl 1 rfl) ?_
  refine lv_imul hx hb dX8_placeOf_3 ?_
  refine wg_topi (y := nI (60 * i)) (by rw [show (60 : Int32) = nI 60 from rfl, pk_mul]) ?_
  refine lv_istore_n (lv' := [(3, .int (nI (60 * i))), (0, .ref (A 1000)), (1, .int (nI i)), (2, .int (nI x))]) hx hb dX8_placeOf_4 rfl hl (by decide) rfl (fun ls hl => ?_)
  have loop_5 : ∀ (fuel : Nat) (j : Nat) (y3 : Int32), st_gn S i - j < fuel → (j ≤ st_gn S i) → (y3 = nI (60 * i + j)) → (∀ k, k < j → lc_hh (st_B S) (st_gg S i k) ≠ x) → ∀ (H : Heap) (locs : List Loc) (ls : Array Slot), wg_P E A C H → va_S (wg_A E) s.heap H locs → lv_has ls 4 [(0, .ref (A 1000)), (1, .int (nI i)), (2, .int (nI x)), (3, .int y3)] → W p l e (wg_rm 0 0 0) s m ([.ref (A 1000), .int (nI i), .int (nI x)] : List Value).toArray below meth c H locs 0 0 (MQ below (wg_Qi E (fun r A1 C1 => r = lc_I ((lc_pl (fun k => lc_hh (st_B S) (st_gg S i k)) x (st_gn S i)).map (fun k => 60 * i + k)) ∧ A = A1 ∧ C = C1)) ([.ref (A 1000), .int (nI i), .int (nI x)] : List Value).toArray s 0 0 (wg_A E)) (F0 m 5 ls []) := by
    intro fuel
    induction fuel with
    | zero => intro j y3 hm; exact absurd hm (Nat.not_lt_zero _)
    | succ fuel ih_loop_5 =>
      intro j y3 hm_loop_5 hj ey3 hno H locs ls hP hS hl
      subst ey3
      refine lv_iload_n hx hb dX8_placeOf_5 rfl (lv_at hl 3 rfl) ?_
      refine lv_bipush (v := 60) hx hb dX8_placeOf_6 (by decide) ?_
      refine lv_iload_n hx hb dX8_placeOf_8 rfl (lv_at hl 1 rfl) ?_
      refine lv_imul hx hb dX8_placeOf_9 ?_
      refine wg_topi (y := nI (60 * i)) (by rw [show (60 : Int32) = nI 60 from rfl, pk_mul]) ?_
      refine lv_aload_n hx hb dX8_placeOf_10 rfl (lv_at hl 0 rfl) ?_
      refine wg_get F hP mo rfl iw_X8 15 (by decide) tb_564 rfl rfl dX8_placeOf_11 ?_
      refine lv_iload_n hx hb dX8_placeOf_14 rfl (lv_at hl 1 rfl) ?_
      refine wg_ild F hP m15 (vp_in_nI (by omega) (by decide)) dX8_placeOf_15 ?_
      refine wg_topi (y := nI (st_gn S i)) (by rw [nI_clamp (by omega)]; exact r15 i hi) ?_
      refine lv_iadd hx hb dX8_placeOf_16 ?_
      refine wg_topi (y := nI (60 * i + st_gn S i)) (nI_add _ _) ?_
      refine lv_icmp_ge (tgt := 43) hx hb dX8_placeOf_17 (by decide) (fun c_17 => ?_) (fun c_17 => ?_)
      · rw [nI_leI (by omega) (by omega)] at c_17
        have hjn : j = st_gn S i := by omega
        refine lv_bipush (v := (-2)) hx hb dX8_placeOf_43 (by decide) ?_
        exact wg_iret F hP hS hr hlk (⟨by rw [← hjn, lc_pl_none hno]; rfl, rfl, rfl⟩) dX8_placeOf_45
      · rw [nI_leI (by omega) (by omega)] at c_17
        have hjn : j < st_gn S i := by omega
        have hgj := hg2 j hjn
        have hq := (iok.2.2.2 _ hgj).1
        refine lv_aload_n hx hb dX8_placeOf_20 rfl (lv_at hl 0 rfl) ?_
        refine wg_get F hP mo rfl iw_X8 3 (by decide) tb_552 rfl rfl dX8_placeOf_21 ?_
        refine lv_aload_n hx hb dX8_placeOf_24 rfl (lv_at hl 0 rfl) ?_
        refine wg_get F hP mo rfl iw_X8 16 (by decide) tb_565 rfl rfl dX8_placeOf_25 ?_
        refine lv_iload_n hx hb dX8_placeOf_28 rfl (lv_at hl 3 rfl) ?_
        refine wg_ild F hP m16 (vp_in_nI (by omega) (by decide)) dX8_placeOf_29 ?_
        refine wg_topi (y := nI (st_gg S i j)) (by rw [nI_clamp (by omega)]; exact r16 i hi j hjn) ?_
        refine wg_ild F hP m3 (vp_in_nI (by omega) (by decide)) dX8_placeOf_30 ?_
        refine wg_topi (y := nI (lc_hh (st_B S) (st_gg S i j))) (by rw [nI_clamp (by omega)]; exact r3 _ hgj) ?_
        refine lv_iload_n hx hb dX8_placeOf_31 rfl (lv_at hl 2 rfl) ?_
        refine lv_icmp_ne (tgt := 37) hx hb dX8_placeOf_32 (by decide) (fun c_32 => ?_) (fun c_32 => ?_)
        · have hne : lc_hh (st_B S) (st_gg S i j) ≠ x := by rw [nI_eq (by omega) hx31] at c_32; exact c_32
          obtain ⟨x_37, ex_37⟩ : ∃ y : Int32, y = nI (60 * i + j) + 1 := ⟨_, rfl⟩
          refine lv_iinc (v := x_37) (lv' := [(3, .int x_37), (0, .ref (A 1000)), (1, .int (nI i)), (2, .int (nI x))]) hx hb dX8_placeOf_37 hl (k := 3) rfl (by rw [ex_37]; rfl) (by decide) rfl (fun ls hl => ?_)
          refine lv_goto (tgt := 5) hx hb dX8_placeOf_40 (by decide) ?_
          exact ih_loop_5 (j + 1) x_37 (by omega) (by omega) (by rw [ex_37, nI_1]; rfl) (fun k hk => by rcases (show k < j ∨ k = j by omega) with h | h; exact hno k h; rw [h]; exact hne) _ _ _ hP hS (lv_sub hl [1, 2, 3, 0] rfl)
        · have hqe : lc_hh (st_B S) (st_gg S i j) = x := by rw [nI_eq (by omega) hx31] at c_32; exact c_32
          refine lv_iload_n hx hb dX8_placeOf_35 rfl (lv_at hl 3 rfl) ?_
          exact wg_iret F hP hS hr hlk (⟨by rw [lc_pl_some (i := j) hqe hno hjn]; rfl, rfl, rfl⟩) dX8_placeOf_36
  exact loop_5 _ 0 ((nI (60 * i))) (Nat.lt_succ_self _) (by omega) rfl (fun k hk => absurd hk (Nat.not_lt_zero _)) _ _ _ hP hS (lv_sub hl [1, 2, 3, 0] rfl)
set_option maxHeartbeats 4000000 in
set_option maxRecDepth 100000 in
theorem c_X8_headAt (l : Launch) (E : wg_E) (A : Nat → Nat) (C : wg_C) (S : lc_S) (i x : Nat) (hM : lm E A C S) (hI : lc_inv S) (hi : i < 4) (hx31 : x < 2 ^ 31)  : Met l yX8_headAt (wg_ws yX8_headAt cX8_headAt 4 (some .int)) (wg_rm 1 0 0) (wg_Pc E A C [.ref (A 1000), .int (nI i), .int (nI x)]) (wg_Qi E (fun r A1 C1 => r = lc_I (op_hat S i x) ∧ A = A1 ∧ C = C1)) 0 0 (wg_A E) := by
  refine wg_met (by decide) (Nat.le_of_ble_eq_true rfl) ?_
  intro p e s m below meth c ls F hr hlk hnm hP hS hl
  have F : wg_F p m c cX8_headAt 4 s ([.ref (A 1000), .int (nI i), .int (nI x)] : List Value).toArray "LightChecksModel" E := F
  have hx := F.1
  have hb := F.2.1
  have hml := F.2.2.1
  have hown := F.2.2.2.1
  have hts := F.2.2.2.2.1
  have hl : lv_has ls 4 [(0, .ref (A 1000)), (1, .int (nI i)), (2, .int (nI x))] := hl
  obtain ⟨mo, ⟨g1, m1, r1⟩, ⟨g3, m3, r3⟩, ⟨g4, m4, r4⟩, ⟨g5, m5, r5⟩, ⟨g6, m6, r6⟩, ⟨g7, m7, r7⟩, ⟨g8, m8, r8⟩, ⟨g9, m9, r9⟩, ⟨g10, m10, r10⟩, ⟨g11, m11, r11⟩, ⟨g12, m12, r12⟩, ⟨g13, m13, r13⟩, ⟨g14, m14, r14⟩, ⟨g15, m15, r15⟩, ⟨g16, m16, r16⟩, ⟨g17, m17, r17⟩, ⟨g18, m18, r18⟩, ⟨g24, m24, r24⟩, ⟨g25, m25, r25⟩, ⟨g26, m26, r26⟩, ⟨g27, m27⟩, ⟨g28, m28, r28⟩⟩ := id hM
  obtain ⟨iok, ⟨itm, itm3a, itm3b⟩, icl, igv, ipa, ipb, ipab⟩ := id hI
  have ins := iok.1
  have inh := iok.2.1
  obtain ⟨hg1, hg2, hg3⟩ := igv i hi
  refine lv_aload_n hx hb dX8_headAt_0 rfl (lv_at hl 0 rfl) ?_
  refine lv_iload_n hx hb dX8_headAt_1 rfl (lv_at hl 1 rfl) ?_
  refine lv_iload_n hx hb dX8_headAt_2 rfl (lv_at hl 2 rfl) ?_
  refine wg_ci hS (wg_rV (As := [.int (nI i), .int (nI x)]) (rest := []) F hP hS (c_X8_placeOf l E A C S i x hM hI hi hx31) ok_X8_placeOf tb_729 rfl rfl ⟨Nat.le_of_ble_eq_true rfl, Nat.le_of_ble_eq_true rfl⟩ mo rfl rfl rfl hl.1 rfl (Nat.le_of_ble_eq_true rfl) dX8_headAt_3 ⟨Nat.le_of_ble_eq_true rfl, Nat.le_of_ble_eq_true rfl⟩) (fun r_3 A1 C_3 H locs w_3 hP hS => ?_)
  obtain ⟨w_3, rfl, rfl⟩ := w_3
  rcases hpl : lc_pl (fun k => lc_hh (st_B S) (st_gg S i k)) x (st_gn S i) with _ | q
  · refine wg_topi (y := (-2)) (by rw [w_3, hpl]; rfl) ?_
    refine lv_istore_n (lv' := [(3, .int ((-2))), (0, .ref (A 1000)), (1, .int (nI i)), (2, .int (nI x))]) hx hb dX8_headAt_6 rfl hl (by decide) rfl (fun ls hl => ?_)
    refine lv_iload_n hx hb dX8_headAt_7 rfl (lv_at hl 0 rfl) ?_
    refine lv_if_ge (tgt := 16) hx hb dX8_headAt_8 (by decide) (fun c_8 => ?_) (fun c_8 => ?_)
    · exact absurd c_8 (by decide)
    · refine lv_bipush (v := (-2)) hx hb dX8_headAt_11 (by decide) ?_
      refine lv_goto (tgt := 22) hx hb dX8_headAt_13 (by decide) ?_
      exact wg_iret F hP hS hr hlk (⟨by unfold op_hat; rw [hpl]; rfl, rfl, rfl⟩) dX8_headAt_22
  · have hq := (lc_pl_of hpl).1
    refine wg_topi (y := nI (60 * i + q)) (by rw [w_3, hpl]; rfl) ?_
    refine lv_istore_n (lv' := [(3, .int (nI (60 * i + q))), (0, .ref (A 1000)), (1, .int (nI i)), (2, .int (nI x))]) hx hb dX8_headAt_6 rfl hl (by decide) rfl (fun ls hl => ?_)
    refine lv_iload_n hx hb dX8_headAt_7 rfl (lv_at hl 0 rfl) ?_
    refine lv_if_ge (tgt := 16) hx hb dX8_headAt_8 (by decide) (fun c_8 => ?_) (fun c_8 => ?_)
    · refine lv_aload_n hx hb dX8_headAt_16 rfl (lv_at hl 1 rfl) ?_
      refine wg_get F hP mo rfl iw_X8 16 (by decide) tb_565 rfl rfl dX8_headAt_17 ?_
      refine lv_iload_n hx hb dX8_headAt_20 rfl (lv_at hl 0 rfl) ?_
      refine wg_ild F hP m16 (vp_in_nI (by omega) (by decide)) dX8_headAt_21 ?_
      refine wg_topi (y := nI (st_gg S i q)) (by rw [nI_clamp (by omega)]; exact r16 i hi q hq) ?_
      exact wg_iret F hP hS hr hlk (⟨by unfold op_hat; rw [hpl]; rfl, rfl, rfl⟩) dX8_headAt_22
    · exact absurd (nI_pos' (by omega)) c_8
set_option maxHeartbeats 4000000 in
set_option maxRecDepth 100000 in
theorem c_X8_digest (l : Launch) (E : wg_E) (A : Nat → Nat) (C : wg_C) (S : lc_S) (h : Int32) (hM : lm E A C S) (hI : lc_inv S)  : Met l yX8_digest (wg_ws yX8_digest cX8_digest 2 (some .long)) (wg_rm 3 0 0) (wg_Pc E A C [.ref (A 1000), .int h]) (wg_Ql E (fun r A1 C1 => r = op_digest S h ∧ A = A1 ∧ C = C1)) 0 0 (wg_A E) := by
  refine wg_met (by decide) (Nat.le_of_ble_eq_true rfl) ?_
  intro p e s m below meth c ls F hr hlk hnm hP hS hl
  have F : wg_F p m c cX8_digest 2 s ([.ref (A 1000), .int h] : List Value).toArray "LightChecksModel" E := F
  have hx := F.1
  have hb := F.2.1
  have hml := F.2.2.1
  have hown := F.2.2.2.1
  have hts := F.2.2.2.2.1
  have hl : lv_has ls 2 [(0, .ref (A 1000)), (1, .int h)] := hl
  obtain ⟨mo, ⟨g1, m1, r1⟩, ⟨g3, m3, r3⟩, ⟨g4, m4, r4⟩, ⟨g5, m5, r5⟩, ⟨g6, m6, r6⟩, ⟨g7, m7, r7⟩, ⟨g8, m8, r8⟩, ⟨g9, m9, r9⟩, ⟨g10, m10, r10⟩, ⟨g11, m11, r11⟩, ⟨g12, m12, r12⟩, ⟨g13, m13, r13⟩, ⟨g14, m14, r14⟩, ⟨g15, m15, r15⟩, ⟨g16, m16, r16⟩, ⟨g17, m17, r17⟩, ⟨g18, m18, r18⟩, ⟨g24, m24, r24⟩, ⟨g25, m25, r25⟩, ⟨g26, m26, r26⟩, ⟨g27, m27⟩, ⟨g28, m28, r28⟩⟩ := id hM
  obtain ⟨iok, ⟨itm, itm3a, itm3b⟩, icl, igv, ipa, ipb, ipab⟩ := id hI
  have ins := iok.1
  have inh := iok.2.1
  refine lv_aload_n hx hb dX8_digest_0 rfl (lv_at hl 0 rfl) ?_
  refine lv_iload_n hx hb dX8_digest_1 rfl (lv_at hl 1 rfl) ?_
  refine wg_ci hS (wg_rV (As := [.int h]) (rest := []) F hP hS (c_X8_isHead l E A C S h hM hI) ok_X8_isHead tb_658 rfl rfl ⟨Nat.le_of_ble_eq_true rfl, Nat.le_of_ble_eq_true rfl⟩ mo rfl rfl rfl hl.1 rfl (Nat.le_of_ble_eq_true rfl) dX8_digest_2 ⟨Nat.le_of_ble_eq_true rfl, Nat.le_of_ble_eq_true rfl⟩) (fun r_2 A1 C_2 H locs w_2 hP hS => ?_)
  obtain ⟨w_2, rfl, rfl⟩ := w_2
  rcases hx_j : lc_ix h (lc_nh (st_B S)) with _ | j
  · have w2_j : r_2 = 0 := lc_ixr0 w_2 hx_j
    refine lv_if_eq (tgt := 16) hx hb dX8_digest_5 (by decide) (fun c_5 => ?_) (fun c_5 => ?_)
    · refine lv_lconst (v := 0) hx hb dX8_digest_16 (by decide) ?_
      exact wg_lret F hP hS hr hlk (⟨by unfold op_digest; rw [hx_j], rfl, rfl⟩) dX8_digest_17
    · exact absurd w2_j c_5
  · have w2_j : r_2 = 1 := lc_ixr1 w_2 hx_j
    obtain ⟨hj, ej, tj⟩ := lc_ix_some hx_j
    refine lv_if_eq (tgt := 16) hx hb dX8_digest_5 (by decide) (fun c_5 => ?_) (fun c_5 => ?_)
    · exact absurd (w2_j.symm.trans c_5) (by decide)
    · refine lv_aload_n hx hb dX8_digest_8 rfl (lv_at hl 0 rfl) ?_
      refine lv_iload_n hx hb dX8_digest_9 rfl (lv_at hl 1 rfl) ?_
      refine wg_topi (y := nI j) ej ?_
      refine wg_cl_ hS (wg_rV (As := [.int (nI j)]) (rest := []) F hP hS (c_X8_digestOf l E A C S j hM hI hj) ok_X8_digestOf tb_674 rfl rfl ⟨Nat.le_of_ble_eq_true rfl, Nat.le_of_ble_eq_true rfl⟩ mo rfl rfl rfl hl.1 rfl (Nat.le_of_ble_eq_true rfl) dX8_digest_10 ⟨Nat.le_of_ble_eq_true rfl, Nat.le_of_ble_eq_true rfl⟩) (fun r_10 A1 C_10 H locs w_10 hP hS => ?_)
      obtain ⟨w_10, rfl, rfl⟩ := w_10
      refine lv_goto (tgt := 17) hx hb dX8_digest_13 (by decide) ?_
      exact wg_lret F hP hS hr hlk (⟨by unfold op_digest; rw [hx_j]; exact w_10, rfl, rfl⟩) dX8_digest_17
