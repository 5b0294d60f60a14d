theorem op_hat_hh {S : lc_S} {i x h : Nat} (e : op_hat S i x = some h) : lc_hh (st_B S) h = x := by
  unfold op_hat at e
  cases q : lc_pl (fun k => lc_hh (st_B S) (st_gg S i k)) x (st_gn S i) with
  | none => rw [q] at e; cases e
  | some j =>
    rw [q] at e
    have := (lc_pl_of q).2
    cases e
    exact this
theorem lm_extN {g : Nat → Int32} {f : Nat → Nat} {n v : Nat} (h : ∀ k, k < n → g k = nI (f k)) : ∀ k, k < n + 1 → upd g n (nI v) k = nI (va_up f n v k) := by
  intro k hk
  by_cases e : k = n
  · subst e; rw [pk_us, va_up_self]
  · rw [pk_un e, va_up_ne _ _ e]; exact h k (by omega)
theorem lm_extL {g f : Nat → Int64} {n : Nat} {v : Int64} (h : ∀ k, k < n → g k = f k) : ∀ k, k < n + 1 → vp_updL g n v k = va_up f n v k := by
  intro k hk
  by_cases e : k = n
  · subst e; rw [lm_uLs, va_up_self]
  · rw [lm_uLn _ _ e, va_up_ne _ _ e]; exact h k (by omega)
theorem lm_inr (x : Int64) : (0 ≤ x.toInt ∧ x.toInt ≤ 34359738367) ↔ lc_nat x < 2 ^ 35 := by
  have h : x.toInt = if 2 * x.toBitVec.toNat < 2 ^ 64 then (x.toBitVec.toNat : Int) else (x.toBitVec.toNat : Int) - (2 ^ 64 : Nat) := BitVec.toInt_eq_toNat_cond x.toBitVec
  have hl := x.toBitVec.isLt
  rw [h]
  show _ ↔ x.toBitVec.toNat < 2 ^ 35
  split <;> constructor <;> intro q <;> omega
theorem lm_shr {x i : Nat} (hx : x < 2 ^ 35) (hi : i < 5) : (lN x >>> ((nI (7 * i)).toInt64 &&& 63)) &&& 127 = lN (lc_wt x i) := by
  have h1 := wb_c (7 * i) (by omega)
  have h2 := wb_sm (7 * i) (by omega)
  have h3 : ((lN (7 * i)).toBitVec.smod 64).toNat = 7 * i := by
    show ((BitVec.ofNat 64 (7 * i)).smod 64).toNat = 7 * i
    rw [h2, BitVec.toNat_ofNat, Nat.mod_eq_of_lt (by omega)]
  rw [h1, pf_shr h3 (by omega)]
  have hd : x / 2 ^ (7 * i) ≤ x := Nat.div_le_self _ _
  exact wb_mask (k := 7) (by omega) (by decide)
theorem lm_rem5 : ∀ k, k < 10 → nI k - nI k / 5 * 5 = nI (k % 5) := by decide +kernel
theorem lm_wa {na nb k : Nat} (ha : na < 2 ^ 35) (hk : k < 5) : (lN na >>> ((nI (7 * (k % 5))).toInt64 &&& 63)) &&& 127 = lN (lc_w na nb k) := by
  rw [show k % 5 = k by omega, lm_shr ha hk, lc_w_lo hk]
theorem lm_wb {na nb k : Nat} (hb : nb < 2 ^ 35) (h5 : ¬ k < 5) (hk : k < 10) : (lN nb >>> ((nI (7 * (k % 5))).toInt64 &&& 63)) &&& 127 = lN (lc_w na nb k) := by
  rw [show k % 5 = k - 5 by omega, lm_shr hb (by omega)]
  have : k = (k - 5) + 5 := by omega
  rw [this, lc_w_hi, Nat.add_sub_cancel]
theorem lm_well {na nb : Nat} : (na < 2 ^ 35 ∧ nb < 2 ^ 35 ∧ ∀ q, q < 10 → lc_w na nb q ≤ 100) ↔ (lc_wellb na = true ∧ lc_wellb nb = true) := by
  rw [lc_wellb_iff, lc_wellb_iff]
  constructor
  · rintro ⟨h1, h2, h3⟩
    refine ⟨⟨fun i hi => ?_, h1⟩, ⟨fun i hi => ?_, h2⟩⟩
    · have := h3 i (by omega); rw [lc_w_lo hi] at this; exact this
    · have := h3 (i + 5) (by omega); rw [lc_w_hi] at this; exact this
  · rintro ⟨⟨h1, h2⟩, ⟨h3, h4⟩⟩
    refine ⟨h2, h4, fun q hq => ?_⟩
    by_cases e : q < 5
    · rw [lc_w_lo e]; exact h1 q e
    · have : q = (q - 5) + 5 := by omega
      rw [this, lc_w_hi]; exact h3 _ (by omega)
theorem lm_w100 {w : Nat} (hw : w ≤ 127) : (100 : Int64) < lN w ↔ 100 < w := by
  rw [Int64.lt_iff_toInt_lt, pf_lI (by omega), show (100 : Int64).toInt = 100 from by decide]
  omega
theorem lm_setx {g fk : Nat → Int32} {n na nb : Nat} {sa sb : Nat → Nat} (hr : ∀ k, k < n → ∀ j, j < 10 → g (10 * k + j) = nI (lc_w (sa k) (sb k) j)) (h1 : ∀ a, a < 10 * n → fk a = g a) (h2 : ∀ q, q < 10 → fk (10 * n + q) = nI (lc_w na nb q)) : ∀ k, k < n + 1 → ∀ j, j < 10 → fk (10 * k + j) = nI (lc_w (va_up sa n na k) (va_up sb n nb k) j) := by
  intro k hk j hj
  by_cases e : k = n
  · subst e; rw [va_up_self, va_up_self]; exact h2 j hj
  · rw [va_up_ne _ _ e, va_up_ne _ _ e, h1 _ (by omega)]; exact hr k (by omega) j hj
set_option maxHeartbeats 4000000 in
set_option maxRecDepth 100000 in
theorem c_X8_seek (l : Launch) (E : wg_E) (A : Nat → Nat) (C : wg_C) (S : lc_S) (c0 g0 ht : Int32) (hM : lm E A C S) (hI : lc_inv S)  : Met l yX8_seek (wg_ws yX8_seek cX8_seek 8 (some .int)) (wg_rm 5 0 0) (wg_Pc E A C [.ref (A 1000), .int c0, .int g0, .int ht]) (wg_Qi E (fun r A1 C1 => A = A1 ∧ r = (op_seek S c0 g0 ht).1 ∧ lm E A C1 (op_seek S c0 g0 ht).2 ∧ ∀ q, q < 1000 → C1 q = C q)) 0 0 (wg_A E) := by
  refine wg_met (by decide) (Nat.le_of_ble_eq_true rfl) ?_
  intro p e s m below meth c ls F hr hlk hnm hP hS hl
  have F : wg_F p m c cX8_seek 8 s ([.ref (A 1000), .int c0, .int g0, .int ht] : List Value).toArray "LightChecksModel" E := F
  have hx := F.1
  have hb := F.2.1
  have hml := F.2.2.1
  have hown := F.2.2.2.1
  have hts := F.2.2.2.2.1
  have hl : lv_has ls 8 [(0, .ref (A 1000)), (1, .int c0), (2, .int g0), (3, .int ht)] := hl
  obtain ⟨mo, ⟨g1, m1, r1⟩, ⟨g3, m3, r3⟩, ⟨g4, m4, r4⟩, ⟨g5, m5, r5⟩, ⟨g6, m6, r6⟩, ⟨g7, m7, r7⟩, ⟨g8, m8, r8⟩, ⟨g9, m9, r9⟩, ⟨g10, m10, r10⟩, ⟨g11, m11, r11⟩, ⟨g12, m12, r12⟩, ⟨g13, m13, r13⟩, ⟨g14, m14, r14⟩, ⟨g15, m15, r15⟩, ⟨g16, m16, r16⟩, ⟨g17, m17, r17⟩, ⟨g18, m18, r18⟩, ⟨g24, m24, r24⟩, ⟨g25, m25, r25⟩, ⟨g26, m26, r26⟩, ⟨g27, m27⟩, ⟨g28, m28, r28⟩⟩ := id hM
  obtain ⟨iok, ⟨itm, itm3a, itm3b⟩, icl, igv, ipa, ipb, ipab⟩ := id hI
  have ins := iok.1
  have inh := iok.2.1
  refine lv_iload_n hx hb dX8_seek_0 rfl (lv_at hl 1 rfl) ?_
  refine wg_ci hS (wg_rS (As := [.int c0]) (rest := []) F hP hS (c_X8_isFour l E A C c0) ok_X8_isFour tb_702 rfl rfl ⟨Nat.le_of_ble_eq_true rfl, Nat.le_of_ble_eq_true rfl⟩ rfl hl.1 rfl (Nat.le_of_ble_eq_true rfl) dX8_seek_1 ⟨Nat.le_of_ble_eq_true rfl, Nat.le_of_ble_eq_true rfl⟩) (fun r_1 A1 C_1 H locs w_1 hP hS => ?_)
  obtain ⟨w_1, rfl, rfl⟩ := w_1
  rcases hx_i : lc_ix c0 4 with _ | i
  · have w2_i : r_1 = 0 := lc_ixr0 w_1 hx_i
    refine lv_if_eq (tgt := 26) hx hb dX8_seek_4 (by decide) (fun c_4 => ?_) (fun c_4 => ?_)
    · have hop : op_seek S c0 g0 ht = (-1, S) := by unfold op_seek; first | (rw [hx_i]; done) | (rw [hx_i]; rfl)
      refine lv_iconst (v := (-1)) hx hb dX8_seek_26 (by decide) ?_
      exact wg_iret F hP hS hr hlk (⟨rfl, by rw [hop], by rw [hop]; exact hM, fun _ _ => rfl⟩) dX8_seek_27
    · exact absurd w2_i c_4
  · have w2_i : r_1 = 1 := lc_ixr1 w_1 hx_i
    obtain ⟨hi, ei, ti⟩ := lc_ix_some hx_i
    refine lv_if_eq (tgt := 26) hx hb dX8_seek_4 (by decide) (fun c_4 => ?_) (fun c_4 => ?_)
    · exact absurd (w2_i.symm.trans c_4) (by decide)
    · refine lv_iload_n hx hb dX8_seek_7 rfl (lv_at hl 2 rfl) ?_
      refine wg_ci hS (wg_rS (As := [.int g0]) (rest := []) F hP hS (c_X8_isFour l E A C g0) ok_X8_isFour tb_702 rfl rfl ⟨Nat.le_of_ble_eq_true rfl, Nat.le_of_ble_eq_true rfl⟩ rfl hl.1 rfl (Nat.le_of_ble_eq_true rfl) dX8_seek_8 ⟨Nat.le_of_ble_eq_true rfl, Nat.le_of_ble_eq_true rfl⟩) (fun r_8 A1 C_8 H locs w_8 hP hS => ?_)
      obtain ⟨w_8, rfl, rfl⟩ := w_8
      rcases hx_k : lc_ix g0 4 with _ | k
      · have w2_k : r_8 = 0 := lc_ixr0 w_8 hx_k
        refine lv_if_eq (tgt := 26) hx hb dX8_seek_11 (by decide) (fun c_11 => ?_) (fun c_11 => ?_)
        · have hop : op_seek S c0 g0 ht = (-1, S) := by unfold op_seek; first | (rw [hx_i, hx_k]; done) | (rw [hx_i, hx_k]; rfl)
          refine lv_iconst (v := (-1)) hx hb dX8_seek_26 (by decide) ?_
          exact wg_iret F hP hS hr hlk (⟨rfl, by rw [hop], by rw [hop]; exact hM, fun _ _ => rfl⟩) dX8_seek_27
        · exact absurd w2_k c_11
      · have w2_k : r_8 = 1 := lc_ixr1 w_8 hx_k
        obtain ⟨hk, ek, tk⟩ := lc_ix_some hx_k
        refine lv_if_eq (tgt := 26) hx hb dX8_seek_11 (by decide) (fun c_11 => ?_) (fun c_11 => ?_)
        · exact absurd (w2_k.symm.trans c_11) (by decide)
        · refine lv_iload_n hx hb dX8_seek_14 rfl (lv_at hl 3 rfl) ?_
          refine lv_i2l (v := ht.toInt64) hx hb dX8_seek_15 rfl ?_
          refine lv_lconst (v := 0) hx hb dX8_seek_16 (by decide) ?_
          refine lv_ldc2 (v := 100000) hx hb hown (hts _ tb_649) dX8_seek_17 ?_
          refine wg_ci hS (wg_rS (As := [.long ht.toInt64, .long 0, .long 100000]) (rest := []) F hP hS (c_X8_in l E A C _ _ _) ok_X8_in tb_532 rfl rfl ⟨Nat.le_of_ble_eq_true rfl, Nat.le_of_ble_eq_true rfl⟩ rfl hl.1 rfl (Nat.le_of_ble_eq_true rfl) dX8_seek_20 ⟨Nat.le_of_ble_eq_true rfl, Nat.le_of_ble_eq_true rfl⟩) (fun r_20 A1 C_20 H locs w_20 hP hS => ?_)
          obtain ⟨w_20, rfl, rfl⟩ := w_20
          simp only [lc_i2l, show (0 : Int64).toInt = 0 from by decide, show (1 : Int64).toInt = 1 from by decide, show (2 : Int64).toInt = 2 from by decide, show (3 : Int64).toInt = 3 from by decide, show (4 : Int64).toInt = 4 from by decide, show (5 : Int64).toInt = 5 from by decide, show (7 : Int64).toInt = 7 from by decide, show (9 : Int64).toInt = 9 from by decide, show (10 : Int64).toInt = 10 from by decide, show (15 : Int64).toInt = 15 from by decide, show (60 : Int64).toInt = 60 from by decide, show (1000 : Int64).toInt = 1000 from by decide, show (100000 : Int64).toInt = 100000 from by decide, show (1000000 : Int64).toInt = 1000000 from by decide] at w_20
          refine lv_if_ne (tgt := 28) hx hb dX8_seek_23 (by decide) (fun c_23 => ?_) (fun c_23 => ?_)
          · have q_23 := lc_if2 w_20 c_23
            obtain ⟨x, hx31, ex⟩ := nI_of (x := ht) (by rw [Int32.lt_iff_toInt_lt, lc_t0i]; omega)
            have tx : ht.toInt = (x : Int) := by rw [ex, nI_toInt hx31]
            have hx5 : x ≤ 100000 := by omega
            have hxh : lc_ix ht 100001 = some x := by rw [ex]; exact lc_ix_in (by omega) (by decide)
            obtain ⟨hc1, hc2⟩ := icl i hi
            refine lv_aload_n hx hb dX8_seek_28 rfl (lv_at hl 0 rfl) ?_
            refine wg_get F hP mo rfl iw_X8 10 (by decide) tb_559 rfl rfl dX8_seek_29 ?_
            refine lv_iload_n hx hb dX8_seek_32 rfl (lv_at hl 1 rfl) ?_
            refine wg_topi (y := nI i) ei ?_
            refine wg_ild F hP m10 (vp_in_nI (by omega) (by decide)) dX8_seek_33 ?_
            refine wg_topi (y := nI (st_cn S i)) (by rw [nI_clamp (by omega)]; exact r10 i hi) ?_
            refine lv_if_ne (tgt := 40) hx hb dX8_seek_34 (by decide) (fun c_34 => ?_) (fun c_34 => ?_)
            · have hcn : st_cn S i ≠ 0 := fun z => c_34 (by rw [z]; rfl)
              have hsk : op_seek S c0 g0 ht = op_climb i k 200020 S [x] := by unfold op_seek; rw [hx_i, hx_k, hxh]; exact if_neg hcn
              refine lv_iconst (v := 1) hx hb dX8_seek_40 (by decide) ?_
              refine lv_istore (lv' := [(4, .int 1), (0, .ref (A 1000)), (1, .int c0), (2, .int g0), (3, .int ht)]) hx hb dX8_seek_41 hl (by decide) rfl (fun ls hl => ?_)
              refine lv_aload_n hx hb dX8_seek_43 rfl (lv_at hl 1 rfl) ?_
              refine wg_get F hP mo rfl iw_X8 26 (by decide) tb_575 rfl rfl dX8_seek_44 ?_
              refine lv_iconst (v := 0) hx hb dX8_seek_47 (by decide) ?_
              refine lv_iload_n hx hb dX8_seek_48 rfl (lv_at hl 4 rfl) ?_
              refine wg_topi (y := nI x) ex ?_
              refine wg_ist F hP hS m26 (vp_in_nI (n := 0) (by decide) (by decide)) dX8_seek_49 (fun H locs hP hS => ?_)
              obtain ⟨C_49, hC_49⟩ : ∃ z : wg_C, z = va_up C 1026 (some (.inl (E.2.1 0, 64, .inl (upd g26 (0 : Int32).toNatClampNeg (nI x))))) := ⟨_, rfl⟩
              have hP : wg_P E A C_49 H := by rw [hC_49]; exact hP
              have mo_c49 : C_49 1000 = some (.inr (8, [.int (nI (lc_ns (st_B S))), .ref (A 1001), .int (nI (lc_nh (st_B S))), .ref (A 1003), .ref (A 1004), .ref (A 1005), .ref (A 1006), .ref (A 1007), .ref (A 1008), .ref (A 1009), .ref (A 1010), .ref (A 1011), .ref (A 1012), .ref (A 1013), .ref (A 1014), .ref (A 1015), .ref (A 1016), .ref (A 1017), .ref (A 1018), .int (nI (st_pa S)), .int (nI (st_pb S)), .long (st_va S), .long (st_vb S), .int (nI (st_ct S)), .ref (A 1024), .ref (A 1025), .ref (A 1026), .ref (A 1027), .ref (A 1028)])) := by rw [hC_49]; rw [va_up_ne _ _ (by decide)]; exact mo
              have m10_c49 : C_49 1010 = some (.inl (E.2.1 0, 4, .inl g10)) := by rw [hC_49]; rw [va_up_ne _ _ (by decide)]; exact m10
              have m26_c49 : C_49 1026 = some (.inl (E.2.1 0, 64, .inl (upd g26 (0 : Int32).toNatClampNeg (nI x)))) := by rw [hC_49]; exact va_up_self _ _ _
              have hfr0 : ∀ r, r ≠ 1026 → C_49 r = C r := fun r h1 => by rw [hC_49, va_up_ne _ _ h1]
              have hM0 : lm E A C_49 S := ⟨(hfr0 1000 (by decide)).trans hM.1, hM.2.1.same (hfr0 1001 (by decide)), hM.2.2.1.same (hfr0 1003 (by decide)), hM.2.2.2.1.same (hfr0 1004 (by decide)), hM.2.2.2.2.1.same (hfr0 1005 (by decide)), hM.2.2.2.2.2.1.same (hfr0 1006 (by decide)), hM.2.2.2.2.2.2.1.same (hfr0 1007 (by decide)), hM.2.2.2.2.2.2.2.1.same (hfr0 1008 (by decide)), hM.2.2.2.2.2.2.2.2.1.same (hfr0 1009 (by decide)), hM.2.2.2.2.2.2.2.2.2.1.same (hfr0 1010 (by decide)), hM.2.2.2.2.2.2.2.2.2.2.1.same (hfr0 1011 (by decide)), hM.2.2.2.2.2.2.2.2.2.2.2.1.same (hfr0 1012 (by decide)), hM.2.2.2.2.2.2.2.2.2.2.2.2.1.same (hfr0 1013 (by decide)), hM.2.2.2.2.2.2.2.2.2.2.2.2.2.1.same (hfr0 1014 (by decide)), hM.2.2.2.2.2.2.2.2.2.2.2.2.2.2.1.same (hfr0 1015 (by decide)), hM.2.2.2.2.2.2.2.2.2.2.2.2.2.2.2.1.same (hfr0 1016 (by decide)), hM.2.2.2.2.2.2.2.2.2.2.2.2.2.2.2.2.1.same (hfr0 1017 (by decide)), hM.2.2.2.2.2.2.2.2.2.2.2.2.2.2.2.2.2.1.same (hfr0 1018 (by decide)), hM.2.2.2.2.2.2.2.2.2.2.2.2.2.2.2.2.2.2.1.same (hfr0 1024 (by decide)), hM.2.2.2.2.2.2.2.2.2.2.2.2.2.2.2.2.2.2.2.1.same (hfr0 1025 (by decide)), ⟨_, m26_c49, trivial⟩, hM.2.2.2.2.2.2.2.2.2.2.2.2.2.2.2.2.2.2.2.2.2.1.same (hfr0 1027 (by decide)), hM.2.2.2.2.2.2.2.2.2.2.2.2.2.2.2.2.2.2.2.2.2.2.same (hfr0 1028 (by decide))⟩
              have loop_50 : ∀ (fuel : Nat) (S1 : lc_S) (n : Nat) (pl : Nat → Nat) (q : Nat) (y4 : Int32) (fp : Nat → Int32), q < fuel → (lc_inv S1) → (st_cn S1 i ≠ 0) → (lc_Pi (lc_hh (st_B S1) (st_t S1 i)) n pl) → (2 * (100000 - lc_hh (st_B S1) (st_t S1 i)) + 19 ≤ q + n) → (y4 = nI n) → (op_climb i k 200020 S [x] = op_climb i k q S1 (lc_pile pl n)) → (∀ a, a < n → fp a = nI (pl a)) → ∀ (Cw : wg_C) , Cw 1026 = some (.inl (E.2.1 0, 64, .inl fp)) → (lm E A Cw S1) → (∀ r, r < 1000 → Cw r = C r) → ∀ (H : Heap) (locs : List Loc) (ls : Array Slot), wg_P E A Cw H → va_S (wg_A E) s.heap H locs → lv_has ls 8 [(0, .ref (A 1000)), (1, .int c0), (2, .int g0), (3, .int ht), (4, .int y4)] → W p l e (wg_rm 5 0 0) s m ([.ref (A 1000), .int c0, .int g0, .int ht] : List Value).toArray below meth c H locs 0 0 (MQ below (wg_Qi E (fun r A1 C1 => A = A1 ∧ r = (op_seek S c0 g0 ht).1 ∧ lm E A C1 (op_seek S c0 g0 ht).2 ∧ ∀ q, q < 1000 → C1 q = C q)) ([.ref (A 1000), .int c0, .int g0, .int ht] : List Value).toArray s 0 0 (wg_A E)) (F0 m 50 ls []) := by
                intro fuel
                induction fuel with
                | zero => intro S1 n pl q y4 fp hm; exact absurd hm (Nat.not_lt_zero _)
                | succ fuel ih_loop_50 =>
                  intro S1 n pl q y4 fp hm_loop_50 hI1 hcn1 hPi hfuel ey4 hst hfp Cw f1026w hM1 hbase H locs ls hP hS hl
                  obtain ⟨mo, ⟨g1, m1, r1⟩, ⟨g3, m3, r3⟩, ⟨g4, m4, r4⟩, ⟨g5, m5, r5⟩, ⟨g6, m6, r6⟩, ⟨g7, m7, r7⟩, ⟨g8, m8, r8⟩, ⟨g9, m9, r9⟩, ⟨g10, m10, r10⟩, ⟨g11, m11, r11⟩, ⟨g12, m12, r12⟩, ⟨g13, m13, r13⟩, ⟨g14, m14, r14⟩, ⟨g15, m15, r15⟩, ⟨g16, m16, r16⟩, ⟨g17, m17, r17⟩, ⟨g18, m18, r18⟩, ⟨g24, m24, r24⟩, ⟨g25, m25, r25⟩, ⟨g26, m26, r26⟩, ⟨g27, m27⟩, ⟨g28, m28, r28⟩⟩ := id hM1
                  obtain ⟨iok, ⟨itm, itm3a, itm3b⟩, icl, igv, ipa, ipb, ipab⟩ := id hI1
                  have ins := iok.1
                  have inh := iok.2.1
                  subst ey4
                  have hn17 := lc_Pi_n hPi
                  obtain ⟨hc1, hc2⟩ := icl i hi
                  have ht9 : st_t S1 i < lc_nh (st_B S1) := hc2 (st_cn S1 i - 1) (by omega)
                  have hT5 : lc_hh (st_B S1) (st_t S1 i) ≤ 100000 := (iok.2.2.2 _ ht9).1
                  refine lv_iload hx hb dX8_seek_50 (lv_at hl 4 rfl) ?_
                  refine lv_if_le (tgt := 169) hx hb dX8_seek_52 (by decide) (fun c_52 => ?_) (fun c_52 => ?_)
                  · have hn0 : n = 0 := by rw [← nI_0, nI_leI (by omega) (by decide)] at c_52; omega
                    subst hn0
                    have hop : op_climb i k 200020 S [x] = (1, S1) := hst.trans (op_climb_nil _ _ _ _)
                    refine lv_iconst (v := 1) hx hb dX8_seek_169 (by decide) ?_
                    exact wg_iret F hP hS hr hlk (⟨rfl, by rw [hsk, hop], by rw [hsk, hop]; exact hM1, hbase⟩) dX8_seek_170
                  · obtain ⟨n, rfl⟩ : ∃ z, n = z + 1 := ⟨n - 1, by rw [← nI_0, nI_leI (by omega) (by decide)] at c_52; omega⟩
                    obtain ⟨q, rfl⟩ : ∃ z, q = z + 1 := ⟨q - 1, by omega⟩
                    have hw5 := hPi.2 n (by omega)
                    refine lv_aload_n hx hb dX8_seek_55 rfl (lv_at hl 0 rfl) ?_
                    refine wg_get F hP mo rfl iw_X8 26 (by decide) tb_575 rfl rfl dX8_seek_56 ?_
                    refine lv_iload hx hb dX8_seek_59 (lv_at hl 4 rfl) ?_
                    refine lv_iconst (v := 1) hx hb dX8_seek_61 (by decide) ?_
                    refine lv_isub hx hb dX8_seek_62 ?_
                    refine wg_topi (y := nI n) (nI_m1 n) ?_
                    refine wg_ild F hP f1026w (vp_in_nI (by omega) (by decide)) dX8_seek_63 ?_
                    refine wg_topi (y := nI (pl n)) ((by rw [nI_clamp (by omega)]; exact hfp n (by omega))) ?_
                    refine lv_istore (lv' := [(5, .int (nI (pl n))), (0, .ref (A 1000)), (1, .int c0), (2, .int g0), (3, .int ht), (4, .int (nI (n + 1)))]) hx hb dX8_seek_64 hl (by decide) rfl (fun ls hl => ?_)
                    refine lv_aload_n hx hb dX8_seek_66 rfl (lv_at hl 1 rfl) ?_
                    refine wg_get F hP mo rfl iw_X8 12 (by decide) tb_561 rfl rfl dX8_seek_67 ?_
                    refine lv_iload_n hx hb dX8_seek_70 rfl (lv_at hl 2 rfl) ?_
                    refine wg_topi (y := nI i) ei ?_
                    refine lv_dup2_11 hx hb dX8_seek_71 rfl rfl ?_
                    refine wg_ild F hP m12 (vp_in_nI hi (by decide)) dX8_seek_72 ?_
                    refine wg_topi (y := st_co S1 i) ((by rw [nI_clamp (by omega)]; exact r12 i hi)) ?_
                    refine lv_iconst (v := 1) hx hb dX8_seek_73 (by decide) ?_
                    refine lv_iadd hx hb dX8_seek_74 ?_
                    refine wg_ist F hP hS m12 (vp_in_nI hi (by decide)) dX8_seek_75 (fun H locs hP hS => ?_)
                    obtain ⟨C_75, hC_75⟩ : ∃ z : wg_C, z = va_up Cw 1012 (some (.inl (E.2.1 0, 4, .inl (upd g12 (nI i).toNatClampNeg ((st_co S1 i) + 1))))) := ⟨_, rfl⟩
                    have hP : wg_P E A C_75 H := by rw [hC_75]; exact hP
                    have mo_c75 : C_75 1000 = some (.inr (8, [.int (nI (lc_ns (st_B S1))), .ref (A 1001), .int (nI (lc_nh (st_B S1))), .ref (A 1003), .ref (A 1004), .ref (A 1005), .ref (A 1006), .ref (A 1007), .ref (A 1008), .ref (A 1009), .ref (A 1010), .ref (A 1011), .ref (A 1012), .ref (A 1013), .ref (A 1014), .ref (A 1015), .ref (A 1016), .ref (A 1017), .ref (A 1018), .int (nI (st_pa S1)), .int (nI (st_pb S1)), .long (st_va S1), .long (st_vb S1), .int (nI (st_ct S1)), .ref (A 1024), .ref (A 1025), .ref (A 1026), .ref (A 1027), .ref (A 1028)])) := by rw [hC_75]; rw [va_up_ne _ _ (by decide)]; exact mo
                    have m3_c75 : C_75 1003 = some (.inl (E.2.1 0, 60, .inl g3)) := by rw [hC_75]; rw [va_up_ne _ _ (by decide)]; exact m3
                    have m12_c75 : C_75 1012 = some (.inl (E.2.1 0, 4, .inl (upd g12 (nI i).toNatClampNeg ((st_co S1 i) + 1)))) := by rw [hC_75]; exact va_up_self _ _ _
                    have f1026w_c75 : C_75 1026 = some (.inl (E.2.1 0, 64, .inl fp)) := by rw [hC_75]; rw [va_up_ne _ _ (by decide)]; exact f1026w
                    have hfr1 : ∀ r, r ≠ 1012 → C_75 r = Cw r := fun r h1 => by rw [hC_75, va_up_ne _ _ h1]
                    have hM2 : lm E A C_75 (st_pay S1 i) := ⟨(hfr1 1000 (by decide)).trans hM1.1, hM1.2.1.same (hfr1 1001 (by decide)), hM1.2.2.1.same (hfr1 1003 (by decide)), hM1.2.2.2.1.same (hfr1 1004 (by decide)), hM1.2.2.2.2.1.same (hfr1 1005 (by decide)), hM1.2.2.2.2.2.1.same (hfr1 1006 (by decide)), hM1.2.2.2.2.2.2.1.same (hfr1 1007 (by decide)), hM1.2.2.2.2.2.2.2.1.same (hfr1 1008 (by decide)), hM1.2.2.2.2.2.2.2.2.1.same (hfr1 1009 (by decide)), hM1.2.2.2.2.2.2.2.2.2.1.same (hfr1 1010 (by decide)), hM1.2.2.2.2.2.2.2.2.2.2.1.same (hfr1 1011 (by decide)), ⟨_, m12_c75, (by rw [nI_clamp (by omega)]; exact lm_upI r12)⟩, hM1.2.2.2.2.2.2.2.2.2.2.2.2.1.same (hfr1 1013 (by decide)), hM1.2.2.2.2.2.2.2.2.2.2.2.2.2.1.same (hfr1 1014 (by decide)), hM1.2.2.2.2.2.2.2.2.2.2.2.2.2.2.1.same (hfr1 1015 (by decide)), hM1.2.2.2.2.2.2.2.2.2.2.2.2.2.2.2.1.same (hfr1 1016 (by decide)), hM1.2.2.2.2.2.2.2.2.2.2.2.2.2.2.2.2.1.same (hfr1 1017 (by decide)), hM1.2.2.2.2.2.2.2.2.2.2.2.2.2.2.2.2.2.1.same (hfr1 1018 (by decide)), hM1.2.2.2.2.2.2.2.2.2.2.2.2.2.2.2.2.2.2.1.same (hfr1 1024 (by decide)), hM1.2.2.2.2.2.2.2.2.2.2.2.2.2.2.2.2.2.2.2.1.same (hfr1 1025 (by decide)), hM1.2.2.2.2.2.2.2.2.2.2.2.2.2.2.2.2.2.2.2.2.1.same (hfr1 1026 (by decide)), hM1.2.2.2.2.2.2.2.2.2.2.2.2.2.2.2.2.2.2.2.2.2.1.same (hfr1 1027 (by decide)), hM1.2.2.2.2.2.2.2.2.2.2.2.2.2.2.2.2.2.2.2.2.2.2.same (hfr1 1028 (by decide))⟩
                    refine lv_aload_n hx hb dX8_seek_76 rfl (lv_at hl 1 rfl) ?_
                    refine lv_iload_n hx hb dX8_seek_77 rfl (lv_at hl 3 rfl) ?_
                    refine wg_topi (y := nI k) ek ?_
                    refine lv_iload hx hb dX8_seek_78 (lv_at hl 0 rfl) ?_
                    refine wg_ci hS (wg_rV (As := [.int (nI k), .int (nI (pl n))]) (rest := []) F hP hS (c_X8_headAt l E A C_75 (st_pay S1 i) k (pl n) hM2 hI1 hk (by omega)) ok_X8_headAt tb_737 rfl rfl ⟨Nat.le_of_ble_eq_true rfl, Nat.le_of_ble_eq_true rfl⟩ mo_c75 rfl rfl rfl hl.1 rfl (Nat.le_of_ble_eq_true rfl) dX8_seek_80 ⟨Nat.le_of_ble_eq_true rfl, Nat.le_of_ble_eq_true rfl⟩) (fun r_80 A1 C_80 H locs w_80 hP hS => ?_)
                    obtain ⟨w_80, rfl, rfl⟩ := w_80
                    rcases hat : op_hat S1 k (pl n) with _ | h9
                    · refine wg_topi (y := (-2)) (w_80.trans (by rw [show op_hat (st_pay S1 i) k (pl n) = op_hat S1 k (pl n) from rfl, hat]; rfl)) ?_
                      have hop : op_climb i k 200020 S [x] = (-17, st_ref (st_pay S1 i) i 7 (nI (pl n))) := by rw [hst]; show op_climb i k (q + 1) S1 (pl n :: lc_pile pl n) = _; rw [op_climb_cons, hat]
                      refine lv_istore (lv' := [(6, .int ((-2))), (5, .int (nI (pl n))), (0, .ref (A 1000)), (1, .int c0), (2, .int g0), (3, .int ht), (4, .int (nI (n + 1)))]) hx hb dX8_seek_83 hl (by decide) rfl (fun ls hl => ?_)
                      refine lv_iload hx hb dX8_seek_85 (lv_at hl 0 rfl) ?_
                      refine lv_if_ge (tgt := 95) hx hb dX8_seek_87 (by decide) (fun c_87 => ?_) (fun c_87 => ?_)
                      · exact absurd c_87 (by decide)
                      · refine lv_bipush (v := 7) hx hb dX8_seek_90 (by decide) ?_
                        refine lv_goto (tgt := 102) hx hb dX8_seek_92 (by decide) ?_
                        refine lv_istore (lv' := [(7, .int 7), (6, .int ((-2))), (5, .int (nI (pl n))), (0, .ref (A 1000)), (1, .int c0), (2, .int g0), (3, .int ht), (4, .int (nI (n + 1)))]) hx hb dX8_seek_102 hl (by decide) rfl (fun ls hl => ?_)
                        refine lv_iload hx hb dX8_seek_104 (lv_at hl 0 rfl) ?_
                        refine lv_if_ne (tgt := 115) hx hb dX8_seek_106 (by decide) (fun c_106 => ?_) (fun c_106 => ?_)
                        · refine lv_iload hx hb dX8_seek_115 (lv_at hl 0 rfl) ?_
                          refine lv_iconst (v := 5) hx hb dX8_seek_117 (by decide) ?_
                          refine lv_icmp_eq (tgt := 128) hx hb dX8_seek_118 (by decide) (fun c_118 => ?_) (fun c_118 => ?_)
                          · exact absurd c_118 (by decide)
                          · refine lv_iload hx hb dX8_seek_121 (lv_at hl 0 rfl) ?_
                            refine lv_bipush (v := 6) hx hb dX8_seek_123 (by decide) ?_
                            refine lv_icmp_ne (tgt := 156) hx hb dX8_seek_125 (by decide) (fun c_125 => ?_) (fun c_125 => ?_)
                            · refine lv_aload_n hx hb dX8_seek_156 rfl (lv_at hl 3 rfl) ?_
                              refine lv_iload_n hx hb dX8_seek_157 rfl (lv_at hl 4 rfl) ?_
                              refine wg_topi (y := nI i) ei ?_
                              refine lv_iload hx hb dX8_seek_158 (lv_at hl 0 rfl) ?_
                              refine lv_iload hx hb dX8_seek_160 (lv_at hl 2 rfl) ?_
                              refine wg_ci hS (wg_rV (As := [.int (nI i), .int 7, .int (nI (pl n))]) (rest := []) F hP hS (c_X8_refuse l E A C_75 (st_pay S1 i) i _ _ hM2 hI1 hi) ok_X8_refuse tb_721 rfl rfl ⟨Nat.le_of_ble_eq_true rfl, Nat.le_of_ble_eq_true rfl⟩ mo_c75 rfl rfl rfl hl.1 rfl (Nat.le_of_ble_eq_true rfl) dX8_seek_162 ⟨Nat.le_of_ble_eq_true rfl, Nat.le_of_ble_eq_true rfl⟩) (fun r_162 A1 C_162 H locs w_162 hP hS => ?_)
                              obtain ⟨w_162, rfl, hfr_162, hM5⟩ := w_162
                              have mo_c162 : C_162 1000 = some (.inr (8, [.int (nI (lc_ns (st_B S1))), .ref (A 1001), .int (nI (lc_nh (st_B S1))), .ref (A 1003), .ref (A 1004), .ref (A 1005), .ref (A 1006), .ref (A 1007), .ref (A 1008), .ref (A 1009), .ref (A 1010), .ref (A 1011), .ref (A 1012), .ref (A 1013), .ref (A 1014), .ref (A 1015), .ref (A 1016), .ref (A 1017), .ref (A 1018), .int (nI (st_pa S1)), .int (nI (st_pb S1)), .long (st_va S1), .long (st_vb S1), .int (nI (st_ct S1)), .ref (A 1024), .ref (A 1025), .ref (A 1026), .ref (A 1027), .ref (A 1028)])) := by rw [hfr_162 1000 (by decide) (by decide)]; exact mo_c75
                              have m3_c162 : C_162 1003 = some (.inl (E.2.1 0, 60, .inl g3)) := by rw [hfr_162 1003 (by decide) (by decide)]; exact m3_c75
                              have m12_c162 : C_162 1012 = some (.inl (E.2.1 0, 4, .inl (upd g12 (nI i).toNatClampNeg ((st_co S1 i) + 1)))) := by rw [hfr_162 1012 (by decide) (by decide)]; exact m12_c75
                              have f1026w_c162 : C_162 1026 = some (.inl (E.2.1 0, 64, .inl fp)) := by rw [hfr_162 1026 (by decide) (by decide)]; exact f1026w_c75
                              exact wg_iret F hP hS hr hlk (⟨rfl, by rw [hsk, hop]; exact w_162, by rw [hsk, hop]; exact hM5, fun q hq => (hfr_162 q (by omega) (by omega)).trans (((hfr1 q (by omega)).trans (hbase q hq)))⟩) dX8_seek_165
                            · exact absurd c_125 (by decide)
                        · exact absurd c_106 (by decide)
                    · refine wg_topi (y := nI h9) (w_80.trans (by rw [show op_hat (st_pay S1 i) k (pl n) = op_hat S1 k (pl n) from rfl, hat]; rfl)) ?_
                      have hgq := op_hat_lt hI1 hk hat
                      have hh9 := op_hat_hh hat
                      have hcons := hst.trans (op_climb_cons i k q S1 (pl n) (lc_pile pl n))
                      rw [hat] at hcons
                      simp only [] at hcons
                      refine lv_istore (lv' := [(6, .int (nI h9)), (5, .int (nI (pl n))), (0, .ref (A 1000)), (1, .int c0), (2, .int g0), (3, .int ht), (4, .int (nI (n + 1)))]) hx hb dX8_seek_83 hl (by decide) rfl (fun ls hl => ?_)
                      refine lv_iload hx hb dX8_seek_85 (lv_at hl 0 rfl) ?_
                      refine lv_if_ge (tgt := 95) hx hb dX8_seek_87 (by decide) (fun c_87 => ?_) (fun c_87 => ?_)
                      · refine lv_aload_n hx hb dX8_seek_95 rfl (lv_at hl 2 rfl) ?_
                        refine lv_iload_n hx hb dX8_seek_96 rfl (lv_at hl 3 rfl) ?_
                        refine wg_topi (y := nI i) ei ?_
                        refine lv_iload hx hb dX8_seek_97 (lv_at hl 0 rfl) ?_
                        refine wg_ci hS (wg_rV (As := [.int (nI i), .int (nI h9)]) (rest := []) F hP hS (c_X8_attempt l E A C_75 (st_pay S1 i) i h9 hM2 hI1 hi hgq hcn1) ok_X8_attempt tb_709 rfl rfl ⟨Nat.le_of_ble_eq_true rfl, Nat.le_of_ble_eq_true rfl⟩ mo_c75 rfl rfl rfl hl.1 rfl (Nat.le_of_ble_eq_true rfl) dX8_seek_99 ⟨Nat.le_of_ble_eq_true rfl, Nat.le_of_ble_eq_true rfl⟩) (fun r_99 A1 C_99 H locs w_99 hP hS => ?_)
                        obtain ⟨w_99, rfl, hfr_99, hM3⟩ := w_99
                        have mo_c99 : C_99 1000 = some (.inr (8, [.int (nI (lc_ns (st_B S1))), .ref (A 1001), .int (nI (lc_nh (st_B S1))), .ref (A 1003), .ref (A 1004), .ref (A 1005), .ref (A 1006), .ref (A 1007), .ref (A 1008), .ref (A 1009), .ref (A 1010), .ref (A 1011), .ref (A 1012), .ref (A 1013), .ref (A 1014), .ref (A 1015), .ref (A 1016), .ref (A 1017), .ref (A 1018), .int (nI (st_pa S1)), .int (nI (st_pb S1)), .long (st_va S1), .long (st_vb S1), .int (nI (st_ct S1)), .ref (A 1024), .ref (A 1025), .ref (A 1026), .ref (A 1027), .ref (A 1028)])) := by rw [hfr_99 1000 (by decide) (by decide)]; exact mo_c75
                        have m3_c99 : C_99 1003 = some (.inl (E.2.1 0, 60, .inl g3)) := by rw [hfr_99 1003 (by decide) (by decide)]; exact m3_c75
                        have m12_c99 : C_99 1012 = some (.inl (E.2.1 0, 4, .inl (upd g12 (nI i).toNatClampNeg ((st_co S1 i) + 1)))) := by rw [hfr_99 1012 (by decide) (by decide)]; exact m12_c75
                        have f1026w_c99 : C_99 1026 = some (.inl (E.2.1 0, 64, .inl fp)) := by rw [hfr_99 1026 (by decide) (by decide)]; exact f1026w_c75
                        have hw6 := lc_why_le (st_B S1) (st_tm S1) (st_t S1 i) h9
                        refine wg_topi (y := nI (lc_why (st_B S1) (st_tm S1) (st_t S1 i) h9)) w_99 ?_
                        refine lv_istore (lv' := [(7, .int (nI (lc_why (st_B S1) (st_tm S1) (st_t S1 i) h9))), (6, .int (nI h9)), (5, .int (nI (pl n))), (0, .ref (A 1000)), (1, .int c0), (2, .int g0), (3, .int ht), (4, .int (nI (n + 1)))]) hx hb dX8_seek_102 hl (by decide) rfl (fun ls hl => ?_)
                        refine lv_iload hx hb dX8_seek_104 (lv_at hl 0 rfl) ?_
                        refine lv_if_ne (tgt := 115) hx hb dX8_seek_106 (by decide) (fun c_106 => ?_) (fun c_106 => ?_)
                        · have hy : ¬ lc_why (st_B S1) (st_tm S1) (st_t S1 i) h9 = 0 := fun z => c_106 (by rw [z]; rfl)
                          refine lv_iload hx hb dX8_seek_115 (lv_at hl 0 rfl) ?_
                          refine lv_iconst (v := 5) hx hb dX8_seek_117 (by decide) ?_
                          refine lv_icmp_eq (tgt := 128) hx hb dX8_seek_118 (by decide) (fun c_118 => ?_) (fun c_118 => ?_)
                          · have h56 : lc_why (st_B S1) (st_tm S1) (st_t S1 i) h9 = 5 ∨ lc_why (st_B S1) (st_tm S1) (st_t S1 i) h9 = 6 := Or.inl (by rw [show (5 : Int32) = nI 5 from rfl, nI_eq (by omega) (by decide)] at c_118; exact c_118)
                            have hM4 : lm E A C_99 (st_pay S1 i) := by rw [if_neg (show ¬ lc_why (st_B (st_pay S1 i)) (st_tm (st_pay S1 i)) (st_t (st_pay S1 i) i) h9 = 0 from hy)] at hM3; exact hM3
                            refine lv_aload_n hx hb dX8_seek_128 rfl (lv_at hl 3 rfl) ?_
                            refine wg_get F hP mo_c99 rfl iw_X8 26 (by decide) tb_575 rfl rfl dX8_seek_129 ?_
                            refine lv_iload hx hb dX8_seek_132 (lv_at hl 7 rfl) ?_
                            refine lv_aload_n hx hb dX8_seek_134 rfl (lv_at hl 3 rfl) ?_
                            refine wg_get F hP mo_c99 rfl iw_X8 3 (by decide) tb_552 rfl rfl dX8_seek_135 ?_
                            refine lv_aload_n hx hb dX8_seek_138 rfl (lv_at hl 3 rfl) ?_
                            refine lv_iload_n hx hb dX8_seek_139 rfl (lv_at hl 4 rfl) ?_
                            refine wg_topi (y := nI i) ei ?_
                            refine wg_ci hS (wg_rV (As := [.int (nI i)]) (rest := [.ref (A 1003), .int (nI (n + 1)), .ref (A 1026)]) F hP hS (c_X8_trustedOf l E A C_99 (st_pay S1 i) i hM4 hI1 hi hcn1) ok_X8_trustedOf tb_713 rfl rfl ⟨Nat.le_of_ble_eq_true rfl, Nat.le_of_ble_eq_true rfl⟩ mo_c99 rfl rfl rfl hl.1 rfl (Nat.le_of_ble_eq_true rfl) dX8_seek_140 ⟨Nat.le_of_ble_eq_true rfl, Nat.le_of_ble_eq_true rfl⟩) (fun r_140 A1 C_140 H locs w_140 hP hS => ?_)
                            obtain ⟨w_140, rfl, rfl⟩ := w_140
                            refine wg_topi (y := nI (st_t S1 i)) w_140 ?_
                            refine wg_ild F hP m3_c99 (vp_in_nI (by omega) (by decide)) dX8_seek_143 ?_
                            refine wg_topi (y := nI (lc_hh (st_B S1) (st_t S1 i))) ((by rw [nI_clamp (by omega)]; exact r3 _ ht9)) ?_
                            refine lv_iload hx hb dX8_seek_144 (lv_at hl 2 rfl) ?_
                            refine lv_iadd hx hb dX8_seek_146 ?_
                            refine lv_iconst (v := 2) hx hb dX8_seek_147 (by decide) ?_
                            refine lv_idiv hx hb dX8_seek_148 (by decide) ?_
                            refine wg_topi (y := nI ((lc_hh (st_B S1) (st_t S1 i) + pl n) / 2)) (by rw [nI_add, show (2 : Int32) = nI 2 from rfl, pk_div (by omega) (by decide) (by decide)]) ?_
                            refine wg_ist F hP hS f1026w_c99 (vp_in_nI (by omega) (by decide)) dX8_seek_149 (fun H locs hP hS => ?_)
                            obtain ⟨C_149, hC_149⟩ : ∃ z : wg_C, z = va_up C_99 1026 (some (.inl (E.2.1 0, 64, .inl (upd fp (nI (n + 1)).toNatClampNeg (nI ((lc_hh (st_B S1) (st_t S1 i) + pl n) / 2)))))) := ⟨_, rfl⟩
                            have hP : wg_P E A C_149 H := by rw [hC_149]; exact hP
                            have mo_c149 : C_149 1000 = some (.inr (8, [.int (nI (lc_ns (st_B S1))), .ref (A 1001), .int (nI (lc_nh (st_B S1))), .ref (A 1003), .ref (A 1004), .ref (A 1005), .ref (A 1006), .ref (A 1007), .ref (A 1008), .ref (A 1009), .ref (A 1010), .ref (A 1011), .ref (A 1012), .ref (A 1013), .ref (A 1014), .ref (A 1015), .ref (A 1016), .ref (A 1017), .ref (A 1018), .int (nI (st_pa S1)), .int (nI (st_pb S1)), .long (st_va S1), .long (st_vb S1), .int (nI (st_ct S1)), .ref (A 1024), .ref (A 1025), .ref (A 1026), .ref (A 1027), .ref (A 1028)])) := by rw [hC_149]; rw [va_up_ne _ _ (by decide)]; exact mo_c99
                            have m3_c149 : C_149 1003 = some (.inl (E.2.1 0, 60, .inl g3)) := by rw [hC_149]; rw [va_up_ne _ _ (by decide)]; exact m3_c99
                            have m12_c149 : C_149 1012 = some (.inl (E.2.1 0, 4, .inl (upd g12 (nI i).toNatClampNeg ((st_co S1 i) + 1)))) := by rw [hC_149]; rw [va_up_ne _ _ (by decide)]; exact m12_c99
                            have f1026w_c149 : C_149 1026 = some (.inl (E.2.1 0, 64, .inl (upd fp (nI (n + 1)).toNatClampNeg (nI ((lc_hh (st_B S1) (st_t S1 i) + pl n) / 2))))) := by rw [hC_149]; exact va_up_self _ _ _
                            rw [if_neg hy, if_pos h56] at hcons
                            have hfar := lc_why_far h56
                            rw [hh9] at hfar
                            have hfr2 : ∀ r, r ≠ 1026 → C_149 r = C_99 r := fun r h1 => by rw [hC_149, va_up_ne _ _ h1]
                            have hMn : lm E A C_149 (st_pay S1 i) := ⟨(hfr2 1000 (by decide)).trans hM4.1, hM4.2.1.same (hfr2 1001 (by decide)), hM4.2.2.1.same (hfr2 1003 (by decide)), hM4.2.2.2.1.same (hfr2 1004 (by decide)), hM4.2.2.2.2.1.same (hfr2 1005 (by decide)), hM4.2.2.2.2.2.1.same (hfr2 1006 (by decide)), hM4.2.2.2.2.2.2.1.same (hfr2 1007 (by decide)), hM4.2.2.2.2.2.2.2.1.same (hfr2 1008 (by decide)), hM4.2.2.2.2.2.2.2.2.1.same (hfr2 1009 (by decide)), hM4.2.2.2.2.2.2.2.2.2.1.same (hfr2 1010 (by decide)), hM4.2.2.2.2.2.2.2.2.2.2.1.same (hfr2 1011 (by decide)), hM4.2.2.2.2.2.2.2.2.2.2.2.1.same (hfr2 1012 (by decide)), hM4.2.2.2.2.2.2.2.2.2.2.2.2.1.same (hfr2 1013 (by decide)), hM4.2.2.2.2.2.2.2.2.2.2.2.2.2.1.same (hfr2 1014 (by decide)), hM4.2.2.2.2.2.2.2.2.2.2.2.2.2.2.1.same (hfr2 1015 (by decide)), hM4.2.2.2.2.2.2.2.2.2.2.2.2.2.2.2.1.same (hfr2 1016 (by decide)), hM4.2.2.2.2.2.2.2.2.2.2.2.2.2.2.2.2.1.same (hfr2 1017 (by decide)), hM4.2.2.2.2.2.2.2.2.2.2.2.2.2.2.2.2.2.1.same (hfr2 1018 (by decide)), hM4.2.2.2.2.2.2.2.2.2.2.2.2.2.2.2.2.2.2.1.same (hfr2 1024 (by decide)), hM4.2.2.2.2.2.2.2.2.2.2.2.2.2.2.2.2.2.2.2.1.same (hfr2 1025 (by decide)), ⟨_, f1026w_c149, trivial⟩, hM4.2.2.2.2.2.2.2.2.2.2.2.2.2.2.2.2.2.2.2.2.2.1.same (hfr2 1027 (by decide)), hM4.2.2.2.2.2.2.2.2.2.2.2.2.2.2.2.2.2.2.2.2.2.2.same (hfr2 1028 (by decide))⟩
                            have hbn : ∀ r, r < 1000 → C_149 r = C r := fun r hr => (hfr2 r (by omega)).trans ((hfr_99 r (by omega) (by omega)).trans ((hfr1 r (by omega)).trans (hbase r hr)))
                            have hPi2 := lc_Pi_push hPi hfar
                            have hfuel2 : 2 * (100000 - lc_hh (st_B S1) (st_t S1 i)) + 19 ≤ q + (n + 2) := by omega
                            have hst2 : op_climb i k 200020 S [x] = op_climb i k q (st_pay S1 i) (lc_pile (va_up pl (n + 1) ((lc_hh (st_B S1) (st_t S1 i) + pl n) / 2)) (n + 2)) := by rw [lc_pile_push]; exact hcons
                            have hfp2 : ∀ a, a < n + 2 → (upd fp (nI (n + 1)).toNatClampNeg (nI ((lc_hh (st_B S1) (st_t S1 i) + pl n) / 2))) a = nI (va_up pl (n + 1) ((lc_hh (st_B S1) (st_t S1 i) + pl n) / 2) a) := fun a ha => by
                              rw [nI_clamp (by omega)]
                              by_cases z : a = n + 1
                              · rw [z, pk_us, va_up_self]
                              · rw [pk_un z, va_up_ne _ _ z]; exact hfp a (by omega)
                            obtain ⟨x_150, ex_150⟩ : ∃ y : Int32, y = nI (n + 1) + 1 := ⟨_, rfl⟩
                            refine lv_iinc (v := x_150) (lv' := [(4, .int x_150), (7, .int (nI (lc_why (st_B S1) (st_tm S1) (st_t S1 i) h9))), (6, .int (nI h9)), (5, .int (nI (pl n))), (0, .ref (A 1000)), (1, .int c0), (2, .int g0), (3, .int ht)]) hx hb dX8_seek_150 hl (k := 7) rfl (by rw [ex_150]; rfl) (by decide) rfl (fun ls hl => ?_)
                            refine lv_goto (tgt := 166) hx hb dX8_seek_153 (by decide) ?_
                            refine lv_goto (tgt := 50) hx hb dX8_seek_166 (by decide) ?_
                            exact ih_loop_50 (st_pay S1 i) (n + 2) (va_up pl (n + 1) ((lc_hh (st_B S1) (st_t S1 i) + pl n) / 2)) q x_150 (upd fp (nI (n + 1)).toNatClampNeg (nI ((lc_hh (st_B S1) (st_t S1 i) + pl n) / 2))) (by omega) hI1 hcn1 hPi2 hfuel2 (by rw [ex_150, nI_1]) hst2 hfp2 C_149 f1026w_c149 hMn hbn _ _ _ hP hS (lv_sub hl [4, 5, 6, 7, 0] rfl)
                          · have h5 : ¬ lc_why (st_B S1) (st_tm S1) (st_t S1 i) h9 = 5 := by rw [show (5 : Int32) = nI 5 from rfl, nI_eq (by omega) (by decide)] at c_118; exact c_118
                            refine lv_iload hx hb dX8_seek_121 (lv_at hl 0 rfl) ?_
                            refine lv_bipush (v := 6) hx hb dX8_seek_123 (by decide) ?_
                            refine lv_icmp_ne (tgt := 156) hx hb dX8_seek_125 (by decide) (fun c_125 => ?_) (fun c_125 => ?_)
                            · have h6 : ¬ lc_why (st_B S1) (st_tm S1) (st_t S1 i) h9 = 6 := by rw [show (6 : Int32) = nI 6 from rfl, nI_eq (by omega) (by decide)] at c_125; exact c_125
                              rw [if_neg hy, if_neg (by omega)] at hcons
                              have hop := hcons
                              have hM4 : lm E A C_99 (st_pay S1 i) := by rw [if_neg (show ¬ lc_why (st_B (st_pay S1 i)) (st_tm (st_pay S1 i)) (st_t (st_pay S1 i) i) h9 = 0 from hy)] at hM3; exact hM3
                              refine lv_aload_n hx hb dX8_seek_156 rfl (lv_at hl 3 rfl) ?_
                              refine lv_iload_n hx hb dX8_seek_157 rfl (lv_at hl 4 rfl) ?_
                              refine wg_topi (y := nI i) ei ?_
                              refine lv_iload hx hb dX8_seek_158 (lv_at hl 0 rfl) ?_
                              refine lv_iload hx hb dX8_seek_160 (lv_at hl 2 rfl) ?_
                              refine wg_ci hS (wg_rV (As := [.int (nI i), .int (nI (lc_why (st_B S1) (st_tm S1) (st_t S1 i) h9)), .int (nI (pl n))]) (rest := []) F hP hS (c_X8_refuse l E A C_99 (st_pay S1 i) i _ _ hM4 hI1 hi) ok_X8_refuse tb_721 rfl rfl ⟨Nat.le_of_ble_eq_true rfl, Nat.le_of_ble_eq_true rfl⟩ mo_c99 rfl rfl rfl hl.1 rfl (Nat.le_of_ble_eq_true rfl) dX8_seek_162 ⟨Nat.le_of_ble_eq_true rfl, Nat.le_of_ble_eq_true rfl⟩) (fun r_162 A1 C_162 H locs w_162 hP hS => ?_)
                              obtain ⟨w_162, rfl, hfr_162, hM5⟩ := w_162
                              have mo_c162 : C_162 1000 = some (.inr (8, [.int (nI (lc_ns (st_B S1))), .ref (A 1001), .int (nI (lc_nh (st_B S1))), .ref (A 1003), .ref (A 1004), .ref (A 1005), .ref (A 1006), .ref (A 1007), .ref (A 1008), .ref (A 1009), .ref (A 1010), .ref (A 1011), .ref (A 1012), .ref (A 1013), .ref (A 1014), .ref (A 1015), .ref (A 1016), .ref (A 1017), .ref (A 1018), .int (nI (st_pa S1)), .int (nI (st_pb S1)), .long (st_va S1), .long (st_vb S1), .int (nI (st_ct S1)), .ref (A 1024), .ref (A 1025), .ref (A 1026), .ref (A 1027), .ref (A 1028)])) := by rw [hfr_162 1000 (by decide) (by decide)]; exact mo_c99
                              have m3_c162 : C_162 1003 = some (.inl (E.2.1 0, 60, .inl g3)) := by rw [hfr_162 1003 (by decide) (by decide)]; exact m3_c99
                              have m12_c162 : C_162 1012 = some (.inl (E.2.1 0, 4, .inl (upd g12 (nI i).toNatClampNeg ((st_co S1 i) + 1)))) := by rw [hfr_162 1012 (by decide) (by decide)]; exact m12_c99
                              have f1026w_c162 : C_162 1026 = some (.inl (E.2.1 0, 64, .inl fp)) := by rw [hfr_162 1026 (by decide) (by decide)]; exact f1026w_c99
                              exact wg_iret F hP hS hr hlk (⟨rfl, by rw [hsk, hop]; exact w_162, by rw [hsk, hop]; exact hM5, fun q hq => (hfr_162 q (by omega) (by omega)).trans ((hfr_99 q (by omega) (by omega)).trans ((hfr1 q (by omega)).trans (hbase q hq)))⟩) dX8_seek_165
                            · have h56 : lc_why (st_B S1) (st_tm S1) (st_t S1 i) h9 = 5 ∨ lc_why (st_B S1) (st_tm S1) (st_t S1 i) h9 = 6 := Or.inr (by rw [show (6 : Int32) = nI 6 from rfl, nI_eq (by omega) (by decide)] at c_125; exact c_125)
                              have hM4 : lm E A C_99 (st_pay S1 i) := by rw [if_neg (show ¬ lc_why (st_B (st_pay S1 i)) (st_tm (st_pay S1 i)) (st_t (st_pay S1 i) i) h9 = 0 from hy)] at hM3; exact hM3
                              refine lv_aload_n hx hb dX8_seek_128 rfl (lv_at hl 3 rfl) ?_
                              refine wg_get F hP mo_c99 rfl iw_X8 26 (by decide) tb_575 rfl rfl dX8_seek_129 ?_
                              refine lv_iload hx hb dX8_seek_132 (lv_at hl 7 rfl) ?_
                              refine lv_aload_n hx hb dX8_seek_134 rfl (lv_at hl 3 rfl) ?_
                              refine wg_get F hP mo_c99 rfl iw_X8 3 (by decide) tb_552 rfl rfl dX8_seek_135 ?_
                              refine lv_aload_n hx hb dX8_seek_138 rfl (lv_at hl 3 rfl) ?_
                              refine lv_iload_n hx hb dX8_seek_139 rfl (lv_at hl 4 rfl) ?_
                              refine wg_topi (y := nI i) ei ?_
                              refine wg_ci hS (wg_rV (As := [.int (nI i)]) (rest := [.ref (A 1003), .int (nI (n + 1)), .ref (A 1026)]) F hP hS (c_X8_trustedOf l E A C_99 (st_pay S1 i) i hM4 hI1 hi hcn1) ok_X8_trustedOf tb_713 rfl rfl ⟨Nat.le_of_ble_eq_true rfl, Nat.le_of_ble_eq_true rfl⟩ mo_c99 rfl rfl rfl hl.1 rfl (Nat.le_of_ble_eq_true rfl) dX8_seek_140 ⟨Nat.le_of_ble_eq_true rfl, Nat.le_of_ble_eq_true rfl⟩) (fun r_140 A1 C_140 H locs w_140 hP hS => ?_)
                              obtain ⟨w_140, rfl, rfl⟩ := w_140
                              refine wg_topi (y := nI (st_t S1 i)) w_140 ?_
                              refine wg_ild F hP m3_c99 (vp_in_nI (by omega) (by decide)) dX8_seek_143 ?_
                              refine wg_topi (y := nI (lc_hh (st_B S1) (st_t S1 i))) ((by rw [nI_clamp (by omega)]; exact r3 _ ht9)) ?_
                              refine lv_iload hx hb dX8_seek_144 (lv_at hl 2 rfl) ?_
                              refine lv_iadd hx hb dX8_seek_146 ?_
                              refine lv_iconst (v := 2) hx hb dX8_seek_147 (by decide) ?_
                              refine lv_idiv hx hb dX8_seek_148 (by decide) ?_
                              refine wg_topi (y := nI ((lc_hh (st_B S1) (st_t S1 i) + pl n) / 2)) (by rw [nI_add, show (2 : Int32) = nI 2 from rfl, pk_div (by omega) (by decide) (by decide)]) ?_
                              refine wg_ist F hP hS f1026w_c99 (vp_in_nI (by omega) (by decide)) dX8_seek_149 (fun H locs hP hS => ?_)
                              obtain ⟨C_149_1, hC_149_1⟩ : ∃ z : wg_C, z = va_up C_99 1026 (some (.inl (E.2.1 0, 64, .inl (upd fp (nI (n + 1)).toNatClampNeg (nI ((lc_hh (st_B S1) (st_t S1 i) + pl n) / 2)))))) := ⟨_, rfl⟩
                              have hP : wg_P E A C_149_1 H := by rw [hC_149_1]; exact hP
                              have mo_c149_1 : C_149_1 1000 = some (.inr (8, [.int (nI (lc_ns (st_B S1))), .ref (A 1001), .int (nI (lc_nh (st_B S1))), .ref (A 1003), .ref (A 1004), .ref (A 1005), .ref (A 1006), .ref (A 1007), .ref (A 1008), .ref (A 1009), .ref (A 1010), .ref (A 1011), .ref (A 1012), .ref (A 1013), .ref (A 1014), .ref (A 1015), .ref (A 1016), .ref (A 1017), .ref (A 1018), .int (nI (st_pa S1)), .int (nI (st_pb S1)), .long (st_va S1), .long (st_vb S1), .int (nI (st_ct S1)), .ref (A 1024), .ref (A 1025), .ref (A 1026), .ref (A 1027), .ref (A 1028)])) := by rw [hC_149_1]; rw [va_up_ne _ _ (by decide)]; exact mo_c99
                              have m3_c149_1 : C_149_1 1003 = some (.inl (E.2.1 0, 60, .inl g3)) := by rw [hC_149_1]; rw [va_up_ne _ _ (by decide)]; exact m3_c99
                              have m12_c149_1 : C_149_1 1012 = some (.inl (E.2.1 0, 4, .inl (upd g12 (nI i).toNatClampNeg ((st_co S1 i) + 1)))) := by rw [hC_149_1]; rw [va_up_ne _ _ (by decide)]; exact m12_c99
                              have f1026w_c149_1 : C_149_1 1026 = some (.inl (E.2.1 0, 64, .inl (upd fp (nI (n + 1)).toNatClampNeg (nI ((lc_hh (st_B S1) (st_t S1 i) + pl n) / 2))))) := by rw [hC_149_1]; exact va_up_self _ _ _
                              rw [if_neg hy, if_pos h56] at hcons
                              have hfar := lc_why_far h56
                              rw [hh9] at hfar
                              have hfr2 : ∀ r, r ≠ 1026 → C_149_1 r = C_99 r := fun r h1 => by rw [hC_149_1, va_up_ne _ _ h1]
                              have hMn : lm E A C_149_1 (st_pay S1 i) := ⟨(hfr2 1000 (by decide)).trans hM4.1, hM4.2.1.same (hfr2 1001 (by decide)), hM4.2.2.1.same (hfr2 1003 (by decide)), hM4.2.2.2.1.same (hfr2 1004 (by decide)), hM4.2.2.2.2.1.same (hfr2 1005 (by decide)), hM4.2.2.2.2.2.1.same (hfr2 1006 (by decide)), hM4.2.2.2.2.2.2.1.same (hfr2 1007 (by decide)), hM4.2.2.2.2.2.2.2.1.same (hfr2 1008 (by decide)), hM4.2.2.2.2.2.2.2.2.1.same (hfr2 1009 (by decide)), hM4.2.2.2.2.2.2.2.2.2.1.same (hfr2 1010 (by decide)), hM4.2.2.2.2.2.2.2.2.2.2.1.same (hfr2 1011 (by decide)), hM4.2.2.2.2.2.2.2.2.2.2.2.1.same (hfr2 1012 (by decide)), hM4.2.2.2.2.2.2.2.2.2.2.2.2.1.same (hfr2 1013 (by decide)), hM4.2.2.2.2.2.2.2.2.2.2.2.2.2.1.same (hfr2 1014 (by decide)), hM4.2.2.2.2.2.2.2.2.2.2.2.2.2.2.1.same (hfr2 1015 (by decide)), hM4.2.2.2.2.2.2.2.2.2.2.2.2.2.2.2.1.same (hfr2 1016 (by decide)), hM4.2.2.2.2.2.2.2.2.2.2.2.2.2.2.2.2.1.same (hfr2 1017 (by decide)), hM4.2.2.2.2.2.2.2.2.2.2.2.2.2.2.2.2.2.1.same (hfr2 1018 (by decide)), hM4.2.2.2.2.2.2.2.2.2.2.2.2.2.2.2.2.2.2.1.same (hfr2 1024 (by decide)), hM4.2.2.2.2.2.2.2.2.2.2.2.2.2.2.2.2.2.2.2.1.same (hfr2 1025 (by decide)), ⟨_, f1026w_c149_1, trivial⟩, hM4.2.2.2.2.2.2.2.2.2.2.2.2.2.2.2.2.2.2.2.2.2.1.same (hfr2 1027 (by decide)), hM4.2.2.2.2.2.2.2.2.2.2.2.2.2.2.2.2.2.2.2.2.2.2.same (hfr2 1028 (by decide))⟩
                              have hbn : ∀ r, r < 1000 → C_149_1 r = C r := fun r hr => (hfr2 r (by omega)).trans ((hfr_99 r (by omega) (by omega)).trans ((hfr1 r (by omega)).trans (hbase r hr)))
                              have hPi2 := lc_Pi_push hPi hfar
                              have hfuel2 : 2 * (100000 - lc_hh (st_B S1) (st_t S1 i)) + 19 ≤ q + (n + 2) := by omega
                              have hst2 : op_climb i k 200020 S [x] = op_climb i k q (st_pay S1 i) (lc_pile (va_up pl (n + 1) ((lc_hh (st_B S1) (st_t S1 i) + pl n) / 2)) (n + 2)) := by rw [lc_pile_push]; exact hcons
                              have hfp2 : ∀ a, a < n + 2 → (upd fp (nI (n + 1)).toNatClampNeg (nI ((lc_hh (st_B S1) (st_t S1 i) + pl n) / 2))) a = nI (va_up pl (n + 1) ((lc_hh (st_B S1) (st_t S1 i) + pl n) / 2) a) := fun a ha => by
                                rw [nI_clamp (by omega)]
                                by_cases z : a = n + 1
                                · rw [z, pk_us, va_up_self]
                                · rw [pk_un z, va_up_ne _ _ z]; exact hfp a (by omega)
                              obtain ⟨x_150, ex_150⟩ : ∃ y : Int32, y = nI (n + 1) + 1 := ⟨_, rfl⟩
                              refine lv_iinc (v := x_150) (lv' := [(4, .int x_150), (7, .int (nI (lc_why (st_B S1) (st_tm S1) (st_t S1 i) h9))), (6, .int (nI h9)), (5, .int (nI (pl n))), (0, .ref (A 1000)), (1, .int c0), (2, .int g0), (3, .int ht)]) hx hb dX8_seek_150 hl (k := 7) rfl (by rw [ex_150]; rfl) (by decide) rfl (fun ls hl => ?_)
                              refine lv_goto (tgt := 166) hx hb dX8_seek_153 (by decide) ?_
                              refine lv_goto (tgt := 50) hx hb dX8_seek_166 (by decide) ?_
                              exact ih_loop_50 (st_pay S1 i) (n + 2) (va_up pl (n + 1) ((lc_hh (st_B S1) (st_t S1 i) + pl n) / 2)) q x_150 (upd fp (nI (n + 1)).toNatClampNeg (nI ((lc_hh (st_B S1) (st_t S1 i) + pl n) / 2))) (by omega) hI1 hcn1 hPi2 hfuel2 (by rw [ex_150, nI_1]) hst2 hfp2 C_149_1 f1026w_c149_1 hMn hbn _ _ _ hP hS (lv_sub hl [4, 5, 6, 7, 0] rfl)
                        · have hy : lc_why (st_B S1) (st_tm S1) (st_t S1 i) h9 = 0 := by rw [← nI_0, nI_eq (by omega) (by decide)] at c_106; exact c_106
                          rw [if_pos hy] at hcons
                          have hMn : lm E A C_99 (st_keep (st_pay S1 i) i h9) := by rw [if_pos (show lc_why (st_B (st_pay S1 i)) (st_tm (st_pay S1 i)) (st_t (st_pay S1 i) i) h9 = 0 from hy)] at hM3; exact hM3
                          have hbn : ∀ r, r < 1000 → C_99 r = C r := fun r hr => (hfr_99 r (by omega) (by omega)).trans ((hfr1 r (by omega)).trans (hbase r hr))
                          have hI2 : lc_inv (st_keep (st_pay S1 i) i h9) := lc_inv_keep (S := st_pay S1 i) hI1 hgq
                          have ht2 : st_t (st_keep (st_pay S1 i) i h9) i = h9 := st_keep_t (st_pay S1 i) i _ itm3a
                          have htl : lc_hh (st_B (st_keep (st_pay S1 i) i h9)) (st_t (st_keep (st_pay S1 i) i h9) i) = pl n := by rw [ht2]; exact hh9
                          have hup := lc_why_lt hy
                          rw [hh9] at hup
                          have hPi2 : lc_Pi (lc_hh (st_B (st_keep (st_pay S1 i) i h9)) (st_t (st_keep (st_pay S1 i) i h9) i)) n pl := by rw [htl]; exact lc_Pi_pop hPi hup
                          have hfuel2 : 2 * (100000 - lc_hh (st_B (st_keep (st_pay S1 i) i h9)) (st_t (st_keep (st_pay S1 i) i h9) i)) + 19 ≤ q + n := by rw [htl]; omega
                          have hst2 : op_climb i k 200020 S [x] = op_climb i k q (st_keep (st_pay S1 i) i h9) (lc_pile pl n) := hcons
                          have hfp2 : ∀ a, a < n → fp a = nI (pl a) := fun a ha => hfp a (by omega)
                          obtain ⟨x_109, ex_109⟩ : ∃ y : Int32, y = nI (n + 1) + (-1) := ⟨_, rfl⟩
                          refine lv_iinc (v := x_109) (lv' := [(4, .int x_109), (7, .int (nI (lc_why (st_B S1) (st_tm S1) (st_t S1 i) h9))), (6, .int (nI h9)), (5, .int (nI (pl n))), (0, .ref (A 1000)), (1, .int c0), (2, .int g0), (3, .int ht)]) hx hb dX8_seek_109 hl (k := 7) rfl (by rw [ex_109]; rfl) (by decide) rfl (fun ls hl => ?_)
                          refine lv_goto (tgt := 166) hx hb dX8_seek_112 (by decide) ?_
                          refine lv_goto (tgt := 50) hx hb dX8_seek_166 (by decide) ?_
                          exact ih_loop_50 ((st_keep (st_pay S1 i) i h9)) n pl q x_109 fp (by omega) hI2 (by rw [st_keep_n]; exact lc_kn_pos itm3a) hPi2 hfuel2 (by rw [ex_109]; exact pk_m1 n) hst2 hfp2 C_99 f1026w_c99 hMn hbn _ _ _ hP hS (lv_sub hl [4, 5, 6, 7, 0] rfl)
                      · exact absurd (nI_pos' (by omega)) c_87
              exact loop_50 _ S 1 (fun _ => x) 200020 1 (upd g26 (0 : Int32).toNatClampNeg (nI x)) (Nat.lt_succ_self _) hI hcn (⟨fun h => absurd h (by omega), fun a _ => hx5⟩) (by omega) rfl rfl (fun a ha => by rw [show a = 0 by omega]; rfl) C_49 m26_c49 hM0 (fun r hr => hfr0 r (by omega)) _ _ _ hP hS (lv_sub hl [1, 2, 3, 4, 0] rfl)
            · have hcn : st_cn S i = 0 := by rw [← nI_0, nI_eq (by omega) (by decide)] at c_34; exact c_34
              have hop : op_seek S c0 g0 ht = (-2, S) := by unfold op_seek; rw [hx_i, hx_k, hxh]; exact if_pos hcn
              refine lv_bipush (v := (-2)) hx hb dX8_seek_37 (by decide) ?_
              exact wg_iret F hP hS hr hlk (⟨rfl, by rw [hop], by rw [hop]; exact hM, fun _ _ => rfl⟩) dX8_seek_39
          · have q_23 := lc_if1 w_20 c_23
            have hop : op_seek S c0 g0 ht = (-1, S) := by unfold op_seek; first | (rw [hx_i, hx_k, lc_ix_no (k := ht) (by omega)]; done) | (rw [hx_i, hx_k, lc_ix_no (k := ht) (by omega)]; rfl)
            refine lv_iconst (v := (-1)) hx hb dX8_seek_26 (by decide) ?_
            exact wg_iret F hP hS hr hlk (⟨rfl, by rw [hop], by rw [hop]; exact hM, fun _ _ => rfl⟩) dX8_seek_27
set_option maxHeartbeats 4000000 in
set_option maxRecDepth 100000 in
theorem c_X8_set (l : Launch) (E : wg_E) (A : Nat → Nat) (C : wg_C) (S : lc_S) (a b : Int64) (hM : lm E A C S) (hI : lc_inv S)  : Met l yX8_set (wg_ws yX8_set cX8_set 7 (some .int)) (wg_rm 1 0 0) (wg_Pc E A C [.ref (A 1000), .long a, .long b]) (wg_Qi E (fun r A1 C1 => A = A1 ∧ r = (op_set S a b).1 ∧ lm E A C1 (op_set S a b).2 ∧ ∀ q, q < 1000 → C1 q = C q)) 0 0 (wg_A E) := by
  refine wg_met (by decide) (Nat.le_of_ble_eq_true rfl) ?_
  intro p e s m below meth c ls F hr hlk hnm hP hS hl
  have F : wg_F p m c cX8_set 7 s ([.ref (A 1000), .long a, .long b] : List Value).toArray "LightChecksModel" E := F
  have hx := F.1
  have hb := F.2.1
  have hml := F.2.2.1
  have hown := F.2.2.2.1
  have hts := F.2.2.2.2.1
  have hl : lv_has ls 7 [(0, .ref (A 1000)), (1, .long a), (3, .long b)] := hl
  obtain ⟨mo, ⟨g1, m1, r1⟩, ⟨g3, m3, r3⟩, ⟨g4, m4, r4⟩, ⟨g5, m5, r5⟩, ⟨g6, m6, r6⟩, ⟨g7, m7, r7⟩, ⟨g8, m8, r8⟩, ⟨g9, m9, r9⟩, ⟨g10, m10, r10⟩, ⟨g11, m11, r11⟩, ⟨g12, m12, r12⟩, ⟨g13, m13, r13⟩, ⟨g14, m14, r14⟩, ⟨g15, m15, r15⟩, ⟨g16, m16, r16⟩, ⟨g17, m17, r17⟩, ⟨g18, m18, r18⟩, ⟨g24, m24, r24⟩, ⟨g25, m25, r25⟩, ⟨g26, m26, r26⟩, ⟨g27, m27⟩, ⟨g28, m28, r28⟩⟩ := id hM
  obtain ⟨iok, ⟨itm, itm3a, itm3b⟩, icl, igv, ipa, ipb, ipab⟩ := id hI
  have ins := iok.1
  have inh := iok.2.1
  obtain ⟨ea, ha64⟩ := lc_nat_eq a
  obtain ⟨eb, hb64⟩ := lc_nat_eq b
  refine lv_lload_n hx hb dX8_set_0 rfl (lv_at hl 1 rfl) ?_
  refine lv_lconst (v := 0) hx hb dX8_set_1 (by decide) ?_
  refine lv_ldc2 (v := 34359738367) hx hb hown (hts _ tb_642) dX8_set_2 ?_
  refine wg_ci hS (wg_rS (As := [.long a, .long 0, .long 34359738367]) (rest := []) F hP hS (c_X8_in l E A C _ _ _) ok_X8_in tb_532 rfl rfl ⟨Nat.le_of_ble_eq_true rfl, Nat.le_of_ble_eq_true rfl⟩ rfl hl.1 rfl (Nat.le_of_ble_eq_true rfl) dX8_set_5 ⟨Nat.le_of_ble_eq_true rfl, Nat.le_of_ble_eq_true rfl⟩) (fun r_5 A1 C_5 H locs w_5 hP hS => ?_)
  obtain ⟨w_5, rfl, rfl⟩ := w_5
  rw [show (0 : Int64).toInt = 0 from by decide, show (34359738367 : Int64).toInt = 34359738367 from by decide] at w_5
  refine lv_if_eq (tgt := 26) hx hb dX8_set_8 (by decide) (fun c_8 => ?_) (fun c_8 => ?_)
  · have hz := lc_if1 w_5 c_8
    rw [lm_inr] at hz
    have hno : ¬ ((lc_nat a) < 2 ^ 35 ∧ (lc_nat b) < 2 ^ 35) := fun q => hz q.1
    refine lv_iconst (v := 0) hx hb dX8_set_26 (by decide) ?_
    have hy0 : ((0 : Int32) = 1 ∧ ((lc_nat a) < 2 ^ 35 ∧ (lc_nat b) < 2 ^ 35) ∧ ∀ q, q < 0 → lc_w (lc_nat a) (lc_nat b) q ≤ 100) ∨ ((0 : Int32) = 0 ∧ ¬ (((lc_nat a) < 2 ^ 35 ∧ (lc_nat b) < 2 ^ 35) ∧ ∀ q, q < 10 → lc_w (lc_nat a) (lc_nat b) q ≤ 100)) := Or.inr ⟨rfl, fun q => hno q.1⟩
    refine lv_istore (lv' := [(5, .int 0), (0, .ref (A 1000)), (1, .long a), (3, .long b)]) hx hb dX8_set_27 hl (by decide) rfl (fun ls hl => ?_)
    refine lv_iconst (v := 0) hx hb dX8_set_29 (by decide) ?_
    refine lv_istore (lv' := [(6, .int 0), (5, .int 0), (0, .ref (A 1000)), (1, .long a), (3, .long b)]) hx hb dX8_set_30 hl (by decide) rfl (fun ls hl => ?_)
    have loop_32 : ∀ (fuel : Nat) (k : Nat) (y5 : Int32) (y6 : Int32), 10 - k < fuel → (k ≤ 10) → ((y5 = 1 ∧ ((lc_nat a) < 2 ^ 35 ∧ (lc_nat b) < 2 ^ 35) ∧ ∀ q, q < k → lc_w (lc_nat a) (lc_nat b) q ≤ 100) ∨ (y5 = 0 ∧ ¬ (((lc_nat a) < 2 ^ 35 ∧ (lc_nat b) < 2 ^ 35) ∧ ∀ q, q < 10 → lc_w (lc_nat a) (lc_nat b) q ≤ 100))) → (y6 = nI k) → ∀ (H : Heap) (locs : List Loc) (ls : Array Slot), wg_P E A C H → va_S (wg_A E) s.heap H locs → lv_has ls 7 [(0, .ref (A 1000)), (1, .long a), (3, .long b), (5, .int y5), (6, .int y6)] → W p l e (wg_rm 1 0 0) s m ([.ref (A 1000), .long a, .long b] : List Value).toArray below meth c H locs 0 0 (MQ below (wg_Qi E (fun r A1 C1 => A = A1 ∧ r = (op_set S a b).1 ∧ lm E A C1 (op_set S a b).2 ∧ ∀ q, q < 1000 → C1 q = C q)) ([.ref (A 1000), .long a, .long b] : List Value).toArray s 0 0 (wg_A E)) (F0 m 32 ls []) := by
      intro fuel
      induction fuel with
      | zero => intro k y5 y6 hm; exact absurd hm (Nat.not_lt_zero _)
      | succ fuel ih_loop_32 =>
        intro k y5 y6 hm_loop_32 hk hy ey6 H locs ls hP hS hl
        subst ey6
        refine lv_iload hx hb dX8_set_32 (lv_at hl 4 rfl) ?_
        refine lv_bipush (v := 10) hx hb dX8_set_34 (by decide) ?_
        refine lv_icmp_ge (tgt := 87) hx hb dX8_set_36 (by decide) (fun c_36 => ?_) (fun c_36 => ?_)
        · have hk9 : k = 10 := by rw [show (10 : Int32) = nI 10 from rfl, nI_leI (by decide) (by omega)] at c_36; omega
          subst hk9
          refine lv_iload hx hb dX8_set_87 (lv_at hl 3 rfl) ?_
          refine lv_if_ne (tgt := 94) hx hb dX8_set_89 (by decide) (fun c_89 => ?_) (fun c_89 => ?_)
          · have hgood : ((lc_nat a) < 2 ^ 35 ∧ (lc_nat b) < 2 ^ 35) ∧ ∀ q, q < 10 → lc_w (lc_nat a) (lc_nat b) q ≤ 100 := by
              rcases hy with ⟨_, h1⟩ | ⟨h1, _⟩
              · exact h1
              · exact absurd h1 c_89
            have hwell := lm_well.mp ⟨hgood.1.1, hgood.1.2, hgood.2⟩
            refine lv_aload_n hx hb dX8_set_94 rfl (lv_at hl 0 rfl) ?_
            refine wg_get F hP mo rfl iw_X8 0 (by decide) tb_549 rfl rfl dX8_set_95 ?_
            refine lv_bipush (v := 16) hx hb dX8_set_98 (by decide) ?_
            refine lv_icmp_ne (tgt := 106) hx hb dX8_set_100 (by decide) (fun c_100 => ?_) (fun c_100 => ?_)
            · have hns : lc_ns (st_B S) < 16 := by rw [show (16 : Int32) = nI 16 from rfl, nI_eq (by omega) (by decide)] at c_100; omega
              have hop : op_set S a b = (nI (lc_ns (st_B S)), up_B S (up_set (st_B S) (lc_nat a) (lc_nat b))) := by unfold op_set; rw [if_pos hwell, if_pos hns]
              refine lv_iconst (v := 0) hx hb dX8_set_106 (by decide) ?_
              refine lv_istore (lv' := [(6, .int 0), (0, .ref (A 1000)), (1, .long a), (3, .long b), (5, .int y5)]) hx hb dX8_set_107 hl (by decide) rfl (fun ls hl => ?_)
              have loop_109 : ∀ (fuel : Nat) (k : Nat) (y6 : Int32) (fk : Nat → Int32), 10 - k < fuel → (k ≤ 10) → (y6 = nI k) → (∀ z, z < 10 * lc_ns (st_B S) → fk z = g1 z) → (∀ q, q < k → fk (10 * lc_ns (st_B S) + q) = nI (lc_w (lc_nat a) (lc_nat b) q)) → ∀ (Cw : wg_C) , Cw 1000 = some (.inr (8, [.int (nI (lc_ns (st_B S))), .ref (A 1001), .int (nI (lc_nh (st_B S))), .ref (A 1003), .ref (A 1004), .ref (A 1005), .ref (A 1006), .ref (A 1007), .ref (A 1008), .ref (A 1009), .ref (A 1010), .ref (A 1011), .ref (A 1012), .ref (A 1013), .ref (A 1014), .ref (A 1015), .ref (A 1016), .ref (A 1017), .ref (A 1018), .int (nI (st_pa S)), .int (nI (st_pb S)), .long (st_va S), .long (st_vb S), .int (nI (st_ct S)), .ref (A 1024), .ref (A 1025), .ref (A 1026), .ref (A 1027), .ref (A 1028)])) → Cw 1001 = some (.inl (E.2.1 0, 160, .inl fk)) → (∀ r, r ≠ 1001 → Cw r = C r) → ∀ (H : Heap) (locs : List Loc) (ls : Array Slot), wg_P E A Cw H → va_S (wg_A E) s.heap H locs → lv_has ls 7 [(0, .ref (A 1000)), (1, .long a), (3, .long b), (6, .int y6)] → W p l e (wg_rm 1 0 0) s m ([.ref (A 1000), .long a, .long b] : List Value).toArray below meth c H locs 0 0 (MQ below (wg_Qi E (fun r A1 C1 => A = A1 ∧ r = (op_set S a b).1 ∧ lm E A C1 (op_set S a b).2 ∧ ∀ q, q < 1000 → C1 q = C q)) ([.ref (A 1000), .long a, .long b] : List Value).toArray s 0 0 (wg_A E)) (F0 m 109 ls []) := by
                intro fuel
                induction fuel with
                | zero => intro k y6 fk hm; exact absurd hm (Nat.not_lt_zero _)
                | succ fuel ih_loop_109 =>
                  intro k y6 fk hm_loop_109 hk ey6 hf1 hf2 Cw f1000w f1001w hbase H locs ls hP hS hl
                  subst ey6
                  refine lv_iload hx hb dX8_set_109 (lv_at hl 3 rfl) ?_
                  refine lv_bipush (v := 10) hx hb dX8_set_111 (by decide) ?_
                  refine lv_icmp_ge (tgt := 161) hx hb dX8_set_113 (by decide) (fun c_113 => ?_) (fun c_113 => ?_)
                  · have hk9 : k = 10 := by rw [show (10 : Int32) = nI 10 from rfl, nI_leI (by decide) (by omega)] at c_113; omega
                    subst hk9
                    refine lv_aload_n hx hb dX8_set_161 rfl (lv_at hl 0 rfl) ?_
                    refine lv_dup hx hb dX8_set_162 rfl ?_
                    refine wg_get F hP f1000w rfl iw_X8 0 (by decide) tb_549 rfl rfl dX8_set_163 ?_
                    refine lv_iconst (v := 1) hx hb dX8_set_166 (by decide) ?_
                    refine lv_iadd hx hb dX8_set_167 ?_
                    refine wg_topi (y := nI (lc_ns (st_B S) + 1)) (by rw [nI_1]) ?_
                    refine wg_put F hP hS f1000w rfl iw_X8 tyX8_ok nmX8 0 (by decide) tb_549 rfl rfl rfl (Nat.le_of_ble_eq_true rfl) dX8_set_168 (fun H locs hP hS => ?_)
                    obtain ⟨C_168, hC_168⟩ : ∃ z : wg_C, z = va_up Cw 1000 (some (.inr (8, [.int (nI (lc_ns (st_B S) + 1)), .ref (A 1001), .int (nI (lc_nh (st_B S))), .ref (A 1003), .ref (A 1004), .ref (A 1005), .ref (A 1006), .ref (A 1007), .ref (A 1008), .ref (A 1009), .ref (A 1010), .ref (A 1011), .ref (A 1012), .ref (A 1013), .ref (A 1014), .ref (A 1015), .ref (A 1016), .ref (A 1017), .ref (A 1018), .int (nI (st_pa S)), .int (nI (st_pb S)), .long (st_va S), .long (st_vb S), .int (nI (st_ct S)), .ref (A 1024), .ref (A 1025), .ref (A 1026), .ref (A 1027), .ref (A 1028)]))) := ⟨_, rfl⟩
                    have hP : wg_P E A C_168 H := by rw [hC_168]; exact hP
                    have f1000w_c168 : C_168 1000 = some (.inr (8, [.int (nI (lc_ns (st_B S) + 1)), .ref (A 1001), .int (nI (lc_nh (st_B S))), .ref (A 1003), .ref (A 1004), .ref (A 1005), .ref (A 1006), .ref (A 1007), .ref (A 1008), .ref (A 1009), .ref (A 1010), .ref (A 1011), .ref (A 1012), .ref (A 1013), .ref (A 1014), .ref (A 1015), .ref (A 1016), .ref (A 1017), .ref (A 1018), .int (nI (st_pa S)), .int (nI (st_pb S)), .long (st_va S), .long (st_vb S), .int (nI (st_ct S)), .ref (A 1024), .ref (A 1025), .ref (A 1026), .ref (A 1027), .ref (A 1028)])) := by rw [hC_168]; exact va_up_self _ _ _
                    have f1001w_c168 : C_168 1001 = some (.inl (E.2.1 0, 160, .inl fk)) := by rw [hC_168]; rw [va_up_ne _ _ (by decide)]; exact f1001w
                    have hfr : ∀ r, r ≠ 1000 → r ≠ 1001 → C_168 r = C r := fun r h0 h1 => by rw [hC_168, va_up_ne _ _ h0]; exact hbase r h1
                    refine lv_aload_n hx hb dX8_set_171 rfl (lv_at hl 0 rfl) ?_
                    refine wg_get F hP f1000w_c168 rfl iw_X8 0 (by decide) tb_549 rfl rfl dX8_set_172 ?_
                    refine lv_iconst (v := 1) hx hb dX8_set_175 (by decide) ?_
                    refine lv_isub hx hb dX8_set_176 ?_
                    refine wg_topi (y := nI (lc_ns (st_B S))) (nI_m1 _) ?_
                    exact wg_iret F hP hS hr hlk (⟨rfl, by rw [hop], by rw [hop]; exact ⟨f1000w_c168, ⟨fk, f1001w_c168, lm_setx r1 hf1 hf2⟩, hM.2.2.1.same (hfr 1003 (by decide) (by decide)), hM.2.2.2.1.same (hfr 1004 (by decide) (by decide)), hM.2.2.2.2.1.same (hfr 1005 (by decide) (by decide)), hM.2.2.2.2.2.1.same (hfr 1006 (by decide) (by decide)), hM.2.2.2.2.2.2.1.same (hfr 1007 (by decide) (by decide)), hM.2.2.2.2.2.2.2.1.same (hfr 1008 (by decide) (by decide)), hM.2.2.2.2.2.2.2.2.1.same (hfr 1009 (by decide) (by decide)), hM.2.2.2.2.2.2.2.2.2.1.same (hfr 1010 (by decide) (by decide)), hM.2.2.2.2.2.2.2.2.2.2.1.same (hfr 1011 (by decide) (by decide)), hM.2.2.2.2.2.2.2.2.2.2.2.1.same (hfr 1012 (by decide) (by decide)), hM.2.2.2.2.2.2.2.2.2.2.2.2.1.same (hfr 1013 (by decide) (by decide)), hM.2.2.2.2.2.2.2.2.2.2.2.2.2.1.same (hfr 1014 (by decide) (by decide)), hM.2.2.2.2.2.2.2.2.2.2.2.2.2.2.1.same (hfr 1015 (by decide) (by decide)), hM.2.2.2.2.2.2.2.2.2.2.2.2.2.2.2.1.same (hfr 1016 (by decide) (by decide)), hM.2.2.2.2.2.2.2.2.2.2.2.2.2.2.2.2.1.same (hfr 1017 (by decide) (by decide)), hM.2.2.2.2.2.2.2.2.2.2.2.2.2.2.2.2.2.1.same (hfr 1018 (by decide) (by decide)), hM.2.2.2.2.2.2.2.2.2.2.2.2.2.2.2.2.2.2.1.same (hfr 1024 (by decide) (by decide)), hM.2.2.2.2.2.2.2.2.2.2.2.2.2.2.2.2.2.2.2.1.same (hfr 1025 (by decide) (by decide)), hM.2.2.2.2.2.2.2.2.2.2.2.2.2.2.2.2.2.2.2.2.1.same (hfr 1026 (by decide) (by decide)), hM.2.2.2.2.2.2.2.2.2.2.2.2.2.2.2.2.2.2.2.2.2.1.same (hfr 1027 (by decide) (by decide)), hM.2.2.2.2.2.2.2.2.2.2.2.2.2.2.2.2.2.2.2.2.2.2.same (hfr 1028 (by decide) (by decide))⟩, fun q hq => hfr q (by omega) (by omega)⟩) dX8_set_177
                  · have hk9 : k < 10 := by rw [show (10 : Int32) = nI 10 from rfl, nI_leI (by decide) (by omega)] at c_113; omega
                    refine lv_aload_n hx hb dX8_set_116 rfl (lv_at hl 0 rfl) ?_
                    refine wg_get F hP f1000w rfl iw_X8 1 (by decide) tb_550 rfl rfl dX8_set_117 ?_
                    refine lv_bipush (v := 10) hx hb dX8_set_120 (by decide) ?_
                    refine lv_aload_n hx hb dX8_set_122 rfl (lv_at hl 0 rfl) ?_
                    refine wg_get F hP f1000w rfl iw_X8 0 (by decide) tb_549 rfl rfl dX8_set_123 ?_
                    refine lv_imul hx hb dX8_set_126 ?_
                    refine lv_iload hx hb dX8_set_127 (lv_at hl 3 rfl) ?_
                    refine lv_iadd hx hb dX8_set_129 ?_
                    refine wg_topi (y := nI (10 * lc_ns (st_B S) + k)) (by rw [show (10 : Int32) = nI 10 from rfl, pk_mul, nI_add]) ?_
                    refine lv_iload hx hb dX8_set_130 (lv_at hl 3 rfl) ?_
                    refine lv_iconst (v := 5) hx hb dX8_set_132 (by decide) ?_
                    refine lv_icmp_ge (tgt := 140) hx hb dX8_set_133 (by decide) (fun c_133 => ?_) (fun c_133 => ?_)
                    · have h5 : ¬ k < 5 := by rw [show (5 : Int32) = nI 5 from rfl, nI_leI (by decide) (by omega)] at c_133; omega
                      refine lv_lload_n hx hb dX8_set_140 rfl (lv_at hl 2 rfl) ?_
                      refine lv_bipush (v := 7) hx hb dX8_set_141 (by decide) ?_
                      refine lv_iload hx hb dX8_set_143 (lv_at hl 3 rfl) ?_
                      refine lv_iconst (v := 5) hx hb dX8_set_145 (by decide) ?_
                      refine lv_irem hx hb dX8_set_146 (by decide) ?_
                      refine wg_topi (y := nI (k % 5)) (lm_rem5 k hk9) ?_
                      refine lv_imul hx hb dX8_set_147 ?_
                      refine wg_topi (y := nI (7 * (k % 5))) (by rw [show (7 : Int32) = nI 7 from rfl, pk_mul]) ?_
                      refine lv_lshr (v := b >>> ((nI (7 * (k % 5))).toInt64 &&& 63)) hx hb dX8_set_148 rfl ?_
                      refine lv_ldc2 (v := 127) hx hb hown (hts _ tb_643) dX8_set_149 ?_
                      refine lv_land hx hb dX8_set_152 ?_
                      refine wg_topl (y := lN (lc_w (lc_nat a) (lc_nat b) k)) ((congrArg (fun z => (z >>> ((nI (7 * (k % 5))).toInt64 &&& 63)) &&& 127) eb).trans (lm_wb hgood.1.2 h5 hk9)) ?_
                      refine lv_l2i (v := (lN (lc_w (lc_nat a) (lc_nat b) k)).toInt32) hx hb dX8_set_153 rfl ?_
                      refine wg_topi (y := nI (lc_w (lc_nat a) (lc_nat b) k)) (lc_l2i _) ?_
                      refine wg_ist F hP hS f1001w (vp_in_nI (by omega) (by decide)) dX8_set_154 (fun H locs hP hS => ?_)
                      obtain ⟨C_154, hC_154⟩ : ∃ z : wg_C, z = va_up Cw 1001 (some (.inl (E.2.1 0, 160, .inl (upd fk (nI (10 * lc_ns (st_B S) + k)).toNatClampNeg (nI (lc_w (lc_nat a) (lc_nat b) k)))))) := ⟨_, rfl⟩
                      have hP : wg_P E A C_154 H := by rw [hC_154]; exact hP
                      have f1000w_c154 : C_154 1000 = some (.inr (8, [.int (nI (lc_ns (st_B S))), .ref (A 1001), .int (nI (lc_nh (st_B S))), .ref (A 1003), .ref (A 1004), .ref (A 1005), .ref (A 1006), .ref (A 1007), .ref (A 1008), .ref (A 1009), .ref (A 1010), .ref (A 1011), .ref (A 1012), .ref (A 1013), .ref (A 1014), .ref (A 1015), .ref (A 1016), .ref (A 1017), .ref (A 1018), .int (nI (st_pa S)), .int (nI (st_pb S)), .long (st_va S), .long (st_vb S), .int (nI (st_ct S)), .ref (A 1024), .ref (A 1025), .ref (A 1026), .ref (A 1027), .ref (A 1028)])) := by rw [hC_154]; rw [va_up_ne _ _ (by decide)]; exact f1000w
                      have f1001w_c154 : C_154 1001 = some (.inl (E.2.1 0, 160, .inl (upd fk (nI (10 * lc_ns (st_B S) + k)).toNatClampNeg (nI (lc_w (lc_nat a) (lc_nat b) k))))) := by rw [hC_154]; exact va_up_self _ _ _
                      have hn1 : ∀ z, z < 10 * lc_ns (st_B S) → (upd fk (nI (10 * lc_ns (st_B S) + k)).toNatClampNeg (nI (lc_w (lc_nat a) (lc_nat b) k))) z = g1 z := fun z hz => by rw [nI_clamp (by omega), pk_un (by omega)]; exact hf1 z hz
                      have hn2 : ∀ q, q < k + 1 → (upd fk (nI (10 * lc_ns (st_B S) + k)).toNatClampNeg (nI (lc_w (lc_nat a) (lc_nat b) k))) (10 * lc_ns (st_B S) + q) = nI (lc_w (lc_nat a) (lc_nat b) q) := fun q hq => by
                        rw [nI_clamp (by omega)]
                        by_cases e : q = k
                        · rw [e, pk_us]
                        · rw [pk_un (by omega)]; exact hf2 q (by omega)
                      obtain ⟨x_155, ex_155⟩ : ∃ y : Int32, y = nI k + 1 := ⟨_, rfl⟩
                      refine lv_iinc (v := x_155) (lv' := [(6, .int x_155), (0, .ref (A 1000)), (1, .long a), (3, .long b)]) hx hb dX8_set_155 hl (k := 3) rfl (by rw [ex_155]; rfl) (by decide) rfl (fun ls hl => ?_)
                      refine lv_goto (tgt := 109) hx hb dX8_set_158 (by decide) ?_
                      exact ih_loop_109 (k + 1) x_155 (upd fk (nI (10 * lc_ns (st_B S) + k)).toNatClampNeg (nI (lc_w (lc_nat a) (lc_nat b) k))) (by omega) (by omega) (by rw [ex_155, nI_1]) hn1 hn2 C_154 f1000w_c154 f1001w_c154 ((fun r h1 => by rw [hC_154, va_up_ne _ _ h1]; exact hbase r h1)) _ _ _ hP hS (lv_sub hl [1, 2, 3, 0] rfl)
                    · have h5 : k < 5 := by rw [show (5 : Int32) = nI 5 from rfl, nI_leI (by decide) (by omega)] at c_133; omega
                      refine lv_lload_n hx hb dX8_set_136 rfl (lv_at hl 1 rfl) ?_
                      refine lv_goto (tgt := 141) hx hb dX8_set_137 (by decide) ?_
                      refine lv_bipush (v := 7) hx hb dX8_set_141 (by decide) ?_
                      refine lv_iload hx hb dX8_set_143 (lv_at hl 3 rfl) ?_
                      refine lv_iconst (v := 5) hx hb dX8_set_145 (by decide) ?_
                      refine lv_irem hx hb dX8_set_146 (by decide) ?_
                      refine wg_topi (y := nI (k % 5)) (lm_rem5 k hk9) ?_
                      refine lv_imul hx hb dX8_set_147 ?_
                      refine wg_topi (y := nI (7 * (k % 5))) (by rw [show (7 : Int32) = nI 7 from rfl, pk_mul]) ?_
                      refine lv_lshr (v := a >>> ((nI (7 * (k % 5))).toInt64 &&& 63)) hx hb dX8_set_148 rfl ?_
                      refine lv_ldc2 (v := 127) hx hb hown (hts _ tb_643) dX8_set_149 ?_
                      refine lv_land hx hb dX8_set_152 ?_
                      refine wg_topl (y := lN (lc_w (lc_nat a) (lc_nat b) k)) ((congrArg (fun z => (z >>> ((nI (7 * (k % 5))).toInt64 &&& 63)) &&& 127) ea).trans (lm_wa hgood.1.1 h5)) ?_
                      refine lv_l2i (v := (lN (lc_w (lc_nat a) (lc_nat b) k)).toInt32) hx hb dX8_set_153 rfl ?_
                      refine wg_topi (y := nI (lc_w (lc_nat a) (lc_nat b) k)) (lc_l2i _) ?_
                      refine wg_ist F hP hS f1001w (vp_in_nI (by omega) (by decide)) dX8_set_154 (fun H locs hP hS => ?_)
                      obtain ⟨C_154_1, hC_154_1⟩ : ∃ z : wg_C, z = va_up Cw 1001 (some (.inl (E.2.1 0, 160, .inl (upd fk (nI (10 * lc_ns (st_B S) + k)).toNatClampNeg (nI (lc_w (lc_nat a) (lc_nat b) k)))))) := ⟨_, rfl⟩
                      have hP : wg_P E A C_154_1 H := by rw [hC_154_1]; exact hP
                      have f1000w_c154_1 : C_154_1 1000 = some (.inr (8, [.int (nI (lc_ns (st_B S))), .ref (A 1001), .int (nI (lc_nh (st_B S))), .ref (A 1003), .ref (A 1004), .ref (A 1005), .ref (A 1006), .ref (A 1007), .ref (A 1008), .ref (A 1009), .ref (A 1010), .ref (A 1011), .ref (A 1012), .ref (A 1013), .ref (A 1014), .ref (A 1015), .ref (A 1016), .ref (A 1017), .ref (A 1018), .int (nI (st_pa S)), .int (nI (st_pb S)), .long (st_va S), .long (st_vb S), .int (nI (st_ct S)), .ref (A 1024), .ref (A 1025), .ref (A 1026), .ref (A 1027), .ref (A 1028)])) := by rw [hC_154_1]; rw [va_up_ne _ _ (by decide)]; exact f1000w
                      have f1001w_c154_1 : C_154_1 1001 = some (.inl (E.2.1 0, 160, .inl (upd fk (nI (10 * lc_ns (st_B S) + k)).toNatClampNeg (nI (lc_w (lc_nat a) (lc_nat b) k))))) := by rw [hC_154_1]; exact va_up_self _ _ _
                      have hn1 : ∀ z, z < 10 * lc_ns (st_B S) → (upd fk (nI (10 * lc_ns (st_B S) + k)).toNatClampNeg (nI (lc_w (lc_nat a) (lc_nat b) k))) z = g1 z := fun z hz => by rw [nI_clamp (by omega), pk_un (by omega)]; exact hf1 z hz
                      have hn2 : ∀ q, q < k + 1 → (upd fk (nI (10 * lc_ns (st_B S) + k)).toNatClampNeg (nI (lc_w (lc_nat a) (lc_nat b) k))) (10 * lc_ns (st_B S) + q) = nI (lc_w (lc_nat a) (lc_nat b) q) := fun q hq => by
                        rw [nI_clamp (by omega)]
                        by_cases e : q = k
                        · rw [e, pk_us]
                        · rw [pk_un (by omega)]; exact hf2 q (by omega)
                      obtain ⟨x_155, ex_155⟩ : ∃ y : Int32, y = nI k + 1 := ⟨_, rfl⟩
                      refine lv_iinc (v := x_155) (lv' := [(6, .int x_155), (0, .ref (A 1000)), (1, .long a), (3, .long b)]) hx hb dX8_set_155 hl (k := 3) rfl (by rw [ex_155]; rfl) (by decide) rfl (fun ls hl => ?_)
                      refine lv_goto (tgt := 109) hx hb dX8_set_158 (by decide) ?_
                      exact ih_loop_109 (k + 1) x_155 (upd fk (nI (10 * lc_ns (st_B S) + k)).toNatClampNeg (nI (lc_w (lc_nat a) (lc_nat b) k))) (by omega) (by omega) (by rw [ex_155, nI_1]) hn1 hn2 C_154_1 f1000w_c154_1 f1001w_c154_1 ((fun r h1 => by rw [hC_154_1, va_up_ne _ _ h1]; exact hbase r h1)) _ _ _ hP hS (lv_sub hl [1, 2, 3, 0] rfl)
              exact loop_109 _ 0 0 g1 (Nat.lt_succ_self _) (by omega) rfl (fun z _ => rfl) (fun q hq => absurd hq (Nat.not_lt_zero _)) C mo m1 (fun r _ => rfl) _ _ _ hP hS (lv_sub hl [1, 2, 3, 0] rfl)
            · have hns : ¬ lc_ns (st_B S) < 16 := by rw [show (16 : Int32) = nI 16 from rfl, nI_eq (by omega) (by decide)] at c_100; omega
              have hop : op_set S a b = (-3, S) := by unfold op_set; rw [if_pos hwell, if_neg hns]
              refine lv_bipush (v := (-3)) hx hb dX8_set_103 (by decide) ?_
              exact wg_iret F hP hS hr hlk (⟨rfl, by rw [hop], by rw [hop]; exact hM, fun _ _ => rfl⟩) dX8_set_105
          · have hbad : ¬ (((lc_nat a) < 2 ^ 35 ∧ (lc_nat b) < 2 ^ 35) ∧ ∀ q, q < 10 → lc_w (lc_nat a) (lc_nat b) q ≤ 100) := by
              rcases hy with ⟨h1, _⟩ | ⟨_, h2⟩
              · rw [h1] at c_89; exact absurd c_89 (by decide)
              · exact h2
            have hop : op_set S a b = (-1, S) := by unfold op_set; exact if_neg (fun q => hbad (by have := lm_well.mpr q; exact ⟨⟨this.1, this.2.1⟩, this.2.2⟩))
            refine lv_iconst (v := (-1)) hx hb dX8_set_92 (by decide) ?_
            exact wg_iret F hP hS hr hlk (⟨rfl, by rw [hop], by rw [hop]; exact hM, fun _ _ => rfl⟩) dX8_set_93
        · have hk9 : k < 10 := by rw [show (10 : Int32) = nI 10 from rfl, nI_leI (by decide) (by omega)] at c_36; omega
          refine lv_iload hx hb dX8_set_39 (lv_at hl 3 rfl) ?_
          refine lv_if_eq (tgt := 78) hx hb dX8_set_41 (by decide) (fun c_41 => ?_) (fun c_41 => ?_)
          · have hbad : ¬ (((lc_nat a) < 2 ^ 35 ∧ (lc_nat b) < 2 ^ 35) ∧ ∀ q, q < 10 → lc_w (lc_nat a) (lc_nat b) q ≤ 100) := by
              rcases hy with ⟨h1, _⟩ | ⟨_, h2⟩
              · rw [h1] at c_41; exact absurd c_41 (by decide)
              · exact h2
            refine lv_iconst (v := 0) hx hb dX8_set_78 (by decide) ?_
            have hnew : ((0 : Int32) = 1 ∧ ((lc_nat a) < 2 ^ 35 ∧ (lc_nat b) < 2 ^ 35) ∧ ∀ q, q < (k + 1) → lc_w (lc_nat a) (lc_nat b) q ≤ 100) ∨ ((0 : Int32) = 0 ∧ ¬ (((lc_nat a) < 2 ^ 35 ∧ (lc_nat b) < 2 ^ 35) ∧ ∀ q, q < 10 → lc_w (lc_nat a) (lc_nat b) q ≤ 100)) := Or.inr ⟨rfl, hbad⟩
            refine lv_istore (lv' := [(5, .int 0), (0, .ref (A 1000)), (1, .long a), (3, .long b), (6, .int (nI k))]) hx hb dX8_set_79 hl (by decide) rfl (fun ls hl => ?_)
            obtain ⟨x_81, ex_81⟩ : ∃ y : Int32, y = nI k + 1 := ⟨_, rfl⟩
            refine lv_iinc (v := x_81) (lv' := [(6, .int x_81), (5, .int 0), (0, .ref (A 1000)), (1, .long a), (3, .long b)]) hx hb dX8_set_81 hl (k := 4) rfl (by rw [ex_81]; rfl) (by decide) rfl (fun ls hl => ?_)
            refine lv_goto (tgt := 32) hx hb dX8_set_84 (by decide) ?_
            exact ih_loop_32 (k + 1) 0 x_81 (by omega) (by omega) hnew (by rw [ex_81, nI_1]) _ _ _ hP hS (lv_sub hl [2, 3, 4, 1, 0] rfl)
          · have hgood : ((lc_nat a) < 2 ^ 35 ∧ (lc_nat b) < 2 ^ 35) ∧ ∀ q, q < k → lc_w (lc_nat a) (lc_nat b) q ≤ 100 := by
              rcases hy with ⟨_, h1⟩ | ⟨h1, _⟩
              · exact h1
              · exact absurd h1 c_41
            refine lv_iload hx hb dX8_set_44 (lv_at hl 4 rfl) ?_
            refine lv_iconst (v := 5) hx hb dX8_set_46 (by decide) ?_
            refine lv_icmp_ge (tgt := 54) hx hb dX8_set_47 (by decide) (fun c_47 => ?_) (fun c_47 => ?_)
            · have h5 : ¬ k < 5 := by rw [show (5 : Int32) = nI 5 from rfl, nI_leI (by decide) (by omega)] at c_47; omega
              refine lv_lload_n hx hb dX8_set_54 rfl (lv_at hl 2 rfl) ?_
              refine lv_bipush (v := 7) hx hb dX8_set_55 (by decide) ?_
              refine lv_iload hx hb dX8_set_57 (lv_at hl 4 rfl) ?_
              refine lv_iconst (v := 5) hx hb dX8_set_59 (by decide) ?_
              refine lv_irem hx hb dX8_set_60 (by decide) ?_
              refine wg_topi (y := nI (k % 5)) (lm_rem5 k hk9) ?_
              refine lv_imul hx hb dX8_set_61 ?_
              refine wg_topi (y := nI (7 * (k % 5))) (by rw [show (7 : Int32) = nI 7 from rfl, pk_mul]) ?_
              refine lv_lshr (v := b >>> ((nI (7 * (k % 5))).toInt64 &&& 63)) hx hb dX8_set_62 rfl ?_
              refine lv_ldc2 (v := 127) hx hb hown (hts _ tb_643) dX8_set_63 ?_
              refine lv_land hx hb dX8_set_66 ?_
              refine wg_topl (y := lN (lc_w (lc_nat a) (lc_nat b) k)) ((congrArg (fun z => (z >>> ((nI (7 * (k % 5))).toInt64 &&& 63)) &&& 127) eb).trans (lm_wb hgood.1.2 h5 hk9)) ?_
              refine lv_ldc2 (v := 100) hx hb hown (hts _ tb_644) dX8_set_67 ?_
              refine W.lcmp hx hb dX8_set_70 ?_
              refine lv_if_gt (tgt := 78) hx hb dX8_set_71 (by decide) (fun c_71 => ?_) (fun c_71 => ?_)
              · rw [lg_cmp_gt, lm_w100 (lc_w_lt _ _ _)] at c_71
                have hbad : ¬ (((lc_nat a) < 2 ^ 35 ∧ (lc_nat b) < 2 ^ 35) ∧ ∀ q, q < 10 → lc_w (lc_nat a) (lc_nat b) q ≤ 100) := fun q => by have := q.2 k hk9; omega
                refine lv_iconst (v := 0) hx hb dX8_set_78 (by decide) ?_
                have hnew : ((0 : Int32) = 1 ∧ ((lc_nat a) < 2 ^ 35 ∧ (lc_nat b) < 2 ^ 35) ∧ ∀ q, q < (k + 1) → lc_w (lc_nat a) (lc_nat b) q ≤ 100) ∨ ((0 : Int32) = 0 ∧ ¬ (((lc_nat a) < 2 ^ 35 ∧ (lc_nat b) < 2 ^ 35) ∧ ∀ q, q < 10 → lc_w (lc_nat a) (lc_nat b) q ≤ 100)) := Or.inr ⟨rfl, hbad⟩
                refine lv_istore (lv' := [(5, .int 0), (0, .ref (A 1000)), (1, .long a), (3, .long b), (6, .int (nI k))]) hx hb dX8_set_79 hl (by decide) rfl (fun ls hl => ?_)
                obtain ⟨x_81, ex_81⟩ : ∃ y : Int32, y = nI k + 1 := ⟨_, rfl⟩
                refine lv_iinc (v := x_81) (lv' := [(6, .int x_81), (5, .int 0), (0, .ref (A 1000)), (1, .long a), (3, .long b)]) hx hb dX8_set_81 hl (k := 4) rfl (by rw [ex_81]; rfl) (by decide) rfl (fun ls hl => ?_)
                refine lv_goto (tgt := 32) hx hb dX8_set_84 (by decide) ?_
                exact ih_loop_32 (k + 1) 0 x_81 (by omega) (by omega) hnew (by rw [ex_81, nI_1]) _ _ _ hP hS (lv_sub hl [2, 3, 4, 1, 0] rfl)
              · rw [lg_cmp_gt, lm_w100 (lc_w_lt _ _ _)] at c_71
                refine lv_iconst (v := 1) hx hb dX8_set_74 (by decide) ?_
                refine lv_goto (tgt := 79) hx hb dX8_set_75 (by decide) ?_
                have hnew : ((1 : Int32) = 1 ∧ ((lc_nat a) < 2 ^ 35 ∧ (lc_nat b) < 2 ^ 35) ∧ ∀ q, q < (k + 1) → lc_w (lc_nat a) (lc_nat b) q ≤ 100) ∨ ((1 : Int32) = 0 ∧ ¬ (((lc_nat a) < 2 ^ 35 ∧ (lc_nat b) < 2 ^ 35) ∧ ∀ q, q < 10 → lc_w (lc_nat a) (lc_nat b) q ≤ 100)) := Or.inl ⟨rfl, hgood.1, fun q hq => by
                  rcases (show q < k ∨ q = k by omega) with e | e
                  · exact hgood.2 q e
                  · rw [e]; omega⟩
                refine lv_istore (lv' := [(5, .int 1), (0, .ref (A 1000)), (1, .long a), (3, .long b), (6, .int (nI k))]) hx hb dX8_set_79 hl (by decide) rfl (fun ls hl => ?_)
                obtain ⟨x_81, ex_81⟩ : ∃ y : Int32, y = nI k + 1 := ⟨_, rfl⟩
                refine lv_iinc (v := x_81) (lv' := [(6, .int x_81), (5, .int 1), (0, .ref (A 1000)), (1, .long a), (3, .long b)]) hx hb dX8_set_81 hl (k := 4) rfl (by rw [ex_81]; rfl) (by decide) rfl (fun ls hl => ?_)
                refine lv_goto (tgt := 32) hx hb dX8_set_84 (by decide) ?_
                exact ih_loop_32 (k + 1) 1 x_81 (by omega) (by omega) hnew (by rw [ex_81, nI_1]) _ _ _ hP hS (lv_sub hl [2, 3, 4, 1, 0] rfl)
            · have h5 : k < 5 := by rw [show (5 : Int32) = nI 5 from rfl, nI_leI (by decide) (by omega)] at c_47; omega
              refine lv_lload_n hx hb dX8_set_50 rfl (lv_at hl 1 rfl) ?_
              refine lv_goto (tgt := 55) hx hb dX8_set_51 (by decide) ?_
              refine lv_bipush (v := 7) hx hb dX8_set_55 (by decide) ?_
              refine lv_iload hx hb dX8_set_57 (lv_at hl 4 rfl) ?_
              refine lv_iconst (v := 5) hx hb dX8_set_59 (by decide) ?_
              refine lv_irem hx hb dX8_set_60 (by decide) ?_
              refine wg_topi (y := nI (k % 5)) (lm_rem5 k hk9) ?_
              refine lv_imul hx hb dX8_set_61 ?_
              refine wg_topi (y := nI (7 * (k % 5))) (by rw [show (7 : Int32) = nI 7 from rfl, pk_mul]) ?_
              refine lv_lshr (v := a >>> ((nI (7 * (k % 5))).toInt64 &&& 63)) hx hb dX8_set_62 rfl ?_
              refine lv_ldc2 (v := 127) hx hb hown (hts _ tb_643) dX8_set_63 ?_
              refine lv_land hx hb dX8_set_66 ?_
              refine wg_topl (y := lN (lc_w (lc_nat a) (lc_nat b) k)) ((congrArg (fun z => (z >>> ((nI (7 * (k % 5))).toInt64 &&& 63)) &&& 127) ea).trans (lm_wa hgood.1.1 h5)) ?_
              refine lv_ldc2 (v := 100) hx hb hown (hts _ tb_644) dX8_set_67 ?_
              refine W.lcmp hx hb dX8_set_70 ?_
              refine lv_if_gt (tgt := 78) hx hb dX8_set_71 (by decide) (fun c_71 => ?_) (fun c_71 => ?_)
              · rw [lg_cmp_gt, lm_w100 (lc_w_lt _ _ _)] at c_71
                have hbad : ¬ (((lc_nat a) < 2 ^ 35 ∧ (lc_nat b) < 2 ^ 35) ∧ ∀ q, q < 10 → lc_w (lc_nat a) (lc_nat b) q ≤ 100) := fun q => by have := q.2 k hk9; omega
                refine lv_iconst (v := 0) hx hb dX8_set_78 (by decide) ?_
                have hnew : ((0 : Int32) = 1 ∧ ((lc_nat a) < 2 ^ 35 ∧ (lc_nat b) < 2 ^ 35) ∧ ∀ q, q < (k + 1) → lc_w (lc_nat a) (lc_nat b) q ≤ 100) ∨ ((0 : Int32) = 0 ∧ ¬ (((lc_nat a) < 2 ^ 35 ∧ (lc_nat b) < 2 ^ 35) ∧ ∀ q, q < 10 → lc_w (lc_nat a) (lc_nat b) q ≤ 100)) := Or.inr ⟨rfl, hbad⟩
                refine lv_istore (lv' := [(5, .int 0), (0, .ref (A 1000)), (1, .long a), (3, .long b), (6, .int (nI k))]) hx hb dX8_set_79 hl (by decide) rfl (fun ls hl => ?_)
                obtain ⟨x_81, ex_81⟩ : ∃ y : Int32, y = nI k + 1 := ⟨_, rfl⟩
                refine lv_iinc (v := x_81) (lv' := [(6, .int x_81), (5, .int 0), (0, .ref (A 1000)), (1, .long a), (3, .long b)]) hx hb dX8_set_81 hl (k := 4) rfl (by rw [ex_81]; rfl) (by decide) rfl (fun ls hl => ?_)
                refine lv_goto (tgt := 32) hx hb dX8_set_84 (by decide) ?_
                exact ih_loop_32 (k + 1) 0 x_81 (by omega) (by omega) hnew (by rw [ex_81, nI_1]) _ _ _ hP hS (lv_sub hl [2, 3, 4, 1, 0] rfl)
              · rw [lg_cmp_gt, lm_w100 (lc_w_lt _ _ _)] at c_71
                refine lv_iconst (v := 1) hx hb dX8_set_74 (by decide) ?_
                refine lv_goto (tgt := 79) hx hb dX8_set_75 (by decide) ?_
                have hnew : ((1 : Int32) = 1 ∧ ((lc_nat a) < 2 ^ 35 ∧ (lc_nat b) < 2 ^ 35) ∧ ∀ q, q < (k + 1) → lc_w (lc_nat a) (lc_nat b) q ≤ 100) ∨ ((1 : Int32) = 0 ∧ ¬ (((lc_nat a) < 2 ^ 35 ∧ (lc_nat b) < 2 ^ 35) ∧ ∀ q, q < 10 → lc_w (lc_nat a) (lc_nat b) q ≤ 100)) := Or.inl ⟨rfl, hgood.1, fun q hq => by
                  rcases (show q < k ∨ q = k by omega) with e | e
                  · exact hgood.2 q e
                  · rw [e]; omega⟩
                refine lv_istore (lv' := [(5, .int 1), (0, .ref (A 1000)), (1, .long a), (3, .long b), (6, .int (nI k))]) hx hb dX8_set_79 hl (by decide) rfl (fun ls hl => ?_)
                obtain ⟨x_81, ex_81⟩ : ∃ y : Int32, y = nI k + 1 := ⟨_, rfl⟩
                refine lv_iinc (v := x_81) (lv' := [(6, .int x_81), (5, .int 1), (0, .ref (A 1000)), (1, .long a), (3, .long b)]) hx hb dX8_set_81 hl (k := 4) rfl (by rw [ex_81]; rfl) (by decide) rfl (fun ls hl => ?_)
                refine lv_goto (tgt := 32) hx hb dX8_set_84 (by decide) ?_
                exact ih_loop_32 (k + 1) 1 x_81 (by omega) (by omega) hnew (by rw [ex_81, nI_1]) _ _ _ hP hS (lv_sub hl [2, 3, 4, 1, 0] rfl)
    exact loop_32 _ 0 0 0 (Nat.lt_succ_self _) (by omega) hy0 rfl _ _ _ hP hS (lv_sub hl [2, 3, 4, 1, 0] rfl)
  · have hz := lc_if2 w_5 c_8
    rw [lm_inr] at hz
    refine lv_lload_n hx hb dX8_set_11 rfl (lv_at hl 2 rfl) ?_
    refine lv_lconst (v := 0) hx hb dX8_set_12 (by decide) ?_
    refine lv_ldc2 (v := 34359738367) hx hb hown (hts _ tb_642) dX8_set_13 ?_
    refine wg_ci hS (wg_rS (As := [.long b, .long 0, .long 34359738367]) (rest := []) F hP hS (c_X8_in l E A C _ _ _) ok_X8_in tb_532 rfl rfl ⟨Nat.le_of_ble_eq_true rfl, Nat.le_of_ble_eq_true rfl⟩ rfl hl.1 rfl (Nat.le_of_ble_eq_true rfl) dX8_set_16 ⟨Nat.le_of_ble_eq_true rfl, Nat.le_of_ble_eq_true rfl⟩) (fun r_16 A1 C_16 H locs w_16 hP hS => ?_)
    obtain ⟨w_16, rfl, rfl⟩ := w_16
    rw [show (0 : Int64).toInt = 0 from by decide, show (34359738367 : Int64).toInt = 34359738367 from by decide] at w_16
    refine lv_if_eq (tgt := 26) hx hb dX8_set_19 (by decide) (fun c_19 => ?_) (fun c_19 => ?_)
    · have hz2 := lc_if1 w_16 c_19
      rw [lm_inr] at hz2
      have hno : ¬ ((lc_nat a) < 2 ^ 35 ∧ (lc_nat b) < 2 ^ 35) := fun q => hz2 q.2
      refine lv_iconst (v := 0) hx hb dX8_set_26 (by decide) ?_
      have hy0 : ((0 : Int32) = 1 ∧ ((lc_nat a) < 2 ^ 35 ∧ (lc_nat b) < 2 ^ 35) ∧ ∀ q, q < 0 → lc_w (lc_nat a) (lc_nat b) q ≤ 100) ∨ ((0 : Int32) = 0 ∧ ¬ (((lc_nat a) < 2 ^ 35 ∧ (lc_nat b) < 2 ^ 35) ∧ ∀ q, q < 10 → lc_w (lc_nat a) (lc_nat b) q ≤ 100)) := Or.inr ⟨rfl, fun q => hno q.1⟩
      refine lv_istore (lv' := [(5, .int 0), (0, .ref (A 1000)), (1, .long a), (3, .long b)]) hx hb dX8_set_27 hl (by decide) rfl (fun ls hl => ?_)
      refine lv_iconst (v := 0) hx hb dX8_set_29 (by decide) ?_
      refine lv_istore (lv' := [(6, .int 0), (5, .int 0), (0, .ref (A 1000)), (1, .long a), (3, .long b)]) hx hb dX8_set_30 hl (by decide) rfl (fun ls hl => ?_)
      have loop_32 : ∀ (fuel : Nat) (k : Nat) (y5 : Int32) (y6 : Int32), 10 - k < fuel → (k ≤ 10) → ((y5 = 1 ∧ ((lc_nat a) < 2 ^ 35 ∧ (lc_nat b) < 2 ^ 35) ∧ ∀ q, q < k → lc_w (lc_nat a) (lc_nat b) q ≤ 100) ∨ (y5 = 0 ∧ ¬ (((lc_nat a) < 2 ^ 35 ∧ (lc_nat b) < 2 ^ 35) ∧ ∀ q, q < 10 → lc_w (lc_nat a) (lc_nat b) q ≤ 100))) → (y6 = nI k) → ∀ (H : Heap) (locs : List Loc) (ls : Array Slot), wg_P E A C H → va_S (wg_A E) s.heap H locs → lv_has ls 7 [(0, .ref (A 1000)), (1, .long a), (3, .long b), (5, .int y5), (6, .int y6)] → W p l e (wg_rm 1 0 0) s m ([.ref (A 1000), .long a, .long b] : List Value).toArray below meth c H locs 0 0 (MQ below (wg_Qi E (fun r A1 C1 => A = A1 ∧ r = (op_set S a b).1 ∧ lm E A C1 (op_set S a b).2 ∧ ∀ q, q < 1000 → C1 q = C q)) ([.ref (A 1000), .long a, .long b] : List Value).toArray s 0 0 (wg_A E)) (F0 m 32 ls []) := by
        intro fuel
        induction fuel with
        | zero => intro k y5 y6 hm; exact absurd hm (Nat.not_lt_zero _)
        | succ fuel ih_loop_32 =>
          intro k y5 y6 hm_loop_32 hk hy ey6 H locs ls hP hS hl
          subst ey6
          refine lv_iload hx hb dX8_set_32 (lv_at hl 4 rfl) ?_
          refine lv_bipush (v := 10) hx hb dX8_set_34 (by decide) ?_
          refine lv_icmp_ge (tgt := 87) hx hb dX8_set_36 (by decide) (fun c_36 => ?_) (fun c_36 => ?_)
          · have hk9 : k = 10 := by rw [show (10 : Int32) = nI 10 from rfl, nI_leI (by decide) (by omega)] at c_36; omega
            subst hk9
            refine lv_iload hx hb dX8_set_87 (lv_at hl 3 rfl) ?_
            refine lv_if_ne (tgt := 94) hx hb dX8_set_89 (by decide) (fun c_89 => ?_) (fun c_89 => ?_)
            · have hgood : ((lc_nat a) < 2 ^ 35 ∧ (lc_nat b) < 2 ^ 35) ∧ ∀ q, q < 10 → lc_w (lc_nat a) (lc_nat b) q ≤ 100 := by
                rcases hy with ⟨_, h1⟩ | ⟨h1, _⟩
                · exact h1
                · exact absurd h1 c_89
              have hwell := lm_well.mp ⟨hgood.1.1, hgood.1.2, hgood.2⟩
              refine lv_aload_n hx hb dX8_set_94 rfl (lv_at hl 0 rfl) ?_
              refine wg_get F hP mo rfl iw_X8 0 (by decide) tb_549 rfl rfl dX8_set_95 ?_
              refine lv_bipush (v := 16) hx hb dX8_set_98 (by decide) ?_
              refine lv_icmp_ne (tgt := 106) hx hb dX8_set_100 (by decide) (fun c_100 => ?_) (fun c_100 => ?_)
              · have hns : lc_ns (st_B S) < 16 := by rw [show (16 : Int32) = nI 16 from rfl, nI_eq (by omega) (by decide)] at c_100; omega
                have hop : op_set S a b = (nI (lc_ns (st_B S)), up_B S (up_set (st_B S) (lc_nat a) (lc_nat b))) := by unfold op_set; rw [if_pos hwell, if_pos hns]
                refine lv_iconst (v := 0) hx hb dX8_set_106 (by decide) ?_
                refine lv_istore (lv' := [(6, .int 0), (0, .ref (A 1000)), (1, .long a), (3, .long b), (5, .int y5)]) hx hb dX8_set_107 hl (by decide) rfl (fun ls hl => ?_)
                have loop_109 : ∀ (fuel : Nat) (k : Nat) (y6 : Int32) (fk : Nat → Int32), 10 - k < fuel → (k ≤ 10) → (y6 = nI k) → (∀ z, z < 10 * lc_ns (st_B S) → fk z = g1 z) → (∀ q, q < k → fk (10 * lc_ns (st_B S) + q) = nI (lc_w (lc_nat a) (lc_nat b) q)) → ∀ (Cw : wg_C) , Cw 1000 = some (.inr (8, [.int (nI (lc_ns (st_B S))), .ref (A 1001), .int (nI (lc_nh (st_B S))), .ref (A 1003), .ref (A 1004), .ref (A 1005), .ref (A 1006), .ref (A 1007), .ref (A 1008), .ref (A 1009), .ref (A 1010), .ref (A 1011), .ref (A 1012), .ref (A 1013), .ref (A 1014), .ref (A 1015), .ref (A 1016), .ref (A 1017), .ref (A 1018), .int (nI (st_pa S)), .int (nI (st_pb S)), .long (st_va S), .long (st_vb S), .int (nI (st_ct S)), .ref (A 1024), .ref (A 1025), .ref (A 1026), .ref (A 1027), .ref (A 1028)])) → Cw 1001 = some (.inl (E.2.1 0, 160, .inl fk)) → (∀ r, r ≠ 1001 → Cw r = C r) → ∀ (H : Heap) (locs : List Loc) (ls : Array Slot), wg_P E A Cw H → va_S (wg_A E) s.heap H locs → lv_has ls 7 [(0, .ref (A 1000)), (1, .long a), (3, .long b), (6, .int y6)] → W p l e (wg_rm 1 0 0) s m ([.ref (A 1000), .long a, .long b] : List Value).toArray below meth c H locs 0 0 (MQ below (wg_Qi E (fun r A1 C1 => A = A1 ∧ r = (op_set S a b).1 ∧ lm E A C1 (op_set S a b).2 ∧ ∀ q, q < 1000 → C1 q = C q)) ([.ref (A 1000), .long a, .long b] : List Value).toArray s 0 0 (wg_A E)) (F0 m 109 ls []) := by
                  intro fuel
                  induction fuel with
                  | zero => intro k y6 fk hm; exact absurd hm (Nat.not_lt_zero _)
                  | succ fuel ih_loop_109 =>
                    intro k y6 fk hm_loop_109 hk ey6 hf1 hf2 Cw f1000w f1001w hbase H locs ls hP hS hl
                    subst ey6
                    refine lv_iload hx hb dX8_set_109 (lv_at hl 3 rfl) ?_
                    refine lv_bipush (v := 10) hx hb dX8_set_111 (by decide) ?_
                    refine lv_icmp_ge (tgt := 161) hx hb dX8_set_113 (by decide) (fun c_113 => ?_) (fun c_113 => ?_)
                    · have hk9 : k = 10 := by rw [show (10 : Int32) = nI 10 from rfl, nI_leI (by decide) (by omega)] at c_113; omega
                      subst hk9
                      refine lv_aload_n hx hb dX8_set_161 rfl (lv_at hl 0 rfl) ?_
                      refine lv_dup hx hb dX8_set_162 rfl ?_
                      refine wg_get F hP f1000w rfl iw_X8 0 (by decide) tb_549 rfl rfl dX8_set_163 ?_
                      refine lv_iconst (v := 1) hx hb dX8_set_166 (by decide) ?_
                      refine lv_iadd hx hb dX8_set_167 ?_
                      refine wg_topi (y := nI (lc_ns (st_B S) + 1)) (by rw [nI_1]) ?_
                      refine wg_put F hP hS f1000w rfl iw_X8 tyX8_ok nmX8 0 (by decide) tb_549 rfl rfl rfl (Nat.le_of_ble_eq_true rfl) dX8_set_168 (fun H locs hP hS => ?_)
                      obtain ⟨C_168_1, hC_168_1⟩ : ∃ z : wg_C, z = va_up Cw 1000 (some (.inr (8, [.int (nI (lc_ns (st_B S) + 1)), .ref (A 1001), .int (nI (lc_nh (st_B S))), .ref (A 1003), .ref (A 1004), .ref (A 1005), .ref (A 1006), .ref (A 1007), .ref (A 1008), .ref (A 1009), .ref (A 1010), .ref (A 1011), .ref (A 1012), .ref (A 1013), .ref (A 1014), .ref (A 1015), .ref (A 1016), .ref (A 1017), .ref (A 1018), .int (nI (st_pa S)), .int (nI (st_pb S)), .long (st_va S), .long (st_vb S), .int (nI (st_ct S)), .ref (A 1024), .ref (A 1025), .ref (A 1026), .ref (A 1027), .ref (A 1028)]))) := ⟨_, rfl⟩
                      have hP : wg_P E A C_168_1 H := by rw [hC_168_1]; exact hP
                      have f1000w_c168_1 : C_168_1 1000 = some (.inr (8, [.int (nI (lc_ns (st_B S) + 1)), .ref (A 1001), .int (nI (lc_nh (st_B S))), .ref (A 1003), .ref (A 1004), .ref (A 1005), .ref (A 1006), .ref (A 1007), .ref (A 1008), .ref (A 1009), .ref (A 1010), .ref (A 1011), .ref (A 1012), .ref (A 1013), .ref (A 1014), .ref (A 1015), .ref (A 1016), .ref (A 1017), .ref (A 1018), .int (nI (st_pa S)), .int (nI (st_pb S)), .long (st_va S), .long (st_vb S), .int (nI (st_ct S)), .ref (A 1024), .ref (A 1025), .ref (A 1026), .ref (A 1027), .ref (A 1028)])) := by rw [hC_168_1]; exact va_up_self _ _ _
                      have f1001w_c168_1 : C_168_1 1001 = some (.inl (E.2.1 0, 160, .inl fk)) := by rw [hC_168_1]; rw [va_up_ne _ _ (by decide)]; exact f1001w
                      have hfr : ∀ r, r ≠ 1000 → r ≠ 1001 → C_168_1 r = C r := fun r h0 h1 => by rw [hC_168_1, va_up_ne _ _ h0]; exact hbase r h1
                      refine lv_aload_n hx hb dX8_set_171 rfl (lv_at hl 0 rfl) ?_
                      refine wg_get F hP f1000w_c168_1 rfl iw_X8 0 (by decide) tb_549 rfl rfl dX8_set_172 ?_
                      refine lv_iconst (v := 1) hx hb dX8_set_175 (by decide) ?_
                      refine lv_isub hx hb dX8_set_176 ?_
                      refine wg_topi (y := nI (lc_ns (st_B S))) (nI_m1 _) ?_
                      exact wg_iret F hP hS hr hlk (⟨rfl, by rw [hop], by rw [hop]; exact ⟨f1000w_c168_1, ⟨fk, f1001w_c168_1, lm_setx r1 hf1 hf2⟩, hM.2.2.1.same (hfr 1003 (by decide) (by decide)), hM.2.2.2.1.same (hfr 1004 (by decide) (by decide)), hM.2.2.2.2.1.same (hfr 1005 (by decide) (by decide)), hM.2.2.2.2.2.1.same (hfr 1006 (by decide) (by decide)), hM.2.2.2.2.2.2.1.same (hfr 1007 (by decide) (by decide)), hM.2.2.2.2.2.2.2.1.same (hfr 1008 (by decide) (by decide)), hM.2.2.2.2.2.2.2.2.1.same (hfr 1009 (by decide) (by decide)), hM.2.2.2.2.2.2.2.2.2.1.same (hfr 1010 (by decide) (by decide)), hM.2.2.2.2.2.2.2.2.2.2.1.same (hfr 1011 (by decide) (by decide)), hM.2.2.2.2.2.2.2.2.2.2.2.1.same (hfr 1012 (by decide) (by decide)), hM.2.2.2.2.2.2.2.2.2.2.2.2.1.same (hfr 1013 (by decide) (by decide)), hM.2.2.2.2.2.2.2.2.2.2.2.2.2.1.same (hfr 1014 (by decide) (by decide)), hM.2.2.2.2.2.2.2.2.2.2.2.2.2.2.1.same (hfr 1015 (by decide) (by decide)), hM.2.2.2.2.2.2.2.2.2.2.2.2.2.2.2.1.same (hfr 1016 (by decide) (by decide)), hM.2.2.2.2.2.2.2.2.2.2.2.2.2.2.2.2.1.same (hfr 1017 (by decide) (by decide)), hM.2.2.2.2.2.2.2.2.2.2.2.2.2.2.2.2.2.1.same (hfr 1018 (by decide) (by decide)), hM.2.2.2.2.2.2.2.2.2.2.2.2.2.2.2.2.2.2.1.same (hfr 1024 (by decide) (by decide)), hM.2.2.2.2.2.2.2.2.2.2.2.2.2.2.2.2.2.2.2.1.same (hfr 1025 (by decide) (by decide)), hM.2.2.2.2.2.2.2.2.2.2.2.2.2.2.2.2.2.2.2.2.1.same (hfr 1026 (by decide) (by decide)), hM.2.2.2.2.2.2.2.2.2.2.2.2.2.2.2.2.2.2.2.2.2.1.same (hfr 1027 (by decide) (by decide)), hM.2.2.2.2.2.2.2.2.2.2.2.2.2.2.2.2.2.2.2.2.2.2.same (hfr 1028 (by decide) (by decide))⟩, fun q hq => hfr q (by omega) (by omega)⟩) dX8_set_177
                    · have hk9 : k < 10 := by rw [show (10 : Int32) = nI 10 from rfl, nI_leI (by decide) (by omega)] at c_113; omega
                      refine lv_aload_n hx hb dX8_set_116 rfl (lv_at hl 0 rfl) ?_
                      refine wg_get F hP f1000w rfl iw_X8 1 (by decide) tb_550 rfl rfl dX8_set_117 ?_
                      refine lv_bipush (v := 10) hx hb dX8_set_120 (by decide) ?_
                      refine lv_aload_n hx hb dX8_set_122 rfl (lv_at hl 0 rfl) ?_
                      refine wg_get F hP f1000w rfl iw_X8 0 (by decide) tb_549 rfl rfl dX8_set_123 ?_
                      refine lv_imul hx hb dX8_set_126 ?_
                      refine lv_iload hx hb dX8_set_127 (lv_at hl 3 rfl) ?_
                      refine lv_iadd hx hb dX8_set_129 ?_
                      refine wg_topi (y := nI (10 * lc_ns (st_B S) + k)) (by rw [show (10 : Int32) = nI 10 from rfl, pk_mul, nI_add]) ?_
                      refine lv_iload hx hb dX8_set_130 (lv_at hl 3 rfl) ?_
                      refine lv_iconst (v := 5) hx hb dX8_set_132 (by decide) ?_
                      refine lv_icmp_ge (tgt := 140) hx hb dX8_set_133 (by decide) (fun c_133 => ?_) (fun c_133 => ?_)
                      · have h5 : ¬ k < 5 := by rw [show (5 : Int32) = nI 5 from rfl, nI_leI (by decide) (by omega)] at c_133; omega
                        refine lv_lload_n hx hb dX8_set_140 rfl (lv_at hl 2 rfl) ?_
                        refine lv_bipush (v := 7) hx hb dX8_set_141 (by decide) ?_
                        refine lv_iload hx hb dX8_set_143 (lv_at hl 3 rfl) ?_
                        refine lv_iconst (v := 5) hx hb dX8_set_145 (by decide) ?_
                        refine lv_irem hx hb dX8_set_146 (by decide) ?_
                        refine wg_topi (y := nI (k % 5)) (lm_rem5 k hk9) ?_
                        refine lv_imul hx hb dX8_set_147 ?_
                        refine wg_topi (y := nI (7 * (k % 5))) (by rw [show (7 : Int32) = nI 7 from rfl, pk_mul]) ?_
                        refine lv_lshr (v := b >>> ((nI (7 * (k % 5))).toInt64 &&& 63)) hx hb dX8_set_148 rfl ?_
                        refine lv_ldc2 (v := 127) hx hb hown (hts _ tb_643) dX8_set_149 ?_
                        refine lv_land hx hb dX8_set_152 ?_
                        refine wg_topl (y := lN (lc_w (lc_nat a) (lc_nat b) k)) ((congrArg (fun z => (z >>> ((nI (7 * (k % 5))).toInt64 &&& 63)) &&& 127) eb).trans (lm_wb hgood.1.2 h5 hk9)) ?_
                        refine lv_l2i (v := (lN (lc_w (lc_nat a) (lc_nat b) k)).toInt32) hx hb dX8_set_153 rfl ?_
                        refine wg_topi (y := nI (lc_w (lc_nat a) (lc_nat b) k)) (lc_l2i _) ?_
                        refine wg_ist F hP hS f1001w (vp_in_nI (by omega) (by decide)) dX8_set_154 (fun H locs hP hS => ?_)
                        obtain ⟨C_154_2, hC_154_2⟩ : ∃ z : wg_C, z = va_up Cw 1001 (some (.inl (E.2.1 0, 160, .inl (upd fk (nI (10 * lc_ns (st_B S) + k)).toNatClampNeg (nI (lc_w (lc_nat a) (lc_nat b) k)))))) := ⟨_, rfl⟩
                        have hP : wg_P E A C_154_2 H := by rw [hC_154_2]; exact hP
                        have f1000w_c154_2 : C_154_2 1000 = some (.inr (8, [.int (nI (lc_ns (st_B S))), .ref (A 1001), .int (nI (lc_nh (st_B S))), .ref (A 1003), .ref (A 1004), .ref (A 1005), .ref (A 1006), .ref (A 1007), .ref (A 1008), .ref (A 1009), .ref (A 1010), .ref (A 1011), .ref (A 1012), .ref (A 1013), .ref (A 1014), .ref (A 1015), .ref (A 1016), .ref (A 1017), .ref (A 1018), .int (nI (st_pa S)), .int (nI (st_pb S)), .long (st_va S), .long (st_vb S), .int (nI (st_ct S)), .ref (A 1024), .ref (A 1025), .ref (A 1026), .ref (A 1027), .ref (A 1028)])) := by rw [hC_154_2]; rw [va_up_ne _ _ (by decide)]; exact f1000w
                        have f1001w_c154_2 : C_154_2 1001 = some (.inl (E.2.1 0, 160, .inl (upd fk (nI (10 * lc_ns (st_B S) + k)).toNatClampNeg (nI (lc_w (lc_nat a) (lc_nat b) k))))) := by rw [hC_154_2]; exact va_up_self _ _ _
                        have hn1 : ∀ z, z < 10 * lc_ns (st_B S) → (upd fk (nI (10 * lc_ns (st_B S) + k)).toNatClampNeg (nI (lc_w (lc_nat a) (lc_nat b) k))) z = g1 z := fun z hz => by rw [nI_clamp (by omega), pk_un (by omega)]; exact hf1 z hz
                        have hn2 : ∀ q, q < k + 1 → (upd fk (nI (10 * lc_ns (st_B S) + k)).toNatClampNeg (nI (lc_w (lc_nat a) (lc_nat b) k))) (10 * lc_ns (st_B S) + q) = nI (lc_w (lc_nat a) (lc_nat b) q) := fun q hq => by
                          rw [nI_clamp (by omega)]
                          by_cases e : q = k
                          · rw [e, pk_us]
                          · rw [pk_un (by omega)]; exact hf2 q (by omega)
                        obtain ⟨x_155, ex_155⟩ : ∃ y : Int32, y = nI k + 1 := ⟨_, rfl⟩
                        refine lv_iinc (v := x_155) (lv' := [(6, .int x_155), (0, .ref (A 1000)), (1, .long a), (3, .long b)]) hx hb dX8_set_155 hl (k := 3) rfl (by rw [ex_155]; rfl) (by decide) rfl (fun ls hl => ?_)
                        refine lv_goto (tgt := 109) hx hb dX8_set_158 (by decide) ?_
                        exact ih_loop_109 (k + 1) x_155 (upd fk (nI (10 * lc_ns (st_B S) + k)).toNatClampNeg (nI (lc_w (lc_nat a) (lc_nat b) k))) (by omega) (by omega) (by rw [ex_155, nI_1]) hn1 hn2 C_154_2 f1000w_c154_2 f1001w_c154_2 ((fun r h1 => by rw [hC_154_2, va_up_ne _ _ h1]; exact hbase r h1)) _ _ _ hP hS (lv_sub hl [1, 2, 3, 0] rfl)
                      · have h5 : k < 5 := by rw [show (5 : Int32) = nI 5 from rfl, nI_leI (by decide) (by omega)] at c_133; omega
                        refine lv_lload_n hx hb dX8_set_136 rfl (lv_at hl 1 rfl) ?_
                        refine lv_goto (tgt := 141) hx hb dX8_set_137 (by decide) ?_
                        refine lv_bipush (v := 7) hx hb dX8_set_141 (by decide) ?_
                        refine lv_iload hx hb dX8_set_143 (lv_at hl 3 rfl) ?_
                        refine lv_iconst (v := 5) hx hb dX8_set_145 (by decide) ?_
                        refine lv_irem hx hb dX8_set_146 (by decide) ?_
                        refine wg_topi (y := nI (k % 5)) (lm_rem5 k hk9) ?_
                        refine lv_imul hx hb dX8_set_147 ?_
                        refine wg_topi (y := nI (7 * (k % 5))) (by rw [show (7 : Int32) = nI 7 from rfl, pk_mul]) ?_
                        refine lv_lshr (v := a >>> ((nI (7 * (k % 5))).toInt64 &&& 63)) hx hb dX8_set_148 rfl ?_
                        refine lv_ldc2 (v := 127) hx hb hown (hts _ tb_643) dX8_set_149 ?_
                        refine lv_land hx hb dX8_set_152 ?_
                        refine wg_topl (y := lN (lc_w (lc_nat a) (lc_nat b) k)) ((congrArg (fun z => (z >>> ((nI (7 * (k % 5))).toInt64 &&& 63)) &&& 127) ea).trans (lm_wa hgood.1.1 h5)) ?_
                        refine lv_l2i (v := (lN (lc_w (lc_nat a) (lc_nat b) k)).toInt32) hx hb dX8_set_153 rfl ?_
                        refine wg_topi (y := nI (lc_w (lc_nat a) (lc_nat b) k)) (lc_l2i _) ?_
                        refine wg_ist F hP hS f1001w (vp_in_nI (by omega) (by decide)) dX8_set_154 (fun H locs hP hS => ?_)
                        obtain ⟨C_154_3, hC_154_3⟩ : ∃ z : wg_C, z = va_up Cw 1001 (some (.inl (E.2.1 0, 160, .inl (upd fk (nI (10 * lc_ns (st_B S) + k)).toNatClampNeg (nI (lc_w (lc_nat a) (lc_nat b) k)))))) := ⟨_, rfl⟩
                        have hP : wg_P E A C_154_3 H := by rw [hC_154_3]; exact hP
                        have f1000w_c154_3 : C_154_3 1000 = some (.inr (8, [.int (nI (lc_ns (st_B S))), .ref (A 1001), .int (nI (lc_nh (st_B S))), .ref (A 1003), .ref (A 1004), .ref (A 1005), .ref (A 1006), .ref (A 1007), .ref (A 1008), .ref (A 1009), .ref (A 1010), .ref (A 1011), .ref (A 1012), .ref (A 1013), .ref (A 1014), .ref (A 1015), .ref (A 1016), .ref (A 1017), .ref (A 1018), .int (nI (st_pa S)), .int (nI (st_pb S)), .long (st_va S), .long (st_vb S), .int (nI (st_ct S)), .ref (A 1024), .ref (A 1025), .ref (A 1026), .ref (A 1027), .ref (A 1028)])) := by rw [hC_154_3]; rw [va_up_ne _ _ (by decide)]; exact f1000w
                        have f1001w_c154_3 : C_154_3 1001 = some (.inl (E.2.1 0, 160, .inl (upd fk (nI (10 * lc_ns (st_B S) + k)).toNatClampNeg (nI (lc_w (lc_nat a) (lc_nat b) k))))) := by rw [hC_154_3]; exact va_up_self _ _ _
                        have hn1 : ∀ z, z < 10 * lc_ns (st_B S) → (upd fk (nI (10 * lc_ns (st_B S) + k)).toNatClampNeg (nI (lc_w (lc_nat a) (lc_nat b) k))) z = g1 z := fun z hz => by rw [nI_clamp (by omega), pk_un (by omega)]; exact hf1 z hz
                        have hn2 : ∀ q, q < k + 1 → (upd fk (nI (10 * lc_ns (st_B S) + k)).toNatClampNeg (nI (lc_w (lc_nat a) (lc_nat b) k))) (10 * lc_ns (st_B S) + q) = nI (lc_w (lc_nat a) (lc_nat b) q) := fun q hq => by
                          rw [nI_clamp (by omega)]
                          by_cases e : q = k
                          · rw [e, pk_us]
                          · rw [pk_un (by omega)]; exact hf2 q (by omega)
                        obtain ⟨x_155, ex_155⟩ : ∃ y : Int32, y = nI k + 1 := ⟨_, rfl⟩
                        refine lv_iinc (v := x_155) (lv' := [(6, .int x_155), (0, .ref (A 1000)), (1, .long a), (3, .long b)]) hx hb dX8_set_155 hl (k := 3) rfl (by rw [ex_155]; rfl) (by decide) rfl (fun ls hl => ?_)
                        refine lv_goto (tgt := 109) hx hb dX8_set_158 (by decide) ?_
                        exact ih_loop_109 (k + 1) x_155 (upd fk (nI (10 * lc_ns (st_B S) + k)).toNatClampNeg (nI (lc_w (lc_nat a) (lc_nat b) k))) (by omega) (by omega) (by rw [ex_155, nI_1]) hn1 hn2 C_154_3 f1000w_c154_3 f1001w_c154_3 ((fun r h1 => by rw [hC_154_3, va_up_ne _ _ h1]; exact hbase r h1)) _ _ _ hP hS (lv_sub hl [1, 2, 3, 0] rfl)
                exact loop_109 _ 0 0 g1 (Nat.lt_succ_self _) (by omega) rfl (fun z _ => rfl) (fun q hq => absurd hq (Nat.not_lt_zero _)) C mo m1 (fun r _ => rfl) _ _ _ hP hS (lv_sub hl [1, 2, 3, 0] rfl)
              · have hns : ¬ lc_ns (st_B S) < 16 := by rw [show (16 : Int32) = nI 16 from rfl, nI_eq (by omega) (by decide)] at c_100; omega
                have hop : op_set S a b = (-3, S) := by unfold op_set; rw [if_pos hwell, if_neg hns]
                refine lv_bipush (v := (-3)) hx hb dX8_set_103 (by decide) ?_
                exact wg_iret F hP hS hr hlk (⟨rfl, by rw [hop], by rw [hop]; exact hM, fun _ _ => rfl⟩) dX8_set_105
            · have hbad : ¬ (((lc_nat a) < 2 ^ 35 ∧ (lc_nat b) < 2 ^ 35) ∧ ∀ q, q < 10 → lc_w (lc_nat a) (lc_nat b) q ≤ 100) := by
                rcases hy with ⟨h1, _⟩ | ⟨_, h2⟩
                · rw [h1] at c_89; exact absurd c_89 (by decide)
                · exact h2
              have hop : op_set S a b = (-1, S) := by unfold op_set; exact if_neg (fun q => hbad (by have := lm_well.mpr q; exact ⟨⟨this.1, this.2.1⟩, this.2.2⟩))
              refine lv_iconst (v := (-1)) hx hb dX8_set_92 (by decide) ?_
              exact wg_iret F hP hS hr hlk (⟨rfl, by rw [hop], by rw [hop]; exact hM, fun _ _ => rfl⟩) dX8_set_93
          · have hk9 : k < 10 := by rw [show (10 : Int32) = nI 10 from rfl, nI_leI (by decide) (by omega)] at c_36; omega
            refine lv_iload hx hb dX8_set_39 (lv_at hl 3 rfl) ?_
            refine lv_if_eq (tgt := 78) hx hb dX8_set_41 (by decide) (fun c_41 => ?_) (fun c_41 => ?_)
            · have hbad : ¬ (((lc_nat a) < 2 ^ 35 ∧ (lc_nat b) < 2 ^ 35) ∧ ∀ q, q < 10 → lc_w (lc_nat a) (lc_nat b) q ≤ 100) := by
                rcases hy with ⟨h1, _⟩ | ⟨_, h2⟩
                · rw [h1] at c_41; exact absurd c_41 (by decide)
                · exact h2
              refine lv_iconst (v := 0) hx hb dX8_set_78 (by decide) ?_
              have hnew : ((0 : Int32) = 1 ∧ ((lc_nat a) < 2 ^ 35 ∧ (lc_nat b) < 2 ^ 35) ∧ ∀ q, q < (k + 1) → lc_w (lc_nat a) (lc_nat b) q ≤ 100) ∨ ((0 : Int32) = 0 ∧ ¬ (((lc_nat a) < 2 ^ 35 ∧ (lc_nat b) < 2 ^ 35) ∧ ∀ q, q < 10 → lc_w (lc_nat a) (lc_nat b) q ≤ 100)) := Or.inr ⟨rfl, hbad⟩
              refine lv_istore (lv' := [(5, .int 0), (0, .ref (A 1000)), (1, .long a), (3, .long b), (6, .int (nI k))]) hx hb dX8_set_79 hl (by decide) rfl (fun ls hl => ?_)
              obtain ⟨x_81, ex_81⟩ : ∃ y : Int32, y = nI k + 1 := ⟨_, rfl⟩
              refine lv_iinc (v := x_81) (lv' := [(6, .int x_81), (5, .int 0), (0, .ref (A 1000)), (1, .long a), (3, .long b)]) hx hb dX8_set_81 hl (k := 4) rfl (by rw [ex_81]; rfl) (by decide) rfl (fun ls hl => ?_)
              refine lv_goto (tgt := 32) hx hb dX8_set_84 (by decide) ?_
              exact ih_loop_32 (k + 1) 0 x_81 (by omega) (by omega) hnew (by rw [ex_81, nI_1]) _ _ _ hP hS (lv_sub hl [2, 3, 4, 1, 0] rfl)
            · have hgood : ((lc_nat a) < 2 ^ 35 ∧ (lc_nat b) < 2 ^ 35) ∧ ∀ q, q < k → lc_w (lc_nat a) (lc_nat b) q ≤ 100 := by
                rcases hy with ⟨_, h1⟩ | ⟨h1, _⟩
                · exact h1
                · exact absurd h1 c_41
              refine lv_iload hx hb dX8_set_44 (lv_at hl 4 rfl) ?_
              refine lv_iconst (v := 5) hx hb dX8_set_46 (by decide) ?_
              refine lv_icmp_ge (tgt := 54) hx hb dX8_set_47 (by decide) (fun c_47 => ?_) (fun c_47 => ?_)
              · have h5 : ¬ k < 5 := by rw [show (5 : Int32) = nI 5 from rfl, nI_leI (by decide) (by omega)] at c_47; omega
                refine lv_lload_n hx hb dX8_set_54 rfl (lv_at hl 2 rfl) ?_
                refine lv_bipush (v := 7) hx hb dX8_set_55 (by decide) ?_
                refine lv_iload hx hb dX8_set_57 (lv_at hl 4 rfl) ?_
                refine lv_iconst (v := 5) hx hb dX8_set_59 (by decide) ?_
                refine lv_irem hx hb dX8_set_60 (by decide) ?_
                refine wg_topi (y := nI (k % 5)) (lm_rem5 k hk9) ?_
                refine lv_imul hx hb dX8_set_61 ?_
                refine wg_topi (y := nI (7 * (k % 5))) (by rw [show (7 : Int32) = nI 7 from rfl, pk_mul]) ?_
                refine lv_lshr (v := b >>> ((nI (7 * (k % 5))).toInt64 &&& 63)) hx hb dX8_set_62 rfl ?_
                refine lv_ldc2 (v := 127) hx hb hown (hts _ tb_643) dX8_set_63 ?_
                refine lv_land hx hb dX8_set_66 ?_
                refine wg_topl (y := lN (lc_w (lc_nat a) (lc_nat b) k)) ((congrArg (fun z => (z >>> ((nI (7 * (k % 5))).toInt64 &&& 63)) &&& 127) eb).trans (lm_wb hgood.1.2 h5 hk9)) ?_
                refine lv_ldc2 (v := 100) hx hb hown (hts _ tb_644) dX8_set_67 ?_
                refine W.lcmp hx hb dX8_set_70 ?_
                refine lv_if_gt (tgt := 78) hx hb dX8_set_71 (by decide) (fun c_71 => ?_) (fun c_71 => ?_)
                · rw [lg_cmp_gt, lm_w100 (lc_w_lt _ _ _)] at c_71
                  have hbad : ¬ (((lc_nat a) < 2 ^ 35 ∧ (lc_nat b) < 2 ^ 35) ∧ ∀ q, q < 10 → lc_w (lc_nat a) (lc_nat b) q ≤ 100) := fun q => by have := q.2 k hk9; omega
                  refine lv_iconst (v := 0) hx hb dX8_set_78 (by decide) ?_
                  have hnew : ((0 : Int32) = 1 ∧ ((lc_nat a) < 2 ^ 35 ∧ (lc_nat b) < 2 ^ 35) ∧ ∀ q, q < (k + 1) → lc_w (lc_nat a) (lc_nat b) q ≤ 100) ∨ ((0 : Int32) = 0 ∧ ¬ (((lc_nat a) < 2 ^ 35 ∧ (lc_nat b) < 2 ^ 35) ∧ ∀ q, q < 10 → lc_w (lc_nat a) (lc_nat b) q ≤ 100)) := Or.inr ⟨rfl, hbad⟩
                  refine lv_istore (lv' := [(5, .int 0), (0, .ref (A 1000)), (1, .long a), (3, .long b), (6, .int (nI k))]) hx hb dX8_set_79 hl (by decide) rfl (fun ls hl => ?_)
                  obtain ⟨x_81, ex_81⟩ : ∃ y : Int32, y = nI k + 1 := ⟨_, rfl⟩
                  refine lv_iinc (v := x_81) (lv' := [(6, .int x_81), (5, .int 0), (0, .ref (A 1000)), (1, .long a), (3, .long b)]) hx hb dX8_set_81 hl (k := 4) rfl (by rw [ex_81]; rfl) (by decide) rfl (fun ls hl => ?_)
                  refine lv_goto (tgt := 32) hx hb dX8_set_84 (by decide) ?_
                  exact ih_loop_32 (k + 1) 0 x_81 (by omega) (by omega) hnew (by rw [ex_81, nI_1]) _ _ _ hP hS (lv_sub hl [2, 3, 4, 1, 0] rfl)
                · rw [lg_cmp_gt, lm_w100 (lc_w_lt _ _ _)] at c_71
                  refine lv_iconst (v := 1) hx hb dX8_set_74 (by decide) ?_
                  refine lv_goto (tgt := 79) hx hb dX8_set_75 (by decide) ?_
                  have hnew : ((1 : Int32) = 1 ∧ ((lc_nat a) < 2 ^ 35 ∧ (lc_nat b) < 2 ^ 35) ∧ ∀ q, q < (k + 1) → lc_w (lc_nat a) (lc_nat b) q ≤ 100) ∨ ((1 : Int32) = 0 ∧ ¬ (((lc_nat a) < 2 ^ 35 ∧ (lc_nat b) < 2 ^ 35) ∧ ∀ q, q < 10 → lc_w (lc_nat a) (lc_nat b) q ≤ 100)) := Or.inl ⟨rfl, hgood.1, fun q hq => by
                    rcases (show q < k ∨ q = k by omega) with e | e
                    · exact hgood.2 q e
                    · rw [e]; omega⟩
                  refine lv_istore (lv' := [(5, .int 1), (0, .ref (A 1000)), (1, .long a), (3, .long b), (6, .int (nI k))]) hx hb dX8_set_79 hl (by decide) rfl (fun ls hl => ?_)
                  obtain ⟨x_81, ex_81⟩ : ∃ y : Int32, y = nI k + 1 := ⟨_, rfl⟩
                  refine lv_iinc (v := x_81) (lv' := [(6, .int x_81), (5, .int 1), (0, .ref (A 1000)), (1, .long a), (3, .long b)]) hx hb dX8_set_81 hl (k := 4) rfl (by rw [ex_81]; rfl) (by decide) rfl (fun ls hl => ?_)
                  refine lv_goto (tgt := 32) hx hb dX8_set_84 (by decide) ?_
                  exact ih_loop_32 (k + 1) 1 x_81 (by omega) (by omega) hnew (by rw [ex_81, nI_1]) _ _ _ hP hS (lv_sub hl [2, 3, 4, 1, 0] rfl)
              · have h5 : k < 5 := by rw [show (5 : Int32) = nI 5 from rfl, nI_leI (by decide) (by omega)] at c_47; omega
                refine lv_lload_n hx hb dX8_set_50 rfl (lv_at hl 1 rfl) ?_
                refine lv_goto (tgt := 55) hx hb dX8_set_51 (by decide) ?_
                refine lv_bipush (v := 7) hx hb dX8_set_55 (by decide) ?_
                refine lv_iload hx hb dX8_set_57 (lv_at hl 4 rfl) ?_
                refine lv_iconst (v := 5) hx hb dX8_set_59 (by decide) ?_
                refine lv_irem hx hb dX8_set_60 (by decide) ?_
                refine wg_topi (y := nI (k % 5)) (lm_rem5 k hk9) ?_
                refine lv_imul hx hb dX8_set_61 ?_
                refine wg_topi (y := nI (7 * (k % 5))) (by rw [show (7 : Int32) = nI 7 from rfl, pk_mul]) ?_
                refine lv_lshr (v := a >>> ((nI (7 * (k % 5))).toInt64 &&& 63)) hx hb dX8_set_62 rfl ?_
                refine lv_ldc2 (v := 127) hx hb hown (hts _ tb_643) dX8_set_63 ?_
                refine lv_land hx hb dX8_set_66 ?_
                refine wg_topl (y := lN (lc_w (lc_nat a) (lc_nat b) k)) ((congrArg (fun z => (z >>> ((nI (7 * (k % 5))).toInt64 &&& 63)) &&& 127) ea).trans (lm_wa hgood.1.1 h5)) ?_
                refine lv_ldc2 (v := 100) hx hb hown (hts _ tb_644) dX8_set_67 ?_
                refine W.lcmp hx hb dX8_set_70 ?_
                refine lv_if_gt (tgt := 78) hx hb dX8_set_71 (by decide) (fun c_71 => ?_) (fun c_71 => ?_)
                · rw [lg_cmp_gt, lm_w100 (lc_w_lt _ _ _)] at c_71
                  have hbad : ¬ (((lc_nat a) < 2 ^ 35 ∧ (lc_nat b) < 2 ^ 35) ∧ ∀ q, q < 10 → lc_w (lc_nat a) (lc_nat b) q ≤ 100) := fun q => by have := q.2 k hk9; omega
                  refine lv_iconst (v := 0) hx hb dX8_set_78 (by decide) ?_
                  have hnew : ((0 : Int32) = 1 ∧ ((lc_nat a) < 2 ^ 35 ∧ (lc_nat b) < 2 ^ 35) ∧ ∀ q, q < (k + 1) → lc_w (lc_nat a) (lc_nat b) q ≤ 100) ∨ ((0 : Int32) = 0 ∧ ¬ (((lc_nat a) < 2 ^ 35 ∧ (lc_nat b) < 2 ^ 35) ∧ ∀ q, q < 10 → lc_w (lc_nat a) (lc_nat b) q ≤ 100)) := Or.inr ⟨rfl, hbad⟩
                  refine lv_istore (lv' := [(5, .int 0), (0, .ref (A 1000)), (1, .long a), (3, .long b), (6, .int (nI k))]) hx hb dX8_set_79 hl (by decide) rfl (fun ls hl => ?_)
                  obtain ⟨x_81, ex_81⟩ : ∃ y : Int32, y = nI k + 1 := ⟨_, rfl⟩
                  refine lv_iinc (v := x_81) (lv' := [(6, .int x_81), (5, .int 0), (0, .ref (A 1000)), (1, .long a), (3, .long b)]) hx hb dX8_set_81 hl (k := 4) rfl (by rw [ex_81]; rfl) (by decide) rfl (fun ls hl => ?_)
                  refine lv_goto (tgt := 32) hx hb dX8_set_84 (by decide) ?_
                  exact ih_loop_32 (k + 1) 0 x_81 (by omega) (by omega) hnew (by rw [ex_81, nI_1]) _ _ _ hP hS (lv_sub hl [2, 3, 4, 1, 0] rfl)
                · rw [lg_cmp_gt, lm_w100 (lc_w_lt _ _ _)] at c_71
                  refine lv_iconst (v := 1) hx hb dX8_set_74 (by decide) ?_
                  refine lv_goto (tgt := 79) hx hb dX8_set_75 (by decide) ?_
                  have hnew : ((1 : Int32) = 1 ∧ ((lc_nat a) < 2 ^ 35 ∧ (lc_nat b) < 2 ^ 35) ∧ ∀ q, q < (k + 1) → lc_w (lc_nat a) (lc_nat b) q ≤ 100) ∨ ((1 : Int32) = 0 ∧ ¬ (((lc_nat a) < 2 ^ 35 ∧ (lc_nat b) < 2 ^ 35) ∧ ∀ q, q < 10 → lc_w (lc_nat a) (lc_nat b) q ≤ 100)) := Or.inl ⟨rfl, hgood.1, fun q hq => by
                    rcases (show q < k ∨ q = k by omega) with e | e
                    · exact hgood.2 q e
                    · rw [e]; omega⟩
                  refine lv_istore (lv' := [(5, .int 1), (0, .ref (A 1000)), (1, .long a), (3, .long b), (6, .int (nI k))]) hx hb dX8_set_79 hl (by decide) rfl (fun ls hl => ?_)
                  obtain ⟨x_81, ex_81⟩ : ∃ y : Int32, y = nI k + 1 := ⟨_, rfl⟩
                  refine lv_iinc (v := x_81) (lv' := [(6, .int x_81), (5, .int 1), (0, .ref (A 1000)), (1, .long a), (3, .long b)]) hx hb dX8_set_81 hl (k := 4) rfl (by rw [ex_81]; rfl) (by decide) rfl (fun ls hl => ?_)
                  refine lv_goto (tgt := 32) hx hb dX8_set_84 (by decide) ?_
                  exact ih_loop_32 (k + 1) 1 x_81 (by omega) (by omega) hnew (by rw [ex_81, nI_1]) _ _ _ hP hS (lv_sub hl [2, 3, 4, 1, 0] rfl)
      exact loop_32 _ 0 0 0 (Nat.lt_succ_self _) (by omega) hy0 rfl _ _ _ hP hS (lv_sub hl [2, 3, 4, 1, 0] rfl)
    · have hz2 := lc_if2 w_16 c_19
      rw [lm_inr] at hz2
      refine lv_iconst (v := 1) hx hb dX8_set_22 (by decide) ?_
      refine lv_goto (tgt := 27) hx hb dX8_set_23 (by decide) ?_
      have hy0 : ((1 : Int32) = 1 ∧ ((lc_nat a) < 2 ^ 35 ∧ (lc_nat b) < 2 ^ 35) ∧ ∀ q, q < 0 → lc_w (lc_nat a) (lc_nat b) q ≤ 100) ∨ ((1 : Int32) = 0 ∧ ¬ (((lc_nat a) < 2 ^ 35 ∧ (lc_nat b) < 2 ^ 35) ∧ ∀ q, q < 10 → lc_w (lc_nat a) (lc_nat b) q ≤ 100)) := Or.inl ⟨rfl, ⟨hz, hz2⟩, fun q hq => absurd hq (Nat.not_lt_zero _)⟩
      refine lv_istore (lv' := [(5, .int 1), (0, .ref (A 1000)), (1, .long a), (3, .long b)]) hx hb dX8_set_27 hl (by decide) rfl (fun ls hl => ?_)
      refine lv_iconst (v := 0) hx hb dX8_set_29 (by decide) ?_
      refine lv_istore (lv' := [(6, .int 0), (5, .int 1), (0, .ref (A 1000)), (1, .long a), (3, .long b)]) hx hb dX8_set_30 hl (by decide) rfl (fun ls hl => ?_)
      have loop_32 : ∀ (fuel : Nat) (k : Nat) (y5 : Int32) (y6 : Int32), 10 - k < fuel → (k ≤ 10) → ((y5 = 1 ∧ ((lc_nat a) < 2 ^ 35 ∧ (lc_nat b) < 2 ^ 35) ∧ ∀ q, q < k → lc_w (lc_nat a) (lc_nat b) q ≤ 100) ∨ (y5 = 0 ∧ ¬ (((lc_nat a) < 2 ^ 35 ∧ (lc_nat b) < 2 ^ 35) ∧ ∀ q, q < 10 → lc_w (lc_nat a) (lc_nat b) q ≤ 100))) → (y6 = nI k) → ∀ (H : Heap) (locs : List Loc) (ls : Array Slot), wg_P E A C H → va_S (wg_A E) s.heap H locs → lv_has ls 7 [(0, .ref (A 1000)), (1, .long a), (3, .long b), (5, .int y5), (6, .int y6)] → W p l e (wg_rm 1 0 0) s m ([.ref (A 1000), .long a, .long b] : List Value).toArray below meth c H locs 0 0 (MQ below (wg_Qi E (fun r A1 C1 => A = A1 ∧ r = (op_set S a b).1 ∧ lm E A C1 (op_set S a b).2 ∧ ∀ q, q < 1000 → C1 q = C q)) ([.ref (A 1000), .long a, .long b] : List Value).toArray s 0 0 (wg_A E)) (F0 m 32 ls []) := by
        intro fuel
        induction fuel with
        | zero => intro k y5 y6 hm; exact absurd hm (Nat.not_lt_zero _)
        | succ fuel ih_loop_32 =>
          intro k y5 y6 hm_loop_32 hk hy ey6 H locs ls hP hS hl
          subst ey6
          refine lv_iload hx hb dX8_set_32 (lv_at hl 4 rfl) ?_
          refine lv_bipush (v := 10) hx hb dX8_set_34 (by decide) ?_
          refine lv_icmp_ge (tgt := 87) hx hb dX8_set_36 (by decide) (fun c_36 => ?_) (fun c_36 => ?_)
          · have hk9 : k = 10 := by rw [show (10 : Int32) = nI 10 from rfl, nI_leI (by decide) (by omega)] at c_36; omega
            subst hk9
            refine lv_iload hx hb dX8_set_87 (lv_at hl 3 rfl) ?_
            refine lv_if_ne (tgt := 94) hx hb dX8_set_89 (by decide) (fun c_89 => ?_) (fun c_89 => ?_)
            · have hgood : ((lc_nat a) < 2 ^ 35 ∧ (lc_nat b) < 2 ^ 35) ∧ ∀ q, q < 10 → lc_w (lc_nat a) (lc_nat b) q ≤ 100 := by
                rcases hy with ⟨_, h1⟩ | ⟨h1, _⟩
                · exact h1
                · exact absurd h1 c_89
              have hwell := lm_well.mp ⟨hgood.1.1, hgood.1.2, hgood.2⟩
              refine lv_aload_n hx hb dX8_set_94 rfl (lv_at hl 0 rfl) ?_
              refine wg_get F hP mo rfl iw_X8 0 (by decide) tb_549 rfl rfl dX8_set_95 ?_
              refine lv_bipush (v := 16) hx hb dX8_set_98 (by decide) ?_
              refine lv_icmp_ne (tgt := 106) hx hb dX8_set_100 (by decide) (fun c_100 => ?_) (fun c_100 => ?_)
              · have hns : lc_ns (st_B S) < 16 := by rw [show (16 : Int32) = nI 16 from rfl, nI_eq (by omega) (by decide)] at c_100; omega
                have hop : op_set S a b = (nI (lc_ns (st_B S)), up_B S (up_set (st_B S) (lc_nat a) (lc_nat b))) := by unfold op_set; rw [if_pos hwell, if_pos hns]
                refine lv_iconst (v := 0) hx hb dX8_set_106 (by decide) ?_
                refine lv_istore (lv' := [(6, .int 0), (0, .ref (A 1000)), (1, .long a), (3, .long b), (5, .int y5)]) hx hb dX8_set_107 hl (by decide) rfl (fun ls hl => ?_)
                have loop_109 : ∀ (fuel : Nat) (k : Nat) (y6 : Int32) (fk : Nat → Int32), 10 - k < fuel → (k ≤ 10) → (y6 = nI k) → (∀ z, z < 10 * lc_ns (st_B S) → fk z = g1 z) → (∀ q, q < k → fk (10 * lc_ns (st_B S) + q) = nI (lc_w (lc_nat a) (lc_nat b) q)) → ∀ (Cw : wg_C) , Cw 1000 = some (.inr (8, [.int (nI (lc_ns (st_B S))), .ref (A 1001), .int (nI (lc_nh (st_B S))), .ref (A 1003), .ref (A 1004), .ref (A 1005), .ref (A 1006), .ref (A 1007), .ref (A 1008), .ref (A 1009), .ref (A 1010), .ref (A 1011), .ref (A 1012), .ref (A 1013), .ref (A 1014), .ref (A 1015), .ref (A 1016), .ref (A 1017), .ref (A 1018), .int (nI (st_pa S)), .int (nI (st_pb S)), .long (st_va S), .long (st_vb S), .int (nI (st_ct S)), .ref (A 1024), .ref (A 1025), .ref (A 1026), .ref (A 1027), .ref (A 1028)])) → Cw 1001 = some (.inl (E.2.1 0, 160, .inl fk)) → (∀ r, r ≠ 1001 → Cw r = C r) → ∀ (H : Heap) (locs : List Loc) (ls : Array Slot), wg_P E A Cw H → va_S (wg_A E) s.heap H locs → lv_has ls 7 [(0, .ref (A 1000)), (1, .long a), (3, .long b), (6, .int y6)] → W p l e (wg_rm 1 0 0) s m ([.ref (A 1000), .long a, .long b] : List Value).toArray below meth c H locs 0 0 (MQ below (wg_Qi E (fun r A1 C1 => A = A1 ∧ r = (op_set S a b).1 ∧ lm E A C1 (op_set S a b).2 ∧ ∀ q, q < 1000 → C1 q = C q)) ([.ref (A 1000), .long a, .long b] : List Value).toArray s 0 0 (wg_A E)) (F0 m 109 ls []) := by
                  intro fuel
                  induction fuel with
                  | zero => intro k y6 fk hm; exact absurd hm (Nat.not_lt_zero _)
                  | succ fuel ih_loop_109 =>
                    intro k y6 fk hm_loop_109 hk ey6 hf1 hf2 Cw f1000w f1001w hbase H locs ls hP hS hl
                    subst ey6
                    refine lv_iload hx hb dX8_set_109 (lv_at hl 3 rfl) ?_
                    refine lv_bipush (v := 10) hx hb dX8_set_111 (by decide) ?_
                    refine lv_icmp_ge (tgt := 161) hx hb dX8_set_113 (by decide) (fun c_113 => ?_) (fun c_113 => ?_)
                    · have hk9 : k = 10 := by rw [show (10 : Int32) = nI 10 from rfl, nI_leI (by decide) (by omega)] at c_113; omega
                      subst hk9
                      refine lv_aload_n hx hb dX8_set_161 rfl (lv_at hl 0 rfl) ?_
                      refine lv_dup hx hb dX8_set_162 rfl ?_
                      refine wg_get F hP f1000w rfl iw_X8 0 (by decide) tb_549 rfl rfl dX8_set_163 ?_
                      refine lv_iconst (v := 1) hx hb dX8_set_166 (by decide) ?_
                      refine lv_iadd hx hb dX8_set_167 ?_
                      refine wg_topi (y := nI (lc_ns (st_B S) + 1)) (by rw [nI_1]) ?_
                      refine wg_put F hP hS f1000w rfl iw_X8 tyX8_ok nmX8 0 (by decide) tb_549 rfl rfl rfl (Nat.le_of_ble_eq_true rfl) dX8_set_168 (fun H locs hP hS => ?_)
                      obtain ⟨C_168_2, hC_168_2⟩ : ∃ z : wg_C, z = va_up Cw 1000 (some (.inr (8, [.int (nI (lc_ns (st_B S) + 1)), .ref (A 1001), .int (nI (lc_nh (st_B S))), .ref (A 1003), .ref (A 1004), .ref (A 1005), .ref (A 1006), .ref (A 1007), .ref (A 1008), .ref (A 1009), .ref (A 1010), .ref (A 1011), .ref (A 1012), .ref (A 1013), .ref (A 1014), .ref (A 1015), .ref (A 1016), .ref (A 1017), .ref (A 1018), .int (nI (st_pa S)), .int (nI (st_pb S)), .long (st_va S), .long (st_vb S), .int (nI (st_ct S)), .ref (A 1024), .ref (A 1025), .ref (A 1026), .ref (A 1027), .ref (A 1028)]))) := ⟨_, rfl⟩
                      have hP : wg_P E A C_168_2 H := by rw [hC_168_2]; exact hP
                      have f1000w_c168_2 : C_168_2 1000 = some (.inr (8, [.int (nI (lc_ns (st_B S) + 1)), .ref (A 1001), .int (nI (lc_nh (st_B S))), .ref (A 1003), .ref (A 1004), .ref (A 1005), .ref (A 1006), .ref (A 1007), .ref (A 1008), .ref (A 1009), .ref (A 1010), .ref (A 1011), .ref (A 1012), .ref (A 1013), .ref (A 1014), .ref (A 1015), .ref (A 1016), .ref (A 1017), .ref (A 1018), .int (nI (st_pa S)), .int (nI (st_pb S)), .long (st_va S), .long (st_vb S), .int (nI (st_ct S)), .ref (A 1024), .ref (A 1025), .ref (A 1026), .ref (A 1027), .ref (A 1028)])) := by rw [hC_168_2]; exact va_up_self _ _ _
                      have f1001w_c168_2 : C_168_2 1001 = some (.inl (E.2.1 0, 160, .inl fk)) := by rw [hC_168_2]; rw [va_up_ne _ _ (by decide)]; exact f1001w
                      have hfr : ∀ r, r ≠ 1000 → r ≠ 1001 → C_168_2 r = C r := fun r h0 h1 => by rw [hC_168_2, va_up_ne _ _ h0]; exact hbase r h1
                      refine lv_aload_n hx hb dX8_set_171 rfl (lv_at hl 0 rfl) ?_
                      refine wg_get F hP f1000w_c168_2 rfl iw_X8 0 (by decide) tb_549 rfl rfl dX8_set_172 ?_
                      refine lv_iconst (v := 1) hx hb dX8_set_175 (by decide) ?_
                      refine lv_isub hx hb dX8_set_176 ?_
                      refine wg_topi (y := nI (lc_ns (st_B S))) (nI_m1 _) ?_
                      exact wg_iret F hP hS hr hlk (⟨rfl, by rw [hop], by rw [hop]; exact ⟨f1000w_c168_2, ⟨fk, f1001w_c168_2, lm_setx r1 hf1 hf2⟩, hM.2.2.1.same (hfr 1003 (by decide) (by decide)), hM.2.2.2.1.same (hfr 1004 (by decide) (by decide)), hM.2.2.2.2.1.same (hfr 1005 (by decide) (by decide)), hM.2.2.2.2.2.1.same (hfr 1006 (by decide) (by decide)), hM.2.2.2.2.2.2.1.same (hfr 1007 (by decide) (by decide)), hM.2.2.2.2.2.2.2.1.same (hfr 1008 (by decide) (by decide)), hM.2.2.2.2.2.2.2.2.1.same (hfr 1009 (by decide) (by decide)), hM.2.2.2.2.2.2.2.2.2.1.same (hfr 1010 (by decide) (by decide)), hM.2.2.2.2.2.2.2.2.2.2.1.same (hfr 1011 (by decide) (by decide)), hM.2.2.2.2.2.2.2.2.2.2.2.1.same (hfr 1012 (by decide) (by decide)), hM.2.2.2.2.2.2.2.2.2.2.2.2.1.same (hfr 1013 (by decide) (by decide)), hM.2.2.2.2.2.2.2.2.2.2.2.2.2.1.same (hfr 1014 (by decide) (by decide)), hM.2.2.2.2.2.2.2.2.2.2.2.2.2.2.1.same (hfr 1015 (by decide) (by decide)), hM.2.2.2.2.2.2.2.2.2.2.2.2.2.2.2.1.same (hfr 1016 (by decide) (by decide)), hM.2.2.2.2.2.2.2.2.2.2.2.2.2.2.2.2.1.same (hfr 1017 (by decide) (by decide)), hM.2.2.2.2.2.2.2.2.2.2.2.2.2.2.2.2.2.1.same (hfr 1018 (by decide) (by decide)), hM.2.2.2.2.2.2.2.2.2.2.2.2.2.2.2.2.2.2.1.same (hfr 1024 (by decide) (by decide)), hM.2.2.2.2.2.2.2.2.2.2.2.2.2.2.2.2.2.2.2.1.same (hfr 1025 (by decide) (by decide)), hM.2.2.2.2.2.2.2.2.2.2.2.2.2.2.2.2.2.2.2.2.1.same (hfr 1026 (by decide) (by decide)), hM.2.2.2.2.2.2.2.2.2.2.2.2.2.2.2.2.2.2.2.2.2.1.same (hfr 1027 (by decide) (by decide)), hM.2.2.2.2.2.2.2.2.2.2.2.2.2.2.2.2.2.2.2.2.2.2.same (hfr 1028 (by decide) (by decide))⟩, fun q hq => hfr q (by omega) (by omega)⟩) dX8_set_177
                    · have hk9 : k < 10 := by rw [show (10 : Int32) = nI 10 from rfl, nI_leI (by decide) (by omega)] at c_113; omega
                      refine lv_aload_n hx hb dX8_set_116 rfl (lv_at hl 0 rfl) ?_
                      refine wg_get F hP f1000w rfl iw_X8 1 (by decide) tb_550 rfl rfl dX8_set_117 ?_
                      refine lv_bipush (v := 10) hx hb dX8_set_120 (by decide) ?_
                      refine lv_aload_n hx hb dX8_set_122 rfl (lv_at hl 0 rfl) ?_
                      refine wg_get F hP f1000w rfl iw_X8 0 (by decide) tb_549 rfl rfl dX8_set_123 ?_
                      refine lv_imul hx hb dX8_set_126 ?_
                      refine lv_iload hx hb dX8_set_127 (lv_at hl 3 rfl) ?_
                      refine lv_iadd hx hb dX8_set_129 ?_
                      refine wg_topi (y := nI (10 * lc_ns (st_B S) + k)) (by rw [show (10 : Int32) = nI 10 from rfl, pk_mul, nI_add]) ?_
                      refine lv_iload hx hb dX8_set_130 (lv_at hl 3 rfl) ?_
                      refine lv_iconst (v := 5) hx hb dX8_set_132 (by decide) ?_
                      refine lv_icmp_ge (tgt := 140) hx hb dX8_set_133 (by decide) (fun c_133 => ?_) (fun c_133 => ?_)
                      · have h5 : ¬ k < 5 := by rw [show (5 : Int32) = nI 5 from rfl, nI_leI (by decide) (by omega)] at c_133; omega
                        refine lv_lload_n hx hb dX8_set_140 rfl (lv_at hl 2 rfl) ?_
                        refine lv_bipush (v := 7) hx hb dX8_set_141 (by decide) ?_
                        refine lv_iload hx hb dX8_set_143 (lv_at hl 3 rfl) ?_
                        refine lv_iconst (v := 5) hx hb dX8_set_145 (by decide) ?_
                        refine lv_irem hx hb dX8_set_146 (by decide) ?_
                        refine wg_topi (y := nI (k % 5)) (lm_rem5 k hk9) ?_
                        refine lv_imul hx hb dX8_set_147 ?_
                        refine wg_topi (y := nI (7 * (k % 5))) (by rw [show (7 : Int32) = nI 7 from rfl, pk_mul]) ?_
                        refine lv_lshr (v := b >>> ((nI (7 * (k % 5))).toInt64 &&& 63)) hx hb dX8_set_148 rfl ?_
                        refine lv_ldc2 (v := 127) hx hb hown (hts _ tb_643) dX8_set_149 ?_
                        refine lv_land hx hb dX8_set_152 ?_
                        refine wg_topl (y := lN (lc_w (lc_nat a) (lc_nat b) k)) ((congrArg (fun z => (z >>> ((nI (7 * (k % 5))).toInt64 &&& 63)) &&& 127) eb).trans (lm_wb hgood.1.2 h5 hk9)) ?_
                        refine lv_l2i (v := (lN (lc_w (lc_nat a) (lc_nat b) k)).toInt32) hx hb dX8_set_153 rfl ?_
                        refine wg_topi (y := nI (lc_w (lc_nat a) (lc_nat b) k)) (lc_l2i _) ?_
                        refine wg_ist F hP hS f1001w (vp_in_nI (by omega) (by decide)) dX8_set_154 (fun H locs hP hS => ?_)
                        obtain ⟨C_154_4, hC_154_4⟩ : ∃ z : wg_C, z = va_up Cw 1001 (some (.inl (E.2.1 0, 160, .inl (upd fk (nI (10 * lc_ns (st_B S) + k)).toNatClampNeg (nI (lc_w (lc_nat a) (lc_nat b) k)))))) := ⟨_, rfl⟩
                        have hP : wg_P E A C_154_4 H := by rw [hC_154_4]; exact hP
                        have f1000w_c154_4 : C_154_4 1000 = some (.inr (8, [.int (nI (lc_ns (st_B S))), .ref (A 1001), .int (nI (lc_nh (st_B S))), .ref (A 1003), .ref (A 1004), .ref (A 1005), .ref (A 1006), .ref (A 1007), .ref (A 1008), .ref (A 1009), .ref (A 1010), .ref (A 1011), .ref (A 1012), .ref (A 1013), .ref (A 1014), .ref (A 1015), .ref (A 1016), .ref (A 1017), .ref (A 1018), .int (nI (st_pa S)), .int (nI (st_pb S)), .long (st_va S), .long (st_vb S), .int (nI (st_ct S)), .ref (A 1024), .ref (A 1025), .ref (A 1026), .ref (A 1027), .ref (A 1028)])) := by rw [hC_154_4]; rw [va_up_ne _ _ (by decide)]; exact f1000w
                        have f1001w_c154_4 : C_154_4 1001 = some (.inl (E.2.1 0, 160, .inl (upd fk (nI (10 * lc_ns (st_B S) + k)).toNatClampNeg (nI (lc_w (lc_nat a) (lc_nat b) k))))) := by rw [hC_154_4]; exact va_up_self _ _ _
                        have hn1 : ∀ z, z < 10 * lc_ns (st_B S) → (upd fk (nI (10 * lc_ns (st_B S) + k)).toNatClampNeg (nI (lc_w (lc_nat a) (lc_nat b) k))) z = g1 z := fun z hz => by rw [nI_clamp (by omega), pk_un (by omega)]; exact hf1 z hz
                        have hn2 : ∀ q, q < k + 1 → (upd fk (nI (10 * lc_ns (st_B S) + k)).toNatClampNeg (nI (lc_w (lc_nat a) (lc_nat b) k))) (10 * lc_ns (st_B S) + q) = nI (lc_w (lc_nat a) (lc_nat b) q) := fun q hq => by
                          rw [nI_clamp (by omega)]
                          by_cases e : q = k
                          · rw [e, pk_us]
                          · rw [pk_un (by omega)]; exact hf2 q (by omega)
                        obtain ⟨x_155, ex_155⟩ : ∃ y : Int32, y = nI k + 1 := ⟨_, rfl⟩
                        refine lv_iinc (v := x_155) (lv' := [(6, .int x_155), (0, .ref (A 1000)), (1, .long a), (3, .long b)]) hx hb dX8_set_155 hl (k := 3) rfl (by rw [ex_155]; rfl) (by decide) rfl (fun ls hl => ?_)
                        refine lv_goto (tgt := 109) hx hb dX8_set_158 (by decide) ?_
                        exact ih_loop_109 (k + 1) x_155 (upd fk (nI (10 * lc_ns (st_B S) + k)).toNatClampNeg (nI (lc_w (lc_nat a) (lc_nat b) k))) (by omega) (by omega) (by rw [ex_155, nI_1]) hn1 hn2 C_154_4 f1000w_c154_4 f1001w_c154_4 ((fun r h1 => by rw [hC_154_4, va_up_ne _ _ h1]; exact hbase r h1)) _ _ _ hP hS (lv_sub hl [1, 2, 3, 0] rfl)
                      · have h5 : k < 5 := by rw [show (5 : Int32) = nI 5 from rfl, nI_leI (by decide) (by omega)] at c_133; omega
                        refine lv_lload_n hx hb dX8_set_136 rfl (lv_at hl 1 rfl) ?_
                        refine lv_goto (tgt := 141) hx hb dX8_set_137 (by decide) ?_
                        refine lv_bipush (v := 7) hx hb dX8_set_141 (by decide) ?_
                        refine lv_iload hx hb dX8_set_143 (lv_at hl 3 rfl) ?_
                        refine lv_iconst (v := 5) hx hb dX8_set_145 (by decide) ?_
                        refine lv_irem hx hb dX8_set_146 (by decide) ?_
                        refine wg_topi (y := nI (k % 5)) (lm_rem5 k hk9) ?_
                        refine lv_imul hx hb dX8_set_147 ?_
                        refine wg_topi (y := nI (7 * (k % 5))) (by rw [show (7 : Int32) = nI 7 from rfl, pk_mul]) ?_
                        refine lv_lshr (v := a >>> ((nI (7 * (k % 5))).toInt64 &&& 63)) hx hb dX8_set_148 rfl ?_
                        refine lv_ldc2 (v := 127) hx hb hown (hts _ tb_643) dX8_set_149 ?_
                        refine lv_land hx hb dX8_set_152 ?_
                        refine wg_topl (y := lN (lc_w (lc_nat a) (lc_nat b) k)) ((congrArg (fun z => (z >>> ((nI (7 * (k % 5))).toInt64 &&& 63)) &&& 127) ea).trans (lm_wa hgood.1.1 h5)) ?_
                        refine lv_l2i (v := (lN (lc_w (lc_nat a) (lc_nat b) k)).toInt32) hx hb dX8_set_153 rfl ?_
                        refine wg_topi (y := nI (lc_w (lc_nat a) (lc_nat b) k)) (lc_l2i _) ?_
                        refine wg_ist F hP hS f1001w (vp_in_nI (by omega) (by decide)) dX8_set_154 (fun H locs hP hS => ?_)
                        obtain ⟨C_154_5, hC_154_5⟩ : ∃ z : wg_C, z = va_up Cw 1001 (some (.inl (E.2.1 0, 160, .inl (upd fk (nI (10 * lc_ns (st_B S) + k)).toNatClampNeg (nI (lc_w (lc_nat a) (lc_nat b) k)))))) := ⟨_, rfl⟩
                        have hP : wg_P E A C_154_5 H := by rw [hC_154_5]; exact hP
                        have f1000w_c154_5 : C_154_5 1000 = some (.inr (8, [.int (nI (lc_ns (st_B S))), .ref (A 1001), .int (nI (lc_nh (st_B S))), .ref (A 1003), .ref (A 1004), .ref (A 1005), .ref (A 1006), .ref (A 1007), .ref (A 1008), .ref (A 1009), .ref (A 1010), .ref (A 1011), .ref (A 1012), .ref (A 1013), .ref (A 1014), .ref (A 1015), .ref (A 1016), .ref (A 1017), .ref (A 1018), .int (nI (st_pa S)), .int (nI (st_pb S)), .long (st_va S), .long (st_vb S), .int (nI (st_ct S)), .ref (A 1024), .ref (A 1025), .ref (A 1026), .ref (A 1027), .ref (A 1028)])) := by rw [hC_154_5]; rw [va_up_ne _ _ (by decide)]; exact f1000w
                        have f1001w_c154_5 : C_154_5 1001 = some (.inl (E.2.1 0, 160, .inl (upd fk (nI (10 * lc_ns (st_B S) + k)).toNatClampNeg (nI (lc_w (lc_nat a) (lc_nat b) k))))) := by rw [hC_154_5]; exact va_up_self _ _ _
                        have hn1 : ∀ z, z < 10 * lc_ns (st_B S) → (upd fk (nI (10 * lc_ns (st_B S) + k)).toNatClampNeg (nI (lc_w (lc_nat a) (lc_nat b) k))) z = g1 z := fun z hz => by rw [nI_clamp (by omega), pk_un (by omega)]; exact hf1 z hz
                        have hn2 : ∀ q, q < k + 1 → (upd fk (nI (10 * lc_ns (st_B S) + k)).toNatClampNeg (nI (lc_w (lc_nat a) (lc_nat b) k))) (10 * lc_ns (st_B S) + q) = nI (lc_w (lc_nat a) (lc_nat b) q) := fun q hq => by
                          rw [nI_clamp (by omega)]
                          by_cases e : q = k
                          · rw [e, pk_us]
                          · rw [pk_un (by omega)]; exact hf2 q (by omega)
                        obtain ⟨x_155, ex_155⟩ : ∃ y : Int32, y = nI k + 1 := ⟨_, rfl⟩
                        refine lv_iinc (v := x_155) (lv' := [(6, .int x_155), (0, .ref (A 1000)), (1, .long a), (3, .long b)]) hx hb dX8_set_155 hl (k := 3) rfl (by rw [ex_155]; rfl) (by decide) rfl (fun ls hl => ?_)
                        refine lv_goto (tgt := 109) hx hb dX8_set_158 (by decide) ?_
                        exact ih_loop_109 (k + 1) x_155 (upd fk (nI (10 * lc_ns (st_B S) + k)).toNatClampNeg (nI (lc_w (lc_nat a) (lc_nat b) k))) (by omega) (by omega) (by rw [ex_155, nI_1]) hn1 hn2 C_154_5 f1000w_c154_5 f1001w_c154_5 ((fun r h1 => by rw [hC_154_5, va_up_ne _ _ h1]; exact hbase r h1)) _ _ _ hP hS (lv_sub hl [1, 2, 3, 0] rfl)
                exact loop_109 _ 0 0 g1 (Nat.lt_succ_self _) (by omega) rfl (fun z _ => rfl) (fun q hq => absurd hq (Nat.not_lt_zero _)) C mo m1 (fun r _ => rfl) _ _ _ hP hS (lv_sub hl [1, 2, 3, 0] rfl)
              · have hns : ¬ lc_ns (st_B S) < 16 := by rw [show (16 : Int32) = nI 16 from rfl, nI_eq (by omega) (by decide)] at c_100; omega
                have hop : op_set S a b = (-3, S) := by unfold op_set; rw [if_pos hwell, if_neg hns]
                refine lv_bipush (v := (-3)) hx hb dX8_set_103 (by decide) ?_
                exact wg_iret F hP hS hr hlk (⟨rfl, by rw [hop], by rw [hop]; exact hM, fun _ _ => rfl⟩) dX8_set_105
            · have hbad : ¬ (((lc_nat a) < 2 ^ 35 ∧ (lc_nat b) < 2 ^ 35) ∧ ∀ q, q < 10 → lc_w (lc_nat a) (lc_nat b) q ≤ 100) := by
                rcases hy with ⟨h1, _⟩ | ⟨_, h2⟩
                · rw [h1] at c_89; exact absurd c_89 (by decide)
                · exact h2
              have hop : op_set S a b = (-1, S) := by unfold op_set; exact if_neg (fun q => hbad (by have := lm_well.mpr q; exact ⟨⟨this.1, this.2.1⟩, this.2.2⟩))
              refine lv_iconst (v := (-1)) hx hb dX8_set_92 (by decide) ?_
              exact wg_iret F hP hS hr hlk (⟨rfl, by rw [hop], by rw [hop]; exact hM, fun _ _ => rfl⟩) dX8_set_93
          · have hk9 : k < 10 := by rw [show (10 : Int32) = nI 10 from rfl, nI_leI (by decide) (by omega)] at c_36; omega
            refine lv_iload hx hb dX8_set_39 (lv_at hl 3 rfl) ?_
            refine lv_if_eq (tgt := 78) hx hb dX8_set_41 (by decide) (fun c_41 => ?_) (fun c_41 => ?_)
            · have hbad : ¬ (((lc_nat a) < 2 ^ 35 ∧ (lc_nat b) < 2 ^ 35) ∧ ∀ q, q < 10 → lc_w (lc_nat a) (lc_nat b) q ≤ 100) := by
                rcases hy with ⟨h1, _⟩ | ⟨_, h2⟩
                · rw [h1] at c_41; exact absurd c_41 (by decide)
                · exact h2
              refine lv_iconst (v := 0) hx hb dX8_set_78 (by decide) ?_
              have hnew : ((0 : Int32) = 1 ∧ ((lc_nat a) < 2 ^ 35 ∧ (lc_nat b) < 2 ^ 35) ∧ ∀ q, q < (k + 1) → lc_w (lc_nat a) (lc_nat b) q ≤ 100) ∨ ((0 : Int32) = 0 ∧ ¬ (((lc_nat a) < 2 ^ 35 ∧ (lc_nat b) < 2 ^ 35) ∧ ∀ q, q < 10 → lc_w (lc_nat a) (lc_nat b) q ≤ 100)) := Or.inr ⟨rfl, hbad⟩
              refine lv_istore (lv' := [(5, .int 0), (0, .ref (A 1000)), (1, .long a), (3, .long b), (6, .int (nI k))]) hx hb dX8_set_79 hl (by decide) rfl (fun ls hl => ?_)
              obtain ⟨x_81, ex_81⟩ : ∃ y : Int32, y = nI k + 1 := ⟨_, rfl⟩
              refine lv_iinc (v := x_81) (lv' := [(6, .int x_81), (5, .int 0), (0, .ref (A 1000)), (1, .long a), (3, .long b)]) hx hb dX8_set_81 hl (k := 4) rfl (by rw [ex_81]; rfl) (by decide) rfl (fun ls hl => ?_)
              refine lv_goto (tgt := 32) hx hb dX8_set_84 (by decide) ?_
              exact ih_loop_32 (k + 1) 0 x_81 (by omega) (by omega) hnew (by rw [ex_81, nI_1]) _ _ _ hP hS (lv_sub hl [2, 3, 4, 1, 0] rfl)
            · have hgood : ((lc_nat a) < 2 ^ 35 ∧ (lc_nat b) < 2 ^ 35) ∧ ∀ q, q < k → lc_w (lc_nat a) (lc_nat b) q ≤ 100 := by
                rcases hy with ⟨_, h1⟩ | ⟨h1, _⟩
                · exact h1
                · exact absurd h1 c_41
              refine lv_iload hx hb dX8_set_44 (lv_at hl 4 rfl) ?_
              refine lv_iconst (v := 5) hx hb dX8_set_46 (by decide) ?_
              refine lv_icmp_ge (tgt := 54) hx hb dX8_set_47 (by decide) (fun c_47 => ?_) (fun c_47 => ?_)
              · have h5 : ¬ k < 5 := by rw [show (5 : Int32) = nI 5 from rfl, nI_leI (by decide) (by omega)] at c_47; omega
                refine lv_lload_n hx hb dX8_set_54 rfl (lv_at hl 2 rfl) ?_
                refine lv_bipush (v := 7) hx hb dX8_set_55 (by decide) ?_
                refine lv_iload hx hb dX8_set_57 (lv_at hl 4 rfl) ?_
                refine lv_iconst (v := 5) hx hb dX8_set_59 (by decide) ?_
                refine lv_irem hx hb dX8_set_60 (by decide) ?_
                refine wg_topi (y := nI (k % 5)) (lm_rem5 k hk9) ?_
                refine lv_imul hx hb dX8_set_61 ?_
                refine wg_topi (y := nI (7 * (k % 5))) (by rw [show (7 : Int32) = nI 7 from rfl, pk_mul]) ?_
                refine lv_lshr (v := b >>> ((nI (7 * (k % 5))).toInt64 &&& 63)) hx hb dX8_set_62 rfl ?_
                refine lv_ldc2 (v := 127) hx hb hown (hts _ tb_643) dX8_set_63 ?_
                refine lv_land hx hb dX8_set_66 ?_
                refine wg_topl (y := lN (lc_w (lc_nat a) (lc_nat b) k)) ((congrArg (fun z => (z >>> ((nI (7 * (k % 5))).toInt64 &&& 63)) &&& 127) eb).trans (lm_wb hgood.1.2 h5 hk9)) ?_
                refine lv_ldc2 (v := 100) hx hb hown (hts _ tb_644) dX8_set_67 ?_
                refine W.lcmp hx hb dX8_set_70 ?_
                refine lv_if_gt (tgt := 78) hx hb dX8_set_71 (by decide) (fun c_71 => ?_) (fun c_71 => ?_)
                · rw [lg_cmp_gt, lm_w100 (lc_w_lt _ _ _)] at c_71
                  have hbad : ¬ (((lc_nat a) < 2 ^ 35 ∧ (lc_nat b) < 2 ^ 35) ∧ ∀ q, q < 10 → lc_w (lc_nat a) (lc_nat b) q ≤ 100) := fun q => by have := q.2 k hk9; omega
                  refine lv_iconst (v := 0) hx hb dX8_set_78 (by decide) ?_
                  have hnew : ((0 : Int32) = 1 ∧ ((lc_nat a) < 2 ^ 35 ∧ (lc_nat b) < 2 ^ 35) ∧ ∀ q, q < (k + 1) → lc_w (lc_nat a) (lc_nat b) q ≤ 100) ∨ ((0 : Int32) = 0 ∧ ¬ (((lc_nat a) < 2 ^ 35 ∧ (lc_nat b) < 2 ^ 35) ∧ ∀ q, q < 10 → lc_w (lc_nat a) (lc_nat b) q ≤ 100)) := Or.inr ⟨rfl, hbad⟩
                  refine lv_istore (lv' := [(5, .int 0), (0, .ref (A 1000)), (1, .long a), (3, .long b), (6, .int (nI k))]) hx hb dX8_set_79 hl (by decide) rfl (fun ls hl => ?_)
                  obtain ⟨x_81, ex_81⟩ : ∃ y : Int32, y = nI k + 1 := ⟨_, rfl⟩
                  refine lv_iinc (v := x_81) (lv' := [(6, .int x_81), (5, .int 0), (0, .ref (A 1000)), (1, .long a), (3, .long b)]) hx hb dX8_set_81 hl (k := 4) rfl (by rw [ex_81]; rfl) (by decide) rfl (fun ls hl => ?_)
                  refine lv_goto (tgt := 32) hx hb dX8_set_84 (by decide) ?_
                  exact ih_loop_32 (k + 1) 0 x_81 (by omega) (by omega) hnew (by rw [ex_81, nI_1]) _ _ _ hP hS (lv_sub hl [2, 3, 4, 1, 0] rfl)
                · rw [lg_cmp_gt, lm_w100 (lc_w_lt _ _ _)] at c_71
                  refine lv_iconst (v := 1) hx hb dX8_set_74 (by decide) ?_
                  refine lv_goto (tgt := 79) hx hb dX8_set_75 (by decide) ?_
                  have hnew : ((1 : Int32) = 1 ∧ ((lc_nat a) < 2 ^ 35 ∧ (lc_nat b) < 2 ^ 35) ∧ ∀ q, q < (k + 1) → lc_w (lc_nat a) (lc_nat b) q ≤ 100) ∨ ((1 : Int32) = 0 ∧ ¬ (((lc_nat a) < 2 ^ 35 ∧ (lc_nat b) < 2 ^ 35) ∧ ∀ q, q < 10 → lc_w (lc_nat a) (lc_nat b) q ≤ 100)) := Or.inl ⟨rfl, hgood.1, fun q hq => by
                    rcases (show q < k ∨ q = k by omega) with e | e
                    · exact hgood.2 q e
                    · rw [e]; omega⟩
                  refine lv_istore (lv' := [(5, .int 1), (0, .ref (A 1000)), (1, .long a), (3, .long b), (6, .int (nI k))]) hx hb dX8_set_79 hl (by decide) rfl (fun ls hl => ?_)
                  obtain ⟨x_81, ex_81⟩ : ∃ y : Int32, y = nI k + 1 := ⟨_, rfl⟩
                  refine lv_iinc (v := x_81) (lv' := [(6, .int x_81), (5, .int 1), (0, .ref (A 1000)), (1, .long a), (3, .long b)]) hx hb dX8_set_81 hl (k := 4) rfl (by rw [ex_81]; rfl) (by decide) rfl (fun ls hl => ?_)
                  refine lv_goto (tgt := 32) hx hb dX8_set_84 (by decide) ?_
                  exact ih_loop_32 (k + 1) 1 x_81 (by omega) (by omega) hnew (by rw [ex_81, nI_1]) _ _ _ hP hS (lv_sub hl [2, 3, 4, 1, 0] rfl)
              · have h5 : k < 5 := by rw [show (5 : Int32) = nI 5 from rfl, nI_leI (by decide) (by omega)] at c_47; omega
                refine lv_lload_n hx hb dX8_set_50 rfl (lv_at hl 1 rfl) ?_
                refine lv_goto (tgt := 55) hx hb dX8_set_51 (by decide) ?_
                refine lv_bipush (v := 7) hx hb dX8_set_55 (by decide) ?_
                refine lv_iload hx hb dX8_set_57 (lv_at hl 4 rfl) ?_
                refine lv_iconst (v := 5) hx hb dX8_set_59 (by decide) ?_
                refine lv_irem hx hb dX8_set_60 (by decide) ?_
                refine wg_topi (y := nI (k % 5)) (lm_rem5 k hk9) ?_
                refine lv_imul hx hb dX8_set_61 ?_
                refine wg_topi (y := nI (7 * (k % 5))) (by rw [show (7 : Int32) = nI 7 from rfl, pk_mul]) ?_
                refine lv_lshr (v := a >>> ((nI (7 * (k % 5))).toInt64 &&& 63)) hx hb dX8_set_62 rfl ?_
                refine lv_ldc2 (v := 127) hx hb hown (hts _ tb_643) dX8_set_63 ?_
                refine lv_land hx hb dX8_set_66 ?_
                refine wg_topl (y := lN (lc_w (lc_nat a) (lc_nat b) k)) ((congrArg (fun z => (z >>> ((nI (7 * (k % 5))).toInt64 &&& 63)) &&& 127) ea).trans (lm_wa hgood.1.1 h5)) ?_
                refine lv_ldc2 (v := 100) hx hb hown (hts _ tb_644) dX8_set_67 ?_
                refine W.lcmp hx hb dX8_set_70 ?_
                refine lv_if_gt (tgt := 78) hx hb dX8_set_71 (by decide) (fun c_71 => ?_) (fun c_71 => ?_)
                · rw [lg_cmp_gt, lm_w100 (lc_w_lt _ _ _)] at c_71
                  have hbad : ¬ (((lc_nat a) < 2 ^ 35 ∧ (lc_nat b) < 2 ^ 35) ∧ ∀ q, q < 10 → lc_w (lc_nat a) (lc_nat b) q ≤ 100) := fun q => by have := q.2 k hk9; omega
                  refine lv_iconst (v := 0) hx hb dX8_set_78 (by decide) ?_
                  have hnew : ((0 : Int32) = 1 ∧ ((lc_nat a) < 2 ^ 35 ∧ (lc_nat b) < 2 ^ 35) ∧ ∀ q, q < (k + 1) → lc_w (lc_nat a) (lc_nat b) q ≤ 100) ∨ ((0 : Int32) = 0 ∧ ¬ (((lc_nat a) < 2 ^ 35 ∧ (lc_nat b) < 2 ^ 35) ∧ ∀ q, q < 10 → lc_w (lc_nat a) (lc_nat b) q ≤ 100)) := Or.inr ⟨rfl, hbad⟩
                  refine lv_istore (lv' := [(5, .int 0), (0, .ref (A 1000)), (1, .long a), (3, .long b), (6, .int (nI k))]) hx hb dX8_set_79 hl (by decide) rfl (fun ls hl => ?_)
                  obtain ⟨x_81, ex_81⟩ : ∃ y : Int32, y = nI k + 1 := ⟨_, rfl⟩
                  refine lv_iinc (v := x_81) (lv' := [(6, .int x_81), (5, .int 0), (0, .ref (A 1000)), (1, .long a), (3, .long b)]) hx hb dX8_set_81 hl (k := 4) rfl (by rw [ex_81]; rfl) (by decide) rfl (fun ls hl => ?_)
                  refine lv_goto (tgt := 32) hx hb dX8_set_84 (by decide) ?_
                  exact ih_loop_32 (k + 1) 0 x_81 (by omega) (by omega) hnew (by rw [ex_81, nI_1]) _ _ _ hP hS (lv_sub hl [2, 3, 4, 1, 0] rfl)
                · rw [lg_cmp_gt, lm_w100 (lc_w_lt _ _ _)] at c_71
                  refine lv_iconst (v := 1) hx hb dX8_set_74 (by decide) ?_
                  refine lv_goto (tgt := 79) hx hb dX8_set_75 (by decide) ?_
                  have hnew : ((1 : Int32) = 1 ∧ ((lc_nat a) < 2 ^ 35 ∧ (lc_nat b) < 2 ^ 35) ∧ ∀ q, q < (k + 1) → lc_w (lc_nat a) (lc_nat b) q ≤ 100) ∨ ((1 : Int32) = 0 ∧ ¬ (((lc_nat a) < 2 ^ 35 ∧ (lc_nat b) < 2 ^ 35) ∧ ∀ q, q < 10 → lc_w (lc_nat a) (lc_nat b) q ≤ 100)) := Or.inl ⟨rfl, hgood.1, fun q hq => by
                    rcases (show q < k ∨ q = k by omega) with e | e
                    · exact hgood.2 q e
                    · rw [e]; omega⟩
                  refine lv_istore (lv' := [(5, .int 1), (0, .ref (A 1000)), (1, .long a), (3, .long b), (6, .int (nI k))]) hx hb dX8_set_79 hl (by decide) rfl (fun ls hl => ?_)
                  obtain ⟨x_81, ex_81⟩ : ∃ y : Int32, y = nI k + 1 := ⟨_, rfl⟩
                  refine lv_iinc (v := x_81) (lv' := [(6, .int x_81), (5, .int 1), (0, .ref (A 1000)), (1, .long a), (3, .long b)]) hx hb dX8_set_81 hl (k := 4) rfl (by rw [ex_81]; rfl) (by decide) rfl (fun ls hl => ?_)
                  refine lv_goto (tgt := 32) hx hb dX8_set_84 (by decide) ?_
                  exact ih_loop_32 (k + 1) 1 x_81 (by omega) (by omega) hnew (by rw [ex_81, nI_1]) _ _ _ hP hS (lv_sub hl [2, 3, 4, 1, 0] rfl)
      exact loop_32 _ 0 1 0 (Nat.lt_succ_self _) (by omega) hy0 rfl _ _ _ hP hS (lv_sub hl [2, 3, 4, 1, 0] rfl)
set_option maxHeartbeats 4000000 in
set_option maxRecDepth 100000 in
theorem c_X8_head (l : Launch) (E : wg_E) (A : Nat → Nat) (C : wg_C) (S : lc_S) (ht : Int32) (p0 : Int64) (o x : Int32) (rt : Int64) (hM : lm E A C S) (hI : lc_inv S)  : Met l yX8_head (wg_ws yX8_head cX8_head 8 (some .int)) (wg_rm 2 0 0) (wg_Pc E A C [.ref (A 1000), .int ht, .long p0, .int o, .int x, .long rt]) (wg_Qi E (fun r A1 C1 => A = A1 ∧ r = (op_head S ht p0 o x rt).1 ∧ lm E A C1 (op_head S ht p0 o x rt).2 ∧ ∀ q, q < 1000 → C1 q = C q)) 0 0 (wg_A E) := by
  refine wg_met (by decide) (Nat.le_of_ble_eq_true rfl) ?_
  intro p e s m below meth c ls F hr hlk hnm hP hS hl
  have F : wg_F p m c cX8_head 8 s ([.ref (A 1000), .int ht, .long p0, .int o, .int x, .long rt] : List Value).toArray "LightChecksModel" E := F
  have hx := F.1
  have hb := F.2.1
  have hml := F.2.2.1
  have hown := F.2.2.2.1
  have hts := F.2.2.2.2.1
  have hl : lv_has ls 8 [(0, .ref (A 1000)), (1, .int ht), (2, .long p0), (4, .int o), (5, .int x), (6, .long rt)] := hl
  obtain ⟨mo, ⟨g1, m1, r1⟩, ⟨g3, m3, r3⟩, ⟨g4, m4, r4⟩, ⟨g5, m5, r5⟩, ⟨g6, m6, r6⟩, ⟨g7, m7, r7⟩, ⟨g8, m8, r8⟩, ⟨g9, m9, r9⟩, ⟨g10, m10, r10⟩, ⟨g11, m11, r11⟩, ⟨g12, m12, r12⟩, ⟨g13, m13, r13⟩, ⟨g14, m14, r14⟩, ⟨g15, m15, r15⟩, ⟨g16, m16, r16⟩, ⟨g17, m17, r17⟩, ⟨g18, m18, r18⟩, ⟨g24, m24, r24⟩, ⟨g25, m25, r25⟩, ⟨g26, m26, r26⟩, ⟨g27, m27⟩, ⟨g28, m28, r28⟩⟩ := id hM
  obtain ⟨iok, ⟨itm, itm3a, itm3b⟩, icl, igv, ipa, ipb, ipab⟩ := id hI
  have ins := iok.1
  have inh := iok.2.1
  refine lv_iload_n hx hb dX8_head_0 rfl (lv_at hl 1 rfl) ?_
  refine lv_i2l (v := ht.toInt64) hx hb dX8_head_1 rfl ?_
  refine lv_lconst (v := 0) hx hb dX8_head_2 (by decide) ?_
  refine lv_ldc2 (v := 100000) hx hb hown (hts _ tb_649) dX8_head_3 ?_
  refine wg_ci hS (wg_rS (As := [.long ht.toInt64, .long 0, .long 100000]) (rest := []) F hP hS (c_X8_in l E A C _ _ _) ok_X8_in tb_532 rfl rfl ⟨Nat.le_of_ble_eq_true rfl, Nat.le_of_ble_eq_true rfl⟩ rfl hl.1 rfl (Nat.le_of_ble_eq_true rfl) dX8_head_6 ⟨Nat.le_of_ble_eq_true rfl, Nat.le_of_ble_eq_true rfl⟩) (fun r_6 A1 C_6 H locs w_6 hP hS => ?_)
  obtain ⟨w_6, rfl, rfl⟩ := w_6
  simp only [lc_i2l, show (0 : Int64).toInt = 0 from by decide, show (1 : Int64).toInt = 1 from by decide, show (2 : Int64).toInt = 2 from by decide, show (3 : Int64).toInt = 3 from by decide, show (4 : Int64).toInt = 4 from by decide, show (5 : Int64).toInt = 5 from by decide, show (7 : Int64).toInt = 7 from by decide, show (9 : Int64).toInt = 9 from by decide, show (10 : Int64).toInt = 10 from by decide, show (15 : Int64).toInt = 15 from by decide, show (60 : Int64).toInt = 60 from by decide, show (1000 : Int64).toInt = 1000 from by decide, show (100000 : Int64).toInt = 100000 from by decide, show (1000000 : Int64).toInt = 1000000 from by decide] at w_6
  refine lv_if_eq (tgt := 30) hx hb dX8_head_9 (by decide) (fun c_9 => ?_) (fun c_9 => ?_)
  · have hxh : lc_ix ht 100001 = none := lc_ix_no (by have q_9 := lc_if1 w_6 c_9; omega)
    have hop : op_head S ht p0 o x rt = (-1, S) := by unfold op_head; first | (rw [hxh]; done) | (rw [hxh]; rfl)
    refine lv_iconst (v := (-1)) hx hb dX8_head_30 (by decide) ?_
    exact wg_iret F hP hS hr hlk (⟨rfl, by rw [hop], by rw [hop]; exact hM, fun _ _ => rfl⟩) dX8_head_31
  · have q_9 := lc_if2 w_6 c_9
    obtain ⟨h, hh31, eh⟩ := nI_of (x := ht) (by rw [Int32.lt_iff_toInt_lt, lc_t0i]; omega)
    have th : ht.toInt = (h : Int) := by rw [eh, nI_toInt hh31]
    have hxh : lc_ix ht 100001 = some h := by rw [eh]; exact lc_ix_in (by omega) (by decide)
    refine lv_aload_n hx hb dX8_head_12 rfl (lv_at hl 0 rfl) ?_
    refine lv_iload hx hb dX8_head_13 (lv_at hl 3 rfl) ?_
    refine wg_ci hS (wg_rV (As := [.int o]) (rest := []) F hP hS (c_X8_isSet l E A C S o hM hI) ok_X8_isSet tb_650 rfl rfl ⟨Nat.le_of_ble_eq_true rfl, Nat.le_of_ble_eq_true rfl⟩ mo rfl rfl rfl hl.1 rfl (Nat.le_of_ble_eq_true rfl) dX8_head_15 ⟨Nat.le_of_ble_eq_true rfl, Nat.le_of_ble_eq_true rfl⟩) (fun r_15 A1 C_15 H locs w_15 hP hS => ?_)
    obtain ⟨w_15, rfl, rfl⟩ := w_15
    rcases hx_i : lc_ix o (lc_ns (st_B S)) with _ | i
    · have w2_i : r_15 = 0 := lc_ixr0 w_15 hx_i
      refine lv_if_eq (tgt := 30) hx hb dX8_head_18 (by decide) (fun c_18 => ?_) (fun c_18 => ?_)
      · have hop : op_head S ht p0 o x rt = (-1, S) := by unfold op_head; first | (rw [hxh, hx_i]; done) | (rw [hxh, hx_i]; rfl)
        refine lv_iconst (v := (-1)) hx hb dX8_head_30 (by decide) ?_
        exact wg_iret F hP hS hr hlk (⟨rfl, by rw [hop], by rw [hop]; exact hM, fun _ _ => rfl⟩) dX8_head_31
      · exact absurd w2_i c_18
    · have w2_i : r_15 = 1 := lc_ixr1 w_15 hx_i
      obtain ⟨hi, ei, ti⟩ := lc_ix_some hx_i
      refine lv_if_eq (tgt := 30) hx hb dX8_head_18 (by decide) (fun c_18 => ?_) (fun c_18 => ?_)
      · exact absurd (w2_i.symm.trans c_18) (by decide)
      · refine lv_aload_n hx hb dX8_head_21 rfl (lv_at hl 0 rfl) ?_
        refine lv_iload hx hb dX8_head_22 (lv_at hl 4 rfl) ?_
        refine wg_ci hS (wg_rV (As := [.int x]) (rest := []) F hP hS (c_X8_isSet l E A C S x hM hI) ok_X8_isSet tb_650 rfl rfl ⟨Nat.le_of_ble_eq_true rfl, Nat.le_of_ble_eq_true rfl⟩ mo rfl rfl rfl hl.1 rfl (Nat.le_of_ble_eq_true rfl) dX8_head_24 ⟨Nat.le_of_ble_eq_true rfl, Nat.le_of_ble_eq_true rfl⟩) (fun r_24 A1 C_24 H locs w_24 hP hS => ?_)
        obtain ⟨w_24, rfl, rfl⟩ := w_24
        rcases hx_k : lc_ix x (lc_ns (st_B S)) with _ | k
        · have w2_k : r_24 = 0 := lc_ixr0 w_24 hx_k
          refine lv_if_ne (tgt := 32) hx hb dX8_head_27 (by decide) (fun c_27 => ?_) (fun c_27 => ?_)
          · exact absurd w2_k c_27
          · have hop : op_head S ht p0 o x rt = (-1, S) := by unfold op_head; first | (rw [hxh, hx_i, hx_k]; done) | (rw [hxh, hx_i, hx_k]; rfl)
            refine lv_iconst (v := (-1)) hx hb dX8_head_30 (by decide) ?_
            exact wg_iret F hP hS hr hlk (⟨rfl, by rw [hop], by rw [hop]; exact hM, fun _ _ => rfl⟩) dX8_head_31
        · have w2_k : r_24 = 1 := lc_ixr1 w_24 hx_k
          obtain ⟨hk, ek, tk⟩ := lc_ix_some hx_k
          refine lv_if_ne (tgt := 32) hx hb dX8_head_27 (by decide) (fun c_27 => ?_) (fun c_27 => ?_)
          · refine lv_aload_n hx hb dX8_head_32 rfl (lv_at hl 0 rfl) ?_
            refine wg_get F hP mo rfl iw_X8 2 (by decide) tb_551 rfl rfl dX8_head_33 ?_
            refine lv_bipush (v := 60) hx hb dX8_head_36 (by decide) ?_
            refine lv_icmp_ne (tgt := 44) hx hb dX8_head_38 (by decide) (fun c_38 => ?_) (fun c_38 => ?_)
            · have hnh : lc_nh (st_B S) < 60 := by rw [show (60 : Int32) = nI 60 from rfl, nI_eq (by omega) (by decide)] at c_38; omega
              have hop : op_head S ht p0 o x rt = (nI (lc_nh (st_B S)), up_B S (up_hd (st_B S) h p0 i k rt)) := by unfold op_head; rw [hxh, hx_i, hx_k]; exact if_pos hnh
              refine lv_aload_n hx hb dX8_head_44 rfl (lv_at hl 0 rfl) ?_
              refine wg_get F hP mo rfl iw_X8 3 (by decide) tb_552 rfl rfl dX8_head_45 ?_
              refine lv_aload_n hx hb dX8_head_48 rfl (lv_at hl 0 rfl) ?_
              refine wg_get F hP mo rfl iw_X8 2 (by decide) tb_551 rfl rfl dX8_head_49 ?_
              refine lv_iload_n hx hb dX8_head_52 rfl (lv_at hl 1 rfl) ?_
              refine wg_topi (y := nI h) eh ?_
              refine wg_ist F hP hS m3 (vp_in_nI (by omega) (by decide)) dX8_head_53 (fun H locs hP hS => ?_)
              obtain ⟨C_53, hC_53⟩ : ∃ z : wg_C, z = va_up C 1003 (some (.inl (E.2.1 0, 60, .inl (upd g3 (nI (lc_nh (st_B S))).toNatClampNeg (nI h))))) := ⟨_, rfl⟩
              have hP : wg_P E A C_53 H := by rw [hC_53]; exact hP
              have mo_c53 : C_53 1000 = some (.inr (8, [.int (nI (lc_ns (st_B S))), .ref (A 1001), .int (nI (lc_nh (st_B S))), .ref (A 1003), .ref (A 1004), .ref (A 1005), .ref (A 1006), .ref (A 1007), .ref (A 1008), .ref (A 1009), .ref (A 1010), .ref (A 1011), .ref (A 1012), .ref (A 1013), .ref (A 1014), .ref (A 1015), .ref (A 1016), .ref (A 1017), .ref (A 1018), .int (nI (st_pa S)), .int (nI (st_pb S)), .long (st_va S), .long (st_vb S), .int (nI (st_ct S)), .ref (A 1024), .ref (A 1025), .ref (A 1026), .ref (A 1027), .ref (A 1028)])) := by rw [hC_53]; rw [va_up_ne _ _ (by decide)]; exact mo
              have m3_c53 : C_53 1003 = some (.inl (E.2.1 0, 60, .inl (upd g3 (nI (lc_nh (st_B S))).toNatClampNeg (nI h)))) := by rw [hC_53]; exact va_up_self _ _ _
              have m4_c53 : C_53 1004 = some (.inl (E.2.1 1, 60, .inr (.inl g4))) := by rw [hC_53]; rw [va_up_ne _ _ (by decide)]; exact m4
              have m5_c53 : C_53 1005 = some (.inl (E.2.1 0, 60, .inl g5)) := by rw [hC_53]; rw [va_up_ne _ _ (by decide)]; exact m5
              have m6_c53 : C_53 1006 = some (.inl (E.2.1 0, 60, .inl g6)) := by rw [hC_53]; rw [va_up_ne _ _ (by decide)]; exact m6
              have m7_c53 : C_53 1007 = some (.inl (E.2.1 1, 60, .inr (.inl g7))) := by rw [hC_53]; rw [va_up_ne _ _ (by decide)]; exact m7
              have m8_c53 : C_53 1008 = some (.inl (E.2.1 0, 60, .inl g8)) := by rw [hC_53]; rw [va_up_ne _ _ (by decide)]; exact m8
              refine lv_aload_n hx hb dX8_head_54 rfl (lv_at hl 0 rfl) ?_
              refine wg_get F hP mo_c53 rfl iw_X8 4 (by decide) tb_553 rfl rfl dX8_head_55 ?_
              refine lv_aload_n hx hb dX8_head_58 rfl (lv_at hl 0 rfl) ?_
              refine wg_get F hP mo_c53 rfl iw_X8 2 (by decide) tb_551 rfl rfl dX8_head_59 ?_
              refine lv_lload_n hx hb dX8_head_62 rfl (lv_at hl 2 rfl) ?_
              refine wg_lst F hP hS m4_c53 (vp_in_nI (by omega) (by decide)) dX8_head_63 (fun H locs hP hS => ?_)
              obtain ⟨C_63, hC_63⟩ : ∃ z : wg_C, z = va_up C_53 1004 (some (.inl (E.2.1 1, 60, .inr (.inl (vp_updL g4 (nI (lc_nh (st_B S))).toNatClampNeg p0))))) := ⟨_, rfl⟩
              have hP : wg_P E A C_63 H := by rw [hC_63]; exact hP
              have mo_c63 : C_63 1000 = some (.inr (8, [.int (nI (lc_ns (st_B S))), .ref (A 1001), .int (nI (lc_nh (st_B S))), .ref (A 1003), .ref (A 1004), .ref (A 1005), .ref (A 1006), .ref (A 1007), .ref (A 1008), .ref (A 1009), .ref (A 1010), .ref (A 1011), .ref (A 1012), .ref (A 1013), .ref (A 1014), .ref (A 1015), .ref (A 1016), .ref (A 1017), .ref (A 1018), .int (nI (st_pa S)), .int (nI (st_pb S)), .long (st_va S), .long (st_vb S), .int (nI (st_ct S)), .ref (A 1024), .ref (A 1025), .ref (A 1026), .ref (A 1027), .ref (A 1028)])) := by rw [hC_63]; rw [va_up_ne _ _ (by decide)]; exact mo_c53
              have m3_c63 : C_63 1003 = some (.inl (E.2.1 0, 60, .inl (upd g3 (nI (lc_nh (st_B S))).toNatClampNeg (nI h)))) := by rw [hC_63]; rw [va_up_ne _ _ (by decide)]; exact m3_c53
              have m4_c63 : C_63 1004 = some (.inl (E.2.1 1, 60, .inr (.inl (vp_updL g4 (nI (lc_nh (st_B S))).toNatClampNeg p0)))) := by rw [hC_63]; exact va_up_self _ _ _
              have m5_c63 : C_63 1005 = some (.inl (E.2.1 0, 60, .inl g5)) := by rw [hC_63]; rw [va_up_ne _ _ (by decide)]; exact m5_c53
              have m6_c63 : C_63 1006 = some (.inl (E.2.1 0, 60, .inl g6)) := by rw [hC_63]; rw [va_up_ne _ _ (by decide)]; exact m6_c53
              have m7_c63 : C_63 1007 = some (.inl (E.2.1 1, 60, .inr (.inl g7))) := by rw [hC_63]; rw [va_up_ne _ _ (by decide)]; exact m7_c53
              have m8_c63 : C_63 1008 = some (.inl (E.2.1 0, 60, .inl g8)) := by rw [hC_63]; rw [va_up_ne _ _ (by decide)]; exact m8_c53
              refine lv_aload_n hx hb dX8_head_64 rfl (lv_at hl 0 rfl) ?_
              refine wg_get F hP mo_c63 rfl iw_X8 5 (by decide) tb_554 rfl rfl dX8_head_65 ?_
              refine lv_aload_n hx hb dX8_head_68 rfl (lv_at hl 0 rfl) ?_
              refine wg_get F hP mo_c63 rfl iw_X8 2 (by decide) tb_551 rfl rfl dX8_head_69 ?_
              refine lv_iload hx hb dX8_head_72 (lv_at hl 3 rfl) ?_
              refine wg_topi (y := nI i) ei ?_
              refine wg_ist F hP hS m5_c63 (vp_in_nI (by omega) (by decide)) dX8_head_74 (fun H locs hP hS => ?_)
              obtain ⟨C_74, hC_74⟩ : ∃ z : wg_C, z = va_up C_63 1005 (some (.inl (E.2.1 0, 60, .inl (upd g5 (nI (lc_nh (st_B S))).toNatClampNeg (nI i))))) := ⟨_, rfl⟩
              have hP : wg_P E A C_74 H := by rw [hC_74]; exact hP
              have mo_c74 : C_74 1000 = some (.inr (8, [.int (nI (lc_ns (st_B S))), .ref (A 1001), .int (nI (lc_nh (st_B S))), .ref (A 1003), .ref (A 1004), .ref (A 1005), .ref (A 1006), .ref (A 1007), .ref (A 1008), .ref (A 1009), .ref (A 1010), .ref (A 1011), .ref (A 1012), .ref (A 1013), .ref (A 1014), .ref (A 1015), .ref (A 1016), .ref (A 1017), .ref (A 1018), .int (nI (st_pa S)), .int (nI (st_pb S)), .long (st_va S), .long (st_vb S), .int (nI (st_ct S)), .ref (A 1024), .ref (A 1025), .ref (A 1026), .ref (A 1027), .ref (A 1028)])) := by rw [hC_74]; rw [va_up_ne _ _ (by decide)]; exact mo_c63
              have m3_c74 : C_74 1003 = some (.inl (E.2.1 0, 60, .inl (upd g3 (nI (lc_nh (st_B S))).toNatClampNeg (nI h)))) := by rw [hC_74]; rw [va_up_ne _ _ (by decide)]; exact m3_c63
              have m4_c74 : C_74 1004 = some (.inl (E.2.1 1, 60, .inr (.inl (vp_updL g4 (nI (lc_nh (st_B S))).toNatClampNeg p0)))) := by rw [hC_74]; rw [va_up_ne _ _ (by decide)]; exact m4_c63
              have m5_c74 : C_74 1005 = some (.inl (E.2.1 0, 60, .inl (upd g5 (nI (lc_nh (st_B S))).toNatClampNeg (nI i)))) := by rw [hC_74]; exact va_up_self _ _ _
              have m6_c74 : C_74 1006 = some (.inl (E.2.1 0, 60, .inl g6)) := by rw [hC_74]; rw [va_up_ne _ _ (by decide)]; exact m6_c63
              have m7_c74 : C_74 1007 = some (.inl (E.2.1 1, 60, .inr (.inl g7))) := by rw [hC_74]; rw [va_up_ne _ _ (by decide)]; exact m7_c63
              have m8_c74 : C_74 1008 = some (.inl (E.2.1 0, 60, .inl g8)) := by rw [hC_74]; rw [va_up_ne _ _ (by decide)]; exact m8_c63
              refine lv_aload_n hx hb dX8_head_75 rfl (lv_at hl 0 rfl) ?_
              refine wg_get F hP mo_c74 rfl iw_X8 6 (by decide) tb_555 rfl rfl dX8_head_76 ?_
              refine lv_aload_n hx hb dX8_head_79 rfl (lv_at hl 0 rfl) ?_
              refine wg_get F hP mo_c74 rfl iw_X8 2 (by decide) tb_551 rfl rfl dX8_head_80 ?_
              refine lv_iload hx hb dX8_head_83 (lv_at hl 4 rfl) ?_
              refine wg_topi (y := nI k) ek ?_
              refine wg_ist F hP hS m6_c74 (vp_in_nI (by omega) (by decide)) dX8_head_85 (fun H locs hP hS => ?_)
              obtain ⟨C_85, hC_85⟩ : ∃ z : wg_C, z = va_up C_74 1006 (some (.inl (E.2.1 0, 60, .inl (upd g6 (nI (lc_nh (st_B S))).toNatClampNeg (nI k))))) := ⟨_, rfl⟩
              have hP : wg_P E A C_85 H := by rw [hC_85]; exact hP
              have mo_c85 : C_85 1000 = some (.inr (8, [.int (nI (lc_ns (st_B S))), .ref (A 1001), .int (nI (lc_nh (st_B S))), .ref (A 1003), .ref (A 1004), .ref (A 1005), .ref (A 1006), .ref (A 1007), .ref (A 1008), .ref (A 1009), .ref (A 1010), .ref (A 1011), .ref (A 1012), .ref (A 1013), .ref (A 1014), .ref (A 1015), .ref (A 1016), .ref (A 1017), .ref (A 1018), .int (nI (st_pa S)), .int (nI (st_pb S)), .long (st_va S), .long (st_vb S), .int (nI (st_ct S)), .ref (A 1024), .ref (A 1025), .ref (A 1026), .ref (A 1027), .ref (A 1028)])) := by rw [hC_85]; rw [va_up_ne _ _ (by decide)]; exact mo_c74
              have m3_c85 : C_85 1003 = some (.inl (E.2.1 0, 60, .inl (upd g3 (nI (lc_nh (st_B S))).toNatClampNeg (nI h)))) := by rw [hC_85]; rw [va_up_ne _ _ (by decide)]; exact m3_c74
              have m4_c85 : C_85 1004 = some (.inl (E.2.1 1, 60, .inr (.inl (vp_updL g4 (nI (lc_nh (st_B S))).toNatClampNeg p0)))) := by rw [hC_85]; rw [va_up_ne _ _ (by decide)]; exact m4_c74
              have m5_c85 : C_85 1005 = some (.inl (E.2.1 0, 60, .inl (upd g5 (nI (lc_nh (st_B S))).toNatClampNeg (nI i)))) := by rw [hC_85]; rw [va_up_ne _ _ (by decide)]; exact m5_c74
              have m6_c85 : C_85 1006 = some (.inl (E.2.1 0, 60, .inl (upd g6 (nI (lc_nh (st_B S))).toNatClampNeg (nI k)))) := by rw [hC_85]; exact va_up_self _ _ _
              have m7_c85 : C_85 1007 = some (.inl (E.2.1 1, 60, .inr (.inl g7))) := by rw [hC_85]; rw [va_up_ne _ _ (by decide)]; exact m7_c74
              have m8_c85 : C_85 1008 = some (.inl (E.2.1 0, 60, .inl g8)) := by rw [hC_85]; rw [va_up_ne _ _ (by decide)]; exact m8_c74
              refine lv_aload_n hx hb dX8_head_86 rfl (lv_at hl 0 rfl) ?_
              refine wg_get F hP mo_c85 rfl iw_X8 7 (by decide) tb_556 rfl rfl dX8_head_87 ?_
              refine lv_aload_n hx hb dX8_head_90 rfl (lv_at hl 0 rfl) ?_
              refine wg_get F hP mo_c85 rfl iw_X8 2 (by decide) tb_551 rfl rfl dX8_head_91 ?_
              refine lv_lload hx hb dX8_head_94 (lv_at hl 5 rfl) ?_
              refine wg_lst F hP hS m7_c85 (vp_in_nI (by omega) (by decide)) dX8_head_96 (fun H locs hP hS => ?_)
              obtain ⟨C_96, hC_96⟩ : ∃ z : wg_C, z = va_up C_85 1007 (some (.inl (E.2.1 1, 60, .inr (.inl (vp_updL g7 (nI (lc_nh (st_B S))).toNatClampNeg rt))))) := ⟨_, rfl⟩
              have hP : wg_P E A C_96 H := by rw [hC_96]; exact hP
              have mo_c96 : C_96 1000 = some (.inr (8, [.int (nI (lc_ns (st_B S))), .ref (A 1001), .int (nI (lc_nh (st_B S))), .ref (A 1003), .ref (A 1004), .ref (A 1005), .ref (A 1006), .ref (A 1007), .ref (A 1008), .ref (A 1009), .ref (A 1010), .ref (A 1011), .ref (A 1012), .ref (A 1013), .ref (A 1014), .ref (A 1015), .ref (A 1016), .ref (A 1017), .ref (A 1018), .int (nI (st_pa S)), .int (nI (st_pb S)), .long (st_va S), .long (st_vb S), .int (nI (st_ct S)), .ref (A 1024), .ref (A 1025), .ref (A 1026), .ref (A 1027), .ref (A 1028)])) := by rw [hC_96]; rw [va_up_ne _ _ (by decide)]; exact mo_c85
              have m3_c96 : C_96 1003 = some (.inl (E.2.1 0, 60, .inl (upd g3 (nI (lc_nh (st_B S))).toNatClampNeg (nI h)))) := by rw [hC_96]; rw [va_up_ne _ _ (by decide)]; exact m3_c85
              have m4_c96 : C_96 1004 = some (.inl (E.2.1 1, 60, .inr (.inl (vp_updL g4 (nI (lc_nh (st_B S))).toNatClampNeg p0)))) := by rw [hC_96]; rw [va_up_ne _ _ (by decide)]; exact m4_c85
              have m5_c96 : C_96 1005 = some (.inl (E.2.1 0, 60, .inl (upd g5 (nI (lc_nh (st_B S))).toNatClampNeg (nI i)))) := by rw [hC_96]; rw [va_up_ne _ _ (by decide)]; exact m5_c85
              have m6_c96 : C_96 1006 = some (.inl (E.2.1 0, 60, .inl (upd g6 (nI (lc_nh (st_B S))).toNatClampNeg (nI k)))) := by rw [hC_96]; rw [va_up_ne _ _ (by decide)]; exact m6_c85
              have m7_c96 : C_96 1007 = some (.inl (E.2.1 1, 60, .inr (.inl (vp_updL g7 (nI (lc_nh (st_B S))).toNatClampNeg rt)))) := by rw [hC_96]; exact va_up_self _ _ _
              have m8_c96 : C_96 1008 = some (.inl (E.2.1 0, 60, .inl g8)) := by rw [hC_96]; rw [va_up_ne _ _ (by decide)]; exact m8_c85
              refine lv_aload_n hx hb dX8_head_97 rfl (lv_at hl 0 rfl) ?_
              refine wg_get F hP mo_c96 rfl iw_X8 8 (by decide) tb_557 rfl rfl dX8_head_98 ?_
              refine lv_aload_n hx hb dX8_head_101 rfl (lv_at hl 0 rfl) ?_
              refine wg_get F hP mo_c96 rfl iw_X8 2 (by decide) tb_551 rfl rfl dX8_head_102 ?_
              refine lv_iconst (v := 0) hx hb dX8_head_105 (by decide) ?_
              refine wg_topi (y := nI 0) rfl ?_
              refine wg_ist F hP hS m8_c96 (vp_in_nI (by omega) (by decide)) dX8_head_106 (fun H locs hP hS => ?_)
              obtain ⟨C_106, hC_106⟩ : ∃ z : wg_C, z = va_up C_96 1008 (some (.inl (E.2.1 0, 60, .inl (upd g8 (nI (lc_nh (st_B S))).toNatClampNeg (nI 0))))) := ⟨_, rfl⟩
              have hP : wg_P E A C_106 H := by rw [hC_106]; exact hP
              have mo_c106 : C_106 1000 = some (.inr (8, [.int (nI (lc_ns (st_B S))), .ref (A 1001), .int (nI (lc_nh (st_B S))), .ref (A 1003), .ref (A 1004), .ref (A 1005), .ref (A 1006), .ref (A 1007), .ref (A 1008), .ref (A 1009), .ref (A 1010), .ref (A 1011), .ref (A 1012), .ref (A 1013), .ref (A 1014), .ref (A 1015), .ref (A 1016), .ref (A 1017), .ref (A 1018), .int (nI (st_pa S)), .int (nI (st_pb S)), .long (st_va S), .long (st_vb S), .int (nI (st_ct S)), .ref (A 1024), .ref (A 1025), .ref (A 1026), .ref (A 1027), .ref (A 1028)])) := by rw [hC_106]; rw [va_up_ne _ _ (by decide)]; exact mo_c96
              have m3_c106 : C_106 1003 = some (.inl (E.2.1 0, 60, .inl (upd g3 (nI (lc_nh (st_B S))).toNatClampNeg (nI h)))) := by rw [hC_106]; rw [va_up_ne _ _ (by decide)]; exact m3_c96
              have m4_c106 : C_106 1004 = some (.inl (E.2.1 1, 60, .inr (.inl (vp_updL g4 (nI (lc_nh (st_B S))).toNatClampNeg p0)))) := by rw [hC_106]; rw [va_up_ne _ _ (by decide)]; exact m4_c96
              have m5_c106 : C_106 1005 = some (.inl (E.2.1 0, 60, .inl (upd g5 (nI (lc_nh (st_B S))).toNatClampNeg (nI i)))) := by rw [hC_106]; rw [va_up_ne _ _ (by decide)]; exact m5_c96
              have m6_c106 : C_106 1006 = some (.inl (E.2.1 0, 60, .inl (upd g6 (nI (lc_nh (st_B S))).toNatClampNeg (nI k)))) := by rw [hC_106]; rw [va_up_ne _ _ (by decide)]; exact m6_c96
              have m7_c106 : C_106 1007 = some (.inl (E.2.1 1, 60, .inr (.inl (vp_updL g7 (nI (lc_nh (st_B S))).toNatClampNeg rt)))) := by rw [hC_106]; rw [va_up_ne _ _ (by decide)]; exact m7_c96
              have m8_c106 : C_106 1008 = some (.inl (E.2.1 0, 60, .inl (upd g8 (nI (lc_nh (st_B S))).toNatClampNeg (nI 0)))) := by rw [hC_106]; exact va_up_self _ _ _
              refine lv_aload_n hx hb dX8_head_107 rfl (lv_at hl 0 rfl) ?_
              refine lv_dup hx hb dX8_head_108 rfl ?_
              refine wg_get F hP mo_c106 rfl iw_X8 2 (by decide) tb_551 rfl rfl dX8_head_109 ?_
              refine lv_iconst (v := 1) hx hb dX8_head_112 (by decide) ?_
              refine lv_iadd hx hb dX8_head_113 ?_
              refine wg_topi (y := nI (lc_nh (st_B S) + 1)) (by rw [nI_1]) ?_
              refine wg_put F hP hS mo_c106 rfl iw_X8 tyX8_ok nmX8 2 (by decide) tb_551 rfl rfl rfl (Nat.le_of_ble_eq_true rfl) dX8_head_114 (fun H locs hP hS => ?_)
              obtain ⟨C_114, hC_114⟩ : ∃ z : wg_C, z = va_up C_106 1000 (some (.inr (8, [.int (nI (lc_ns (st_B S))), .ref (A 1001), .int (nI (lc_nh (st_B S) + 1)), .ref (A 1003), .ref (A 1004), .ref (A 1005), .ref (A 1006), .ref (A 1007), .ref (A 1008), .ref (A 1009), .ref (A 1010), .ref (A 1011), .ref (A 1012), .ref (A 1013), .ref (A 1014), .ref (A 1015), .ref (A 1016), .ref (A 1017), .ref (A 1018), .int (nI (st_pa S)), .int (nI (st_pb S)), .long (st_va S), .long (st_vb S), .int (nI (st_ct S)), .ref (A 1024), .ref (A 1025), .ref (A 1026), .ref (A 1027), .ref (A 1028)]))) := ⟨_, rfl⟩
              have hP : wg_P E A C_114 H := by rw [hC_114]; exact hP
              have mo_c114 : C_114 1000 = some (.inr (8, [.int (nI (lc_ns (st_B S))), .ref (A 1001), .int (nI (lc_nh (st_B S) + 1)), .ref (A 1003), .ref (A 1004), .ref (A 1005), .ref (A 1006), .ref (A 1007), .ref (A 1008), .ref (A 1009), .ref (A 1010), .ref (A 1011), .ref (A 1012), .ref (A 1013), .ref (A 1014), .ref (A 1015), .ref (A 1016), .ref (A 1017), .ref (A 1018), .int (nI (st_pa S)), .int (nI (st_pb S)), .long (st_va S), .long (st_vb S), .int (nI (st_ct S)), .ref (A 1024), .ref (A 1025), .ref (A 1026), .ref (A 1027), .ref (A 1028)])) := by rw [hC_114]; exact va_up_self _ _ _
              have m3_c114 : C_114 1003 = some (.inl (E.2.1 0, 60, .inl (upd g3 (nI (lc_nh (st_B S))).toNatClampNeg (nI h)))) := by rw [hC_114]; rw [va_up_ne _ _ (by decide)]; exact m3_c106
              have m4_c114 : C_114 1004 = some (.inl (E.2.1 1, 60, .inr (.inl (vp_updL g4 (nI (lc_nh (st_B S))).toNatClampNeg p0)))) := by rw [hC_114]; rw [va_up_ne _ _ (by decide)]; exact m4_c106
              have m5_c114 : C_114 1005 = some (.inl (E.2.1 0, 60, .inl (upd g5 (nI (lc_nh (st_B S))).toNatClampNeg (nI i)))) := by rw [hC_114]; rw [va_up_ne _ _ (by decide)]; exact m5_c106
              have m6_c114 : C_114 1006 = some (.inl (E.2.1 0, 60, .inl (upd g6 (nI (lc_nh (st_B S))).toNatClampNeg (nI k)))) := by rw [hC_114]; rw [va_up_ne _ _ (by decide)]; exact m6_c106
              have m7_c114 : C_114 1007 = some (.inl (E.2.1 1, 60, .inr (.inl (vp_updL g7 (nI (lc_nh (st_B S))).toNatClampNeg rt)))) := by rw [hC_114]; rw [va_up_ne _ _ (by decide)]; exact m7_c106
              have m8_c114 : C_114 1008 = some (.inl (E.2.1 0, 60, .inl (upd g8 (nI (lc_nh (st_B S))).toNatClampNeg (nI 0)))) := by rw [hC_114]; rw [va_up_ne _ _ (by decide)]; exact m8_c106
              have hfr : ∀ r, r ≠ 1000 → r ≠ 1003 → r ≠ 1004 → r ≠ 1005 → r ≠ 1006 → r ≠ 1007 → r ≠ 1008 → C_114 r = C r := fun r h0 h1 h2 h3 h4 h5 h6 => by rw [hC_114, va_up_ne _ _ h0, hC_106, va_up_ne _ _ h6, hC_96, va_up_ne _ _ h5, hC_85, va_up_ne _ _ h4, hC_74, va_up_ne _ _ h3, hC_63, va_up_ne _ _ h2, hC_53, va_up_ne _ _ h1]
              refine lv_aload_n hx hb dX8_head_117 rfl (lv_at hl 0 rfl) ?_
              refine wg_get F hP mo_c114 rfl iw_X8 2 (by decide) tb_551 rfl rfl dX8_head_118 ?_
              refine lv_iconst (v := 1) hx hb dX8_head_121 (by decide) ?_
              refine lv_isub hx hb dX8_head_122 ?_
              refine wg_topi (y := nI (lc_nh (st_B S))) (nI_m1 _) ?_
              exact wg_iret F hP hS hr hlk (⟨rfl, by rw [hop], by rw [hop]; exact ⟨mo_c114, hM.2.1.same (hfr 1001 (by decide) (by decide) (by decide) (by decide) (by decide) (by decide) (by decide)), ⟨_, m3_c114, (by rw [nI_clamp (by omega)]; exact lm_extN r3)⟩, ⟨_, m4_c114, (by rw [nI_clamp (by omega)]; exact lm_extL r4)⟩, ⟨_, m5_c114, (by rw [nI_clamp (by omega)]; exact lm_extN r5)⟩, ⟨_, m6_c114, (by rw [nI_clamp (by omega)]; exact lm_extN r6)⟩, ⟨_, m7_c114, (by rw [nI_clamp (by omega)]; exact lm_extL r7)⟩, ⟨_, m8_c114, (by rw [nI_clamp (by omega)]; exact lm_extN r8)⟩, hM.2.2.2.2.2.2.2.2.1.same (hfr 1009 (by decide) (by decide) (by decide) (by decide) (by decide) (by decide) (by decide)), hM.2.2.2.2.2.2.2.2.2.1.same (hfr 1010 (by decide) (by decide) (by decide) (by decide) (by decide) (by decide) (by decide)), hM.2.2.2.2.2.2.2.2.2.2.1.same (hfr 1011 (by decide) (by decide) (by decide) (by decide) (by decide) (by decide) (by decide)), hM.2.2.2.2.2.2.2.2.2.2.2.1.same (hfr 1012 (by decide) (by decide) (by decide) (by decide) (by decide) (by decide) (by decide)), hM.2.2.2.2.2.2.2.2.2.2.2.2.1.same (hfr 1013 (by decide) (by decide) (by decide) (by decide) (by decide) (by decide) (by decide)), hM.2.2.2.2.2.2.2.2.2.2.2.2.2.1.same (hfr 1014 (by decide) (by decide) (by decide) (by decide) (by decide) (by decide) (by decide)), hM.2.2.2.2.2.2.2.2.2.2.2.2.2.2.1.same (hfr 1015 (by decide) (by decide) (by decide) (by decide) (by decide) (by decide) (by decide)), hM.2.2.2.2.2.2.2.2.2.2.2.2.2.2.2.1.same (hfr 1016 (by decide) (by decide) (by decide) (by decide) (by decide) (by decide) (by decide)), hM.2.2.2.2.2.2.2.2.2.2.2.2.2.2.2.2.1.same (hfr 1017 (by decide) (by decide) (by decide) (by decide) (by decide) (by decide) (by decide)), hM.2.2.2.2.2.2.2.2.2.2.2.2.2.2.2.2.2.1.same (hfr 1018 (by decide) (by decide) (by decide) (by decide) (by decide) (by decide) (by decide)), hM.2.2.2.2.2.2.2.2.2.2.2.2.2.2.2.2.2.2.1.same (hfr 1024 (by decide) (by decide) (by decide) (by decide) (by decide) (by decide) (by decide)), hM.2.2.2.2.2.2.2.2.2.2.2.2.2.2.2.2.2.2.2.1.same (hfr 1025 (by decide) (by decide) (by decide) (by decide) (by decide) (by decide) (by decide)), hM.2.2.2.2.2.2.2.2.2.2.2.2.2.2.2.2.2.2.2.2.1.same (hfr 1026 (by decide) (by decide) (by decide) (by decide) (by decide) (by decide) (by decide)), hM.2.2.2.2.2.2.2.2.2.2.2.2.2.2.2.2.2.2.2.2.2.1.same (hfr 1027 (by decide) (by decide) (by decide) (by decide) (by decide) (by decide) (by decide)), hM.2.2.2.2.2.2.2.2.2.2.2.2.2.2.2.2.2.2.2.2.2.2.same (hfr 1028 (by decide) (by decide) (by decide) (by decide) (by decide) (by decide) (by decide))⟩, fun q hq => hfr q (by omega) (by omega) (by omega) (by omega) (by omega) (by omega) (by omega)⟩) dX8_head_123
            · have hnh : ¬ lc_nh (st_B S) < 60 := by rw [show (60 : Int32) = nI 60 from rfl, nI_eq (by omega) (by decide)] at c_38; omega
              have hop : op_head S ht p0 o x rt = (-3, S) := by unfold op_head; rw [hxh, hx_i, hx_k]; exact if_neg hnh
              refine lv_bipush (v := (-3)) hx hb dX8_head_41 (by decide) ?_
              exact wg_iret F hP hS hr hlk (⟨rfl, by rw [hop], by rw [hop]; exact hM, fun _ _ => rfl⟩) dX8_head_43
          · exact absurd (w2_k.symm.trans c_27) (by decide)
