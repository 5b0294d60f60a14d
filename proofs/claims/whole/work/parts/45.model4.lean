theorem lm_upN {g : Nat → Int32} {f : Nat → Nat} {N i w : Nat} (h : ∀ k, k < N → g k = nI (f k)) : ∀ k, k < N → upd g i (nI w) k = nI (va_up f i w k) := by
  intro k hk
  by_cases e : k = i
  · subst e; rw [pk_us, va_up_self]
  · rw [pk_un e, va_up_ne _ _ e]; exact h k hk
theorem lm_upI {g f : Nat → Int32} {N i : Nat} {w : Int32} (h : ∀ k, k < N → g k = f k) : ∀ k, k < N → upd g i w k = va_up f i w k := by
  intro k hk
  by_cases e : k = i
  · subst e; rw [pk_us, va_up_self]
  · rw [pk_un e, va_up_ne _ _ e]; exact h k hk
theorem lm_uLs (g : Nat → Int64) (i : Nat) (w : Int64) : vp_updL g i w i = w := if_pos rfl
theorem lm_uLn (g : Nat → Int64) {i k : Nat} (w : Int64) (e : k ≠ i) : vp_updL g i w k = g k := if_neg e
theorem lm_upL {g f : Nat → Int64} {N i : Nat} {w : Int64} (h : ∀ k, k < N → g k = f k) : ∀ k, k < N → vp_updL g i w k = vp_updL f i w k := by
  intro k hk
  by_cases e : k = i
  · subst e; rw [lm_uLs, lm_uLs]
  · rw [lm_uLn _ _ e, lm_uLn _ _ e]; exact h k hk
theorem lm_put2 {W : Nat} {g : Nat → Int32} {cn : Nat → Nat} {cg : Nat → Nat → Nat} {i p h m : Nat} (hne : ∀ i2 q, i2 ≠ i → q < W → W * i2 + q ≠ W * i + p) (hW : ∀ i2, i2 < 4 → cn i2 ≤ W) (hr : ∀ i2, i2 < 4 → ∀ j, j < cn i2 → g (W * i2 + j) = nI (cg i2 j)) (hm : ∀ q, q < m → q ≠ p → q < cn i) :
    ∀ i2, i2 < 4 → ∀ q, q < va_up cn i m i2 → upd g (W * i + p) (nI h) (W * i2 + q) = nI (va_up cg i (va_up (cg i) p h) i2 q) := by
  intro i2 hi2 q hq
  by_cases e : i2 = i
  · subst e
    rw [va_up_self] at hq ⊢
    by_cases z : q = p
    · subst z; rw [pk_us, va_up_self]
    · rw [pk_un (by omega), va_up_ne _ _ z]; exact hr i2 hi2 q (hm q hq z)
  · rw [va_up_ne _ _ e] at hq ⊢
    rw [pk_un (hne i2 q e (Nat.lt_of_lt_of_le hq (hW i2 hi2)))]
    exact hr i2 hi2 q hq
theorem lm_kg_fit {n mo : Nat} {g : Nat → Nat} {h : Nat} (q : n + 1 ≤ mo) : lc_kg n mo g h = va_up g n h := by
  funext k
  exact if_pos q
theorem lm_keepstep {h0 fk : Nat → Int32} {b k o : Nat} (hk1 : 1 ≤ k) (hf : ∀ a, fk a = if b + 1 ≤ a ∧ a < b + k then h0 (a + o) else h0 a) : ∀ a, upd fk (b + k) (fk (b + k + o)) a = if b + 1 ≤ a ∧ a < b + (k + 1) then h0 (a + o) else h0 a := by
  intro a
  by_cases e : a = b + k
  · subst e
    rw [pk_us, hf, if_neg (by omega), if_pos (by omega)]
  · rw [pk_un e, hf]
    by_cases q : b + 1 ≤ a ∧ a < b + k
    · rw [if_pos q, if_pos (by omega)]
    · rw [if_neg q, if_neg (by omega)]
theorem lm_keepover {g fk : Nat → Int32} {cn : Nat → Nat} {cg : Nat → Nat → Nat} {i h mo : Nat} (hi : i < 4) (hW : ∀ i2, i2 < 4 → cn i2 ≤ 10) (hr : ∀ i2, i2 < 4 → ∀ j, j < cn i2 → g (11 * i2 + j) = nI (cg i2 j)) (h2 : 2 ≤ mo) (hmo : ¬ cn i + 1 ≤ mo)
    (hf : ∀ a, fk a = if 11 * i + 1 ≤ a ∧ a < 11 * i + mo then upd g (11 * i + cn i) (nI h) (a + (cn i + 1 - mo)) else upd g (11 * i + cn i) (nI h) a) :
    ∀ i2, i2 < 4 → ∀ q, q < va_up cn i (lc_kn (cn i) mo) i2 → fk (11 * i2 + q) = nI (va_up cg i (lc_kg (cn i) mo (cg i) h) i2 q) := by
  have hp := lm_put2 (W := 11) (g := g) (cn := cn) (cg := cg) (i := i) (p := cn i) (h := h) (m := cn i + 1) (fun i2 q hne hq => by have := hW i hi; omega) (fun i2 hi2 => by have := hW i2 hi2; omega) hr (fun q h1 h2 => by omega)
  have hn := hW i hi
  intro i2 hi2 q hq
  by_cases e : i2 = i
  · subst e
    rw [va_up_self] at hq ⊢
    have hp2 := hp i2 hi2
    rw [va_up_self, va_up_self] at hp2
    unfold lc_kn at hq
    rw [if_neg hmo] at hq
    unfold lc_kg
    rw [if_neg hmo, hf]
    by_cases z : q = 0
    · rw [if_neg (by omega), if_pos z, z]
      exact hp2 0 (by omega)
    · rw [if_pos (by omega), if_neg z, show 11 * i2 + q + (cn i2 + 1 - mo) = 11 * i2 + (q + (cn i2 + 1 - mo)) by omega]
      exact hp2 _ (by omega)
  · have hp2 := hp i2 hi2 q
    rw [va_up_ne _ _ e] at hq
    rw [va_up_ne _ _ e, va_up_ne _ _ e] at hp2
    have hw := hW i2 hi2
    rw [va_up_ne _ _ e, hf, if_neg (by omega)]
    exact hp2 hq
set_option maxHeartbeats 4000000 in
set_option maxRecDepth 100000 in
theorem c_X8_refuse (l : Launch) (E : wg_E) (A : Nat → Nat) (C : wg_C) (S : lc_S) (i : Nat) (y x : Int32) (hM : lm E A C S) (hI : lc_inv S) (hi : i < 4)  : Met l yX8_refuse (wg_ws yX8_refuse cX8_refuse 4 (some .int)) (wg_rm 0 0 0) (wg_Pc E A C [.ref (A 1000), .int (nI i), .int y, .int x]) (wg_Qi E (fun r A1 C1 => r = -10 - y ∧ A = A1 ∧ (∀ q, q ≠ 1013 → q ≠ 1014 → C1 q = C q) ∧ lm E A C1 (st_ref S i y x))) 0 0 (wg_A E) := by
  refine wg_met (by decide) (Nat.le_of_ble_eq_true rfl) ?_
  intro p e s m below meth c ls F hr hlk hnm hP hS hl
  have F : wg_F p m c cX8_refuse 4 s ([.ref (A 1000), .int (nI i), .int y, .int x] : List Value).toArray "LightChecksModel" E := F
  have hx := F.1
  have hb := F.2.1
  have hml := F.2.2.1
  have hown := F.2.2.2.1
  have hts := F.2.2.2.2.1
  have hl : lv_has ls 4 [(0, .ref (A 1000)), (1, .int (nI i)), (2, .int y), (3, .int x)] := hl
  obtain ⟨mo, ⟨g1, m1, r1⟩, ⟨g3, m3, r3⟩, ⟨g4, m4, r4⟩, ⟨g5, m5, r5⟩, ⟨g6, m6, r6⟩, ⟨g7, m7, r7⟩, ⟨g8, m8, r8⟩, ⟨g9, m9, r9⟩, ⟨g10, m10, r10⟩, ⟨g11, m11, r11⟩, ⟨g12, m12, r12⟩, ⟨g13, m13, r13⟩, ⟨g14, m14, r14⟩, ⟨g15, m15, r15⟩, ⟨g16, m16, r16⟩, ⟨g17, m17, r17⟩, ⟨g18, m18, r18⟩, ⟨g24, m24, r24⟩, ⟨g25, m25, r25⟩, ⟨g26, m26, r26⟩, ⟨g27, m27⟩, ⟨g28, m28, r28⟩⟩ := id hM
  obtain ⟨iok, ⟨itm, itm3a, itm3b⟩, icl, igv, ipa, ipb, ipab⟩ := id hI
  have ins := iok.1
  have inh := iok.2.1
  refine lv_aload_n hx hb dX8_refuse_0 rfl (lv_at hl 0 rfl) ?_
  refine wg_get F hP mo rfl iw_X8 13 (by decide) tb_562 rfl rfl dX8_refuse_1 ?_
  refine lv_iload_n hx hb dX8_refuse_4 rfl (lv_at hl 1 rfl) ?_
  refine lv_iload_n hx hb dX8_refuse_5 rfl (lv_at hl 2 rfl) ?_
  refine wg_ist F hP hS m13 (vp_in_nI hi (by decide)) dX8_refuse_6 (fun H locs hP hS => ?_)
  obtain ⟨C_6, hC_6⟩ : ∃ z : wg_C, z = va_up C 1013 (some (.inl (E.2.1 0, 4, .inl (upd g13 (nI i).toNatClampNeg y)))) := ⟨_, rfl⟩
  have hP : wg_P E A C_6 H := by rw [hC_6]; exact hP
  have mo_c6 : C_6 1000 = some (.inr (8, [.int (nI (lc_ns (st_B S))), .ref (A 1001), .int (nI (lc_nh (st_B S))), .ref (A 1003), .ref (A 1004), .ref (A 1005), .ref (A 1006), .ref (A 1007), .ref (A 1008), .ref (A 1009), .ref (A 1010), .ref (A 1011), .ref (A 1012), .ref (A 1013), .ref (A 1014), .ref (A 1015), .ref (A 1016), .ref (A 1017), .ref (A 1018), .int (nI (st_pa S)), .int (nI (st_pb S)), .long (st_va S), .long (st_vb S), .int (nI (st_ct S)), .ref (A 1024), .ref (A 1025), .ref (A 1026), .ref (A 1027), .ref (A 1028)])) := by rw [hC_6]; rw [va_up_ne _ _ (by decide)]; exact mo
  have m13_c6 : C_6 1013 = some (.inl (E.2.1 0, 4, .inl (upd g13 (nI i).toNatClampNeg y))) := by rw [hC_6]; exact va_up_self _ _ _
  have m14_c6 : C_6 1014 = some (.inl (E.2.1 0, 4, .inl g14)) := by rw [hC_6]; rw [va_up_ne _ _ (by decide)]; exact m14
  refine lv_aload_n hx hb dX8_refuse_7 rfl (lv_at hl 0 rfl) ?_
  refine wg_get F hP mo_c6 rfl iw_X8 14 (by decide) tb_563 rfl rfl dX8_refuse_8 ?_
  refine lv_iload_n hx hb dX8_refuse_11 rfl (lv_at hl 1 rfl) ?_
  refine lv_iload_n hx hb dX8_refuse_12 rfl (lv_at hl 3 rfl) ?_
  refine wg_ist F hP hS m14_c6 (vp_in_nI hi (by decide)) dX8_refuse_13 (fun H locs hP hS => ?_)
  obtain ⟨C_13, hC_13⟩ : ∃ z : wg_C, z = va_up C_6 1014 (some (.inl (E.2.1 0, 4, .inl (upd g14 (nI i).toNatClampNeg x)))) := ⟨_, rfl⟩
  have hP : wg_P E A C_13 H := by rw [hC_13]; exact hP
  have mo_c13 : C_13 1000 = some (.inr (8, [.int (nI (lc_ns (st_B S))), .ref (A 1001), .int (nI (lc_nh (st_B S))), .ref (A 1003), .ref (A 1004), .ref (A 1005), .ref (A 1006), .ref (A 1007), .ref (A 1008), .ref (A 1009), .ref (A 1010), .ref (A 1011), .ref (A 1012), .ref (A 1013), .ref (A 1014), .ref (A 1015), .ref (A 1016), .ref (A 1017), .ref (A 1018), .int (nI (st_pa S)), .int (nI (st_pb S)), .long (st_va S), .long (st_vb S), .int (nI (st_ct S)), .ref (A 1024), .ref (A 1025), .ref (A 1026), .ref (A 1027), .ref (A 1028)])) := by rw [hC_13]; rw [va_up_ne _ _ (by decide)]; exact mo_c6
  have m13_c13 : C_13 1013 = some (.inl (E.2.1 0, 4, .inl (upd g13 (nI i).toNatClampNeg y))) := by rw [hC_13]; rw [va_up_ne _ _ (by decide)]; exact m13_c6
  have m14_c13 : C_13 1014 = some (.inl (E.2.1 0, 4, .inl (upd g14 (nI i).toNatClampNeg x))) := by rw [hC_13]; exact va_up_self _ _ _
  have hfr : ∀ r, r ≠ 1013 → r ≠ 1014 → C_13 r = C r := fun r h0 h1 => by rw [hC_13, va_up_ne _ _ h1, hC_6, va_up_ne _ _ h0]
  refine lv_bipush (v := (-10)) hx hb dX8_refuse_14 (by decide) ?_
  refine lv_iload_n hx hb dX8_refuse_16 rfl (lv_at hl 2 rfl) ?_
  refine lv_isub hx hb dX8_refuse_17 ?_
  exact wg_iret F hP hS hr hlk (⟨rfl, rfl, hfr, ⟨(hfr 1000 (by decide) (by decide)).trans hM.1, hM.2.1.same (hfr 1001 (by decide) (by decide)), hM.2.2.1.same (hfr 1003 (by decide) (by decide)), hM.2.2.2.1.same (hfr 1004 (by decide) (by decide)), hM.2.2.2.2.1.same (hfr 1005 (by decide) (by decide)), hM.2.2.2.2.2.1.same (hfr 1006 (by decide) (by decide)), hM.2.2.2.2.2.2.1.same (hfr 1007 (by decide) (by decide)), hM.2.2.2.2.2.2.2.1.same (hfr 1008 (by decide) (by decide)), hM.2.2.2.2.2.2.2.2.1.same (hfr 1009 (by decide) (by decide)), hM.2.2.2.2.2.2.2.2.2.1.same (hfr 1010 (by decide) (by decide)), hM.2.2.2.2.2.2.2.2.2.2.1.same (hfr 1011 (by decide) (by decide)), hM.2.2.2.2.2.2.2.2.2.2.2.1.same (hfr 1012 (by decide) (by decide)), ⟨_, m13_c13, (by rw [nI_clamp (by omega)]; exact lm_upI r13)⟩, ⟨_, m14_c13, (by rw [nI_clamp (by omega)]; exact lm_upI r14)⟩, hM.2.2.2.2.2.2.2.2.2.2.2.2.2.2.1.same (hfr 1015 (by decide) (by decide)), hM.2.2.2.2.2.2.2.2.2.2.2.2.2.2.2.1.same (hfr 1016 (by decide) (by decide)), hM.2.2.2.2.2.2.2.2.2.2.2.2.2.2.2.2.1.same (hfr 1017 (by decide) (by decide)), hM.2.2.2.2.2.2.2.2.2.2.2.2.2.2.2.2.2.1.same (hfr 1018 (by decide) (by decide)), hM.2.2.2.2.2.2.2.2.2.2.2.2.2.2.2.2.2.2.1.same (hfr 1024 (by decide) (by decide)), hM.2.2.2.2.2.2.2.2.2.2.2.2.2.2.2.2.2.2.2.1.same (hfr 1025 (by decide) (by decide)), hM.2.2.2.2.2.2.2.2.2.2.2.2.2.2.2.2.2.2.2.2.1.same (hfr 1026 (by decide) (by decide)), hM.2.2.2.2.2.2.2.2.2.2.2.2.2.2.2.2.2.2.2.2.2.1.same (hfr 1027 (by decide) (by decide)), hM.2.2.2.2.2.2.2.2.2.2.2.2.2.2.2.2.2.2.2.2.2.2.same (hfr 1028 (by decide) (by decide))⟩⟩) dX8_refuse_18
set_option maxHeartbeats 4000000 in
set_option maxRecDepth 100000 in
theorem c_X8_attempt (l : Launch) (E : wg_E) (A : Nat → Nat) (C : wg_C) (S : lc_S) (i j : Nat) (hM : lm E A C S) (hI : lc_inv S) (hi : i < 4) (hj : j < lc_nh (st_B S)) (hcn : st_cn S i ≠ 0)  : Met l yX8_attempt (wg_ws yX8_attempt cX8_attempt 6 (some .int)) (wg_rm 4 0 0) (wg_Pc E A C [.ref (A 1000), .int (nI i), .int (nI j)]) (wg_Qi E (fun r A1 C1 => r = nI (lc_why (st_B S) (st_tm S) (st_t S i) j) ∧ A = A1 ∧ (∀ q, q ≠ 1010 → q ≠ 1011 → C1 q = C q) ∧ lm E A C1 (if lc_why (st_B S) (st_tm S) (st_t S i) j = 0 then st_keep S i j else S))) 0 0 (wg_A E) := by
  refine wg_met (by decide) (Nat.le_of_ble_eq_true rfl) ?_
  intro p e s m below meth c ls F hr hlk hnm hP hS hl
  have F : wg_F p m c cX8_attempt 6 s ([.ref (A 1000), .int (nI i), .int (nI j)] : List Value).toArray "LightChecksModel" E := F
  have hx := F.1
  have hb := F.2.1
  have hml := F.2.2.1
  have hown := F.2.2.2.1
  have hts := F.2.2.2.2.1
  have hl : lv_has ls 6 [(0, .ref (A 1000)), (1, .int (nI i)), (2, .int (nI j))] := hl
  obtain ⟨mo, ⟨g1, m1, r1⟩, ⟨g3, m3, r3⟩, ⟨g4, m4, r4⟩, ⟨g5, m5, r5⟩, ⟨g6, m6, r6⟩, ⟨g7, m7, r7⟩, ⟨g8, m8, r8⟩, ⟨g9, m9, r9⟩, ⟨g10, m10, r10⟩, ⟨g11, m11, r11⟩, ⟨g12, m12, r12⟩, ⟨g13, m13, r13⟩, ⟨g14, m14, r14⟩, ⟨g15, m15, r15⟩, ⟨g16, m16, r16⟩, ⟨g17, m17, r17⟩, ⟨g18, m18, r18⟩, ⟨g24, m24, r24⟩, ⟨g25, m25, r25⟩, ⟨g26, m26, r26⟩, ⟨g27, m27⟩, ⟨g28, m28, r28⟩⟩ := id hM
  obtain ⟨iok, ⟨itm, itm3a, itm3b⟩, icl, igv, ipa, ipb, ipab⟩ := id hI
  have ins := iok.1
  have inh := iok.2.1
  obtain ⟨hc1, hc2⟩ := icl i hi
  have ht := hc2 (st_cn S i - 1) (by omega)
  refine lv_aload_n hx hb dX8_attempt_0 rfl (lv_at hl 0 rfl) ?_
  refine lv_aload_n hx hb dX8_attempt_1 rfl (lv_at hl 0 rfl) ?_
  refine lv_iload_n hx hb dX8_attempt_2 rfl (lv_at hl 1 rfl) ?_
  refine wg_ci hS (wg_rV (As := [.int (nI i)]) (rest := [.ref (A 1000)]) F hP hS (c_X8_trustedOf l E A C S i hM hI hi hcn) ok_X8_trustedOf tb_713 rfl rfl ⟨Nat.le_of_ble_eq_true rfl, Nat.le_of_ble_eq_true rfl⟩ mo rfl rfl rfl hl.1 rfl (Nat.le_of_ble_eq_true rfl) dX8_attempt_3 ⟨Nat.le_of_ble_eq_true rfl, Nat.le_of_ble_eq_true rfl⟩) (fun r_3 A1 C_3 H locs w_3 hP hS => ?_)
  obtain ⟨w_3, rfl, rfl⟩ := w_3
  refine wg_topi (y := nI (st_t S i)) w_3 ?_
  refine lv_iload_n hx hb dX8_attempt_6 rfl (lv_at hl 2 rfl) ?_
  refine wg_ci hS (wg_rV (As := [.int (nI (st_t S i)), .int (nI j)]) (rest := []) F hP hS (c_X8_against l E A C S (st_t S i) j hM hI ht hj) ok_X8_against tb_717 rfl rfl ⟨Nat.le_of_ble_eq_true rfl, Nat.le_of_ble_eq_true rfl⟩ mo rfl rfl rfl hl.1 rfl (Nat.le_of_ble_eq_true rfl) dX8_attempt_7 ⟨Nat.le_of_ble_eq_true rfl, Nat.le_of_ble_eq_true rfl⟩) (fun r_7 A1 C_7 H locs w_7 hP hS => ?_)
  obtain ⟨w_7, rfl, rfl⟩ := w_7
  have hw6 := lc_why_le (st_B S) (st_tm S) (st_t S i) j
  refine wg_topi (y := nI (lc_why (st_B S) (st_tm S) (st_t S i) j)) w_7 ?_
  refine lv_istore_n (lv' := [(3, .int (nI (lc_why (st_B S) (st_tm S) (st_t S i) j))), (0, .ref (A 1000)), (1, .int (nI i)), (2, .int (nI j))]) hx hb dX8_attempt_10 rfl hl (by decide) rfl (fun ls hl => ?_)
  refine lv_iload_n hx hb dX8_attempt_11 rfl (lv_at hl 0 rfl) ?_
  refine lv_if_ne (tgt := 132) hx hb dX8_attempt_12 (by decide) (fun c_12 => ?_) (fun c_12 => ?_)
  · have hy : ¬ lc_why (st_B S) (st_tm S) (st_t S i) j = 0 := fun z => c_12 (by rw [z]; rfl)
    refine lv_iload_n hx hb dX8_attempt_132 rfl (lv_at hl 0 rfl) ?_
    exact wg_iret F hP hS hr hlk (⟨rfl, rfl, fun _ _ _ => rfl, by rw [if_neg hy]; exact hM⟩) dX8_attempt_133
  · have hy : lc_why (st_B S) (st_tm S) (st_t S i) j = 0 := by rw [← nI_0, nI_eq (by omega) (by decide)] at c_12; exact c_12
    refine lv_aload_n hx hb dX8_attempt_15 rfl (lv_at hl 1 rfl) ?_
    refine wg_get F hP mo rfl iw_X8 11 (by decide) tb_560 rfl rfl dX8_attempt_16 ?_
    refine lv_bipush (v := 11) hx hb dX8_attempt_19 (by decide) ?_
    refine lv_iload_n hx hb dX8_attempt_21 rfl (lv_at hl 2 rfl) ?_
    refine lv_imul hx hb dX8_attempt_22 ?_
    refine wg_topi (y := nI (11 * i)) (by rw [show (11 : Int32) = nI 11 from rfl, pk_mul]) ?_
    refine lv_aload_n hx hb dX8_attempt_23 rfl (lv_at hl 1 rfl) ?_
    refine wg_get F hP mo rfl iw_X8 10 (by decide) tb_559 rfl rfl dX8_attempt_24 ?_
    refine lv_iload_n hx hb dX8_attempt_27 rfl (lv_at hl 2 rfl) ?_
    refine wg_ild F hP m10 (vp_in_nI hi (by decide)) dX8_attempt_28 ?_
    refine wg_topi (y := nI (st_cn S i)) ((by rw [nI_clamp (by omega)]; exact r10 i hi)) ?_
    refine lv_iadd hx hb dX8_attempt_29 ?_
    refine wg_topi (y := nI (11 * i + st_cn S i)) (nI_add _ _) ?_
    refine lv_iload_n hx hb dX8_attempt_30 rfl (lv_at hl 3 rfl) ?_
    refine wg_ist F hP hS m11 (vp_in_nI (by omega) (by decide)) dX8_attempt_31 (fun H locs hP hS => ?_)
    obtain ⟨C_31, hC_31⟩ : ∃ z : wg_C, z = va_up C 1011 (some (.inl (E.2.1 0, 44, .inl (upd g11 (nI (11 * i + st_cn S i)).toNatClampNeg (nI j))))) := ⟨_, rfl⟩
    have hP : wg_P E A C_31 H := by rw [hC_31]; exact hP
    have mo_c31 : C_31 1000 = some (.inr (8, [.int (nI (lc_ns (st_B S))), .ref (A 1001), .int (nI (lc_nh (st_B S))), .ref (A 1003), .ref (A 1004), .ref (A 1005), .ref (A 1006), .ref (A 1007), .ref (A 1008), .ref (A 1009), .ref (A 1010), .ref (A 1011), .ref (A 1012), .ref (A 1013), .ref (A 1014), .ref (A 1015), .ref (A 1016), .ref (A 1017), .ref (A 1018), .int (nI (st_pa S)), .int (nI (st_pb S)), .long (st_va S), .long (st_vb S), .int (nI (st_ct S)), .ref (A 1024), .ref (A 1025), .ref (A 1026), .ref (A 1027), .ref (A 1028)])) := by rw [hC_31]; rw [va_up_ne _ _ (by decide)]; exact mo
    have m9_c31 : C_31 1009 = some (.inl (E.2.1 0, 4, .inl g9)) := by rw [hC_31]; rw [va_up_ne _ _ (by decide)]; exact m9
    have m10_c31 : C_31 1010 = some (.inl (E.2.1 0, 4, .inl g10)) := by rw [hC_31]; rw [va_up_ne _ _ (by decide)]; exact m10
    have m11_c31 : C_31 1011 = some (.inl (E.2.1 0, 44, .inl (upd g11 (nI (11 * i + st_cn S i)).toNatClampNeg (nI j)))) := by rw [hC_31]; exact va_up_self _ _ _
    refine lv_aload_n hx hb dX8_attempt_32 rfl (lv_at hl 1 rfl) ?_
    refine wg_get F hP mo_c31 rfl iw_X8 10 (by decide) tb_559 rfl rfl dX8_attempt_33 ?_
    refine lv_iload_n hx hb dX8_attempt_36 rfl (lv_at hl 2 rfl) ?_
    refine lv_dup2_11 hx hb dX8_attempt_37 rfl rfl ?_
    refine wg_ild F hP m10_c31 (vp_in_nI hi (by decide)) dX8_attempt_38 ?_
    refine wg_topi (y := nI (st_cn S i)) ((by rw [nI_clamp (by omega)]; exact r10 i hi)) ?_
    refine lv_iconst (v := 1) hx hb dX8_attempt_39 (by decide) ?_
    refine lv_iadd hx hb dX8_attempt_40 ?_
    refine wg_topi (y := nI (st_cn S i + 1)) (by rw [nI_1]) ?_
    refine wg_ist F hP hS m10_c31 (vp_in_nI hi (by decide)) dX8_attempt_41 (fun H locs hP hS => ?_)
    obtain ⟨C_41, hC_41⟩ : ∃ z : wg_C, z = va_up C_31 1010 (some (.inl (E.2.1 0, 4, .inl (upd g10 (nI i).toNatClampNeg (nI (st_cn S i + 1)))))) := ⟨_, rfl⟩
    have hP : wg_P E A C_41 H := by rw [hC_41]; exact hP
    have mo_c41 : C_41 1000 = some (.inr (8, [.int (nI (lc_ns (st_B S))), .ref (A 1001), .int (nI (lc_nh (st_B S))), .ref (A 1003), .ref (A 1004), .ref (A 1005), .ref (A 1006), .ref (A 1007), .ref (A 1008), .ref (A 1009), .ref (A 1010), .ref (A 1011), .ref (A 1012), .ref (A 1013), .ref (A 1014), .ref (A 1015), .ref (A 1016), .ref (A 1017), .ref (A 1018), .int (nI (st_pa S)), .int (nI (st_pb S)), .long (st_va S), .long (st_vb S), .int (nI (st_ct S)), .ref (A 1024), .ref (A 1025), .ref (A 1026), .ref (A 1027), .ref (A 1028)])) := by rw [hC_41]; rw [va_up_ne _ _ (by decide)]; exact mo_c31
    have m9_c41 : C_41 1009 = some (.inl (E.2.1 0, 4, .inl g9)) := by rw [hC_41]; rw [va_up_ne _ _ (by decide)]; exact m9_c31
    have m10_c41 : C_41 1010 = some (.inl (E.2.1 0, 4, .inl (upd g10 (nI i).toNatClampNeg (nI (st_cn S i + 1))))) := by rw [hC_41]; exact va_up_self _ _ _
    have m11_c41 : C_41 1011 = some (.inl (E.2.1 0, 44, .inl (upd g11 (nI (11 * i + st_cn S i)).toNatClampNeg (nI j)))) := by rw [hC_41]; rw [va_up_ne _ _ (by decide)]; exact m11_c31
    refine lv_aload_n hx hb dX8_attempt_42 rfl (lv_at hl 1 rfl) ?_
    refine wg_get F hP mo_c41 rfl iw_X8 10 (by decide) tb_559 rfl rfl dX8_attempt_43 ?_
    refine lv_iload_n hx hb dX8_attempt_46 rfl (lv_at hl 2 rfl) ?_
    refine wg_ild F hP m10_c41 (vp_in_nI hi (by decide)) dX8_attempt_47 ?_
    refine wg_topi (y := nI (st_cn S i + 1)) (by rw [pk_us]) ?_
    refine lv_aload_n hx hb dX8_attempt_48 rfl (lv_at hl 1 rfl) ?_
    refine wg_get F hP mo_c41 rfl iw_X8 9 (by decide) tb_558 rfl rfl dX8_attempt_49 ?_
    refine lv_iconst (v := 3) hx hb dX8_attempt_52 (by decide) ?_
    refine wg_ild F hP m9_c41 (vp_in_nI (n := 3) (by decide) (by decide)) dX8_attempt_53 ?_
    refine wg_topi (y := nI (st_tm S 3)) (r9 3 (by decide)) ?_
    refine lv_isub hx hb dX8_attempt_54 ?_
    refine lv_topi (fun x_55 ex_55 => ?_)
    refine lv_istore (lv' := [(4, .int x_55), (3, .int (nI (lc_why (st_B S) (st_tm S) (st_t S i) j))), (0, .ref (A 1000)), (1, .int (nI i)), (2, .int (nI j))]) hx hb dX8_attempt_55 hl (by decide) rfl (fun ls hl => ?_)
    have up : 0 < x_55 ↔ st_tm S 3 < st_cn S i + 1 := by rw [ex_55]; exact lc_rise0 (by omega) (by omega)
    have hfr0 : ∀ r, r ≠ 1010 → r ≠ 1011 → C_41 r = C r := fun r h0 h1 => by rw [hC_41, va_up_ne _ _ h0, hC_31, va_up_ne _ _ h1]
    by_cases hmo : st_cn S i + 1 ≤ st_tm S 3
    · have hx0 : x_55 ≤ 0 := Int32.not_lt.mp (fun q => by have := up.mp q; omega)
      refine lv_iconst (v := 1) hx hb dX8_attempt_57 (by decide) ?_
      refine lv_istore (lv' := [(5, .int 1), (4, .int x_55), (3, .int (nI (lc_why (st_B S) (st_tm S) (st_t S i) j))), (0, .ref (A 1000)), (1, .int (nI i)), (2, .int (nI j))]) hx hb dX8_attempt_58 hl (by decide) rfl (fun ls hl => ?_)
      refine lv_iload hx hb dX8_attempt_60 (lv_at hl 1 rfl) ?_
      refine lv_if_le (tgt := 112) hx hb dX8_attempt_62 (by decide) (fun c_62 => ?_) (fun c_62 => ?_)
      · refine lv_aload_n hx hb dX8_attempt_112 rfl (lv_at hl 3 rfl) ?_
        refine wg_get F hP mo_c41 rfl iw_X8 10 (by decide) tb_559 rfl rfl dX8_attempt_113 ?_
        refine lv_iload_n hx hb dX8_attempt_116 rfl (lv_at hl 4 rfl) ?_
        refine lv_dup2_11 hx hb dX8_attempt_117 rfl rfl ?_
        refine wg_ild F hP m10_c41 (vp_in_nI hi (by decide)) dX8_attempt_118 ?_
        refine wg_topi (y := nI (st_cn S i + 1)) (by rw [pk_us]) ?_
        refine lv_iload hx hb dX8_attempt_119 (lv_at hl 1 rfl) ?_
        refine lv_if_le (tgt := 129) hx hb dX8_attempt_121 (by decide) (fun c_121 => ?_) (fun c_121 => ?_)
        · refine lv_iconst (v := 0) hx hb dX8_attempt_129 (by decide) ?_
          refine lv_isub hx hb dX8_attempt_130 ?_
          refine wg_topi (y := nI (lc_kn (st_cn S i) (st_tm S 3))) (by unfold lc_kn; rw [if_pos hmo]; exact Int32.sub_zero _) ?_
          refine wg_ist F hP hS m10_c41 (vp_in_nI hi (by decide)) dX8_attempt_131 (fun H locs hP hS => ?_)
          obtain ⟨C_131, hC_131⟩ : ∃ z : wg_C, z = va_up C_41 1010 (some (.inl (E.2.1 0, 4, .inl (upd (upd g10 (nI i).toNatClampNeg (nI (st_cn S i + 1))) (nI i).toNatClampNeg (nI (lc_kn (st_cn S i) (st_tm S 3))))))) := ⟨_, rfl⟩
          have hP : wg_P E A C_131 H := by rw [hC_131]; exact hP
          have mo_c131 : C_131 1000 = some (.inr (8, [.int (nI (lc_ns (st_B S))), .ref (A 1001), .int (nI (lc_nh (st_B S))), .ref (A 1003), .ref (A 1004), .ref (A 1005), .ref (A 1006), .ref (A 1007), .ref (A 1008), .ref (A 1009), .ref (A 1010), .ref (A 1011), .ref (A 1012), .ref (A 1013), .ref (A 1014), .ref (A 1015), .ref (A 1016), .ref (A 1017), .ref (A 1018), .int (nI (st_pa S)), .int (nI (st_pb S)), .long (st_va S), .long (st_vb S), .int (nI (st_ct S)), .ref (A 1024), .ref (A 1025), .ref (A 1026), .ref (A 1027), .ref (A 1028)])) := by rw [hC_131]; rw [va_up_ne _ _ (by decide)]; exact mo_c41
          have m9_c131 : C_131 1009 = some (.inl (E.2.1 0, 4, .inl g9)) := by rw [hC_131]; rw [va_up_ne _ _ (by decide)]; exact m9_c41
          have m10_c131 : C_131 1010 = some (.inl (E.2.1 0, 4, .inl (upd (upd g10 (nI i).toNatClampNeg (nI (st_cn S i + 1))) (nI i).toNatClampNeg (nI (lc_kn (st_cn S i) (st_tm S 3)))))) := by rw [hC_131]; exact va_up_self _ _ _
          have m11_c131 : C_131 1011 = some (.inl (E.2.1 0, 44, .inl (upd g11 (nI (11 * i + st_cn S i)).toNatClampNeg (nI j)))) := by rw [hC_131]; rw [va_up_ne _ _ (by decide)]; exact m11_c41
          have hfr : ∀ r, r ≠ 1010 → r ≠ 1011 → C_131 r = C r := fun r h0 h1 => by rw [hC_131, va_up_ne _ _ h0, hC_41, va_up_ne _ _ h0, hC_31, va_up_ne _ _ h1]
          have n10 : ∀ i2, i2 < 4 → (upd (upd g10 (nI i).toNatClampNeg (nI (st_cn S i + 1))) (nI i).toNatClampNeg (nI (lc_kn (st_cn S i) (st_tm S 3)))) i2 = nI (st_cn (st_keep S i j) i2) := by rw [nI_clamp (show i < 2 ^ 31 by omega)]; exact fun i2 hi2 => (lm_upN (lm_upN r10) i2 hi2).trans (by rw [bx_uu]; rfl)
          have n11 : ∀ i2, i2 < 4 → ∀ q, q < st_cn (st_keep S i j) i2 → (upd g11 (nI (11 * i + st_cn S i)).toNatClampNeg (nI j)) (11 * i2 + q) = nI (st_cg (st_keep S i j) i2 q) := by rw [nI_clamp (by omega)]; show ∀ i2, i2 < 4 → ∀ q, q < va_up (st_cn S) i (lc_kn (st_cn S i) (st_tm S 3)) i2 → _ = nI (va_up (st_cg S) i (lc_kg (st_cn S i) (st_tm S 3) (st_cg S i) j) i2 q); rw [lm_kg_fit hmo, show lc_kn (st_cn S i) (st_tm S 3) = st_cn S i + 1 from if_pos hmo]; exact lm_put2 (W := 11) (fun i2 q hne hq => by omega) (fun i2 hi2 => by have := (icl i2 hi2).1; omega) r11 (fun q h1 h2 => by omega)
          refine lv_iload_n hx hb dX8_attempt_132 rfl (lv_at hl 2 rfl) ?_
          exact wg_iret F hP hS hr hlk (⟨rfl, rfl, hfr, by rw [if_pos hy]; exact ⟨(hfr 1000 (by decide) (by decide)).trans hM.1, hM.2.1.same (hfr 1001 (by decide) (by decide)), hM.2.2.1.same (hfr 1003 (by decide) (by decide)), hM.2.2.2.1.same (hfr 1004 (by decide) (by decide)), hM.2.2.2.2.1.same (hfr 1005 (by decide) (by decide)), hM.2.2.2.2.2.1.same (hfr 1006 (by decide) (by decide)), hM.2.2.2.2.2.2.1.same (hfr 1007 (by decide) (by decide)), hM.2.2.2.2.2.2.2.1.same (hfr 1008 (by decide) (by decide)), hM.2.2.2.2.2.2.2.2.1.same (hfr 1009 (by decide) (by decide)), ⟨_, m10_c131, n10⟩, ⟨_, m11_c131, n11⟩, hM.2.2.2.2.2.2.2.2.2.2.2.1.same (hfr 1012 (by decide) (by decide)), hM.2.2.2.2.2.2.2.2.2.2.2.2.1.same (hfr 1013 (by decide) (by decide)), hM.2.2.2.2.2.2.2.2.2.2.2.2.2.1.same (hfr 1014 (by decide) (by decide)), hM.2.2.2.2.2.2.2.2.2.2.2.2.2.2.1.same (hfr 1015 (by decide) (by decide)), hM.2.2.2.2.2.2.2.2.2.2.2.2.2.2.2.1.same (hfr 1016 (by decide) (by decide)), hM.2.2.2.2.2.2.2.2.2.2.2.2.2.2.2.2.1.same (hfr 1017 (by decide) (by decide)), hM.2.2.2.2.2.2.2.2.2.2.2.2.2.2.2.2.2.1.same (hfr 1018 (by decide) (by decide)), hM.2.2.2.2.2.2.2.2.2.2.2.2.2.2.2.2.2.2.1.same (hfr 1024 (by decide) (by decide)), hM.2.2.2.2.2.2.2.2.2.2.2.2.2.2.2.2.2.2.2.1.same (hfr 1025 (by decide) (by decide)), hM.2.2.2.2.2.2.2.2.2.2.2.2.2.2.2.2.2.2.2.2.1.same (hfr 1026 (by decide) (by decide)), hM.2.2.2.2.2.2.2.2.2.2.2.2.2.2.2.2.2.2.2.2.2.1.same (hfr 1027 (by decide) (by decide)), hM.2.2.2.2.2.2.2.2.2.2.2.2.2.2.2.2.2.2.2.2.2.2.same (hfr 1028 (by decide) (by decide))⟩⟩) dX8_attempt_133
        · exact absurd hx0 c_121
      · exact absurd hx0 c_62
    · have hx0 : x_55 = nI (st_cn S i + 1 - st_tm S 3) := by rw [ex_55, pk_sub (by omega)]
      clear ex_55
      subst hx0
      refine lv_iconst (v := 1) hx hb dX8_attempt_57 (by decide) ?_
      refine lv_istore (lv' := [(5, .int 1), (4, .int (nI (st_cn S i + 1 - st_tm S 3))), (3, .int (nI (lc_why (st_B S) (st_tm S) (st_t S i) j))), (0, .ref (A 1000)), (1, .int (nI i)), (2, .int (nI j))]) hx hb dX8_attempt_58 hl (by decide) rfl (fun ls hl => ?_)
      have loop_60 : ∀ (fuel : Nat) (k : Nat) (y5 : Int32) (fk : Nat → Int32), st_tm S 3 - k < fuel → (1 ≤ k) → (k ≤ st_tm S 3) → (y5 = nI k) → (∀ a, fk a = if 11 * i + 1 ≤ a ∧ a < 11 * i + k then (upd g11 (11 * i + st_cn S i) (nI j)) (a + (st_cn S i + 1 - st_tm S 3)) else (upd g11 (11 * i + st_cn S i) (nI j)) a) → ∀ (Cw : wg_C) , Cw 1000 = some (.inr (8, [.int (nI (lc_ns (st_B S))), .ref (A 1001), .int (nI (lc_nh (st_B S))), .ref (A 1003), .ref (A 1004), .ref (A 1005), .ref (A 1006), .ref (A 1007), .ref (A 1008), .ref (A 1009), .ref (A 1010), .ref (A 1011), .ref (A 1012), .ref (A 1013), .ref (A 1014), .ref (A 1015), .ref (A 1016), .ref (A 1017), .ref (A 1018), .int (nI (st_pa S)), .int (nI (st_pb S)), .long (st_va S), .long (st_vb S), .int (nI (st_ct S)), .ref (A 1024), .ref (A 1025), .ref (A 1026), .ref (A 1027), .ref (A 1028)])) → Cw 1010 = some (.inl (E.2.1 0, 4, .inl (upd g10 (nI i).toNatClampNeg (nI (st_cn S i + 1))))) → Cw 1011 = some (.inl (E.2.1 0, 44, .inl fk)) → (∀ r, r ≠ 1010 → r ≠ 1011 → Cw r = C r) → ∀ (H : Heap) (locs : List Loc) (ls : Array Slot), wg_P E A Cw H → va_S (wg_A E) s.heap H locs → lv_has ls 6 [(0, .ref (A 1000)), (1, .int (nI i)), (2, .int (nI j)), (3, .int (nI (lc_why (st_B S) (st_tm S) (st_t S i) j))), (4, .int (nI (st_cn S i + 1 - st_tm S 3))), (5, .int y5)] → W p l e (wg_rm 4 0 0) s m ([.ref (A 1000), .int (nI i), .int (nI j)] : List Value).toArray below meth c H locs 0 0 (MQ below (wg_Qi E (fun r A1 C1 => r = nI (lc_why (st_B S) (st_tm S) (st_t S i) j) ∧ A = A1 ∧ (∀ q, q ≠ 1010 → q ≠ 1011 → C1 q = C q) ∧ lm E A C1 (if lc_why (st_B S) (st_tm S) (st_t S i) j = 0 then st_keep S i j else S))) ([.ref (A 1000), .int (nI i), .int (nI j)] : List Value).toArray s 0 0 (wg_A E)) (F0 m 60 ls []) := by
        intro fuel
        induction fuel with
        | zero => intro k y5 fk hm; exact absurd hm (Nat.not_lt_zero _)
        | succ fuel ih_loop_60 =>
          intro k y5 fk hm_loop_60 hk1 hk ey5 hfk Cw f1000w f1010w f1011w hbase H locs ls hP hS hl
          subst ey5
          refine lv_iload hx hb dX8_attempt_60 (lv_at hl 4 rfl) ?_
          refine lv_if_le (tgt := 112) hx hb dX8_attempt_62 (by decide) (fun c_62 => ?_) (fun c_62 => ?_)
          · exact absurd c_62 (by rw [← nI_0, nI_leI (by omega) (by decide)]; omega)
          · refine lv_iload hx hb dX8_attempt_65 (lv_at hl 5 rfl) ?_
            refine lv_iload hx hb dX8_attempt_67 (lv_at hl 4 rfl) ?_
            refine lv_iadd hx hb dX8_attempt_69 ?_
            refine wg_topi (y := nI (k + (st_cn S i + 1 - st_tm S 3))) (nI_add _ _) ?_
            refine lv_aload_n hx hb dX8_attempt_70 rfl (lv_at hl 0 rfl) ?_
            refine wg_get F hP f1000w rfl iw_X8 10 (by decide) tb_559 rfl rfl dX8_attempt_71 ?_
            refine lv_iload_n hx hb dX8_attempt_74 rfl (lv_at hl 1 rfl) ?_
            refine wg_ild F hP f1010w (vp_in_nI hi (by decide)) dX8_attempt_75 ?_
            refine wg_topi (y := nI (st_cn S i + 1)) (by rw [pk_us]) ?_
            refine lv_icmp_ge (tgt := 112) hx hb dX8_attempt_76 (by decide) (fun c_76 => ?_) (fun c_76 => ?_)
            · have hke : k = st_tm S 3 := by rw [nI_leI (by omega) (by omega)] at c_76; omega
              refine lv_aload_n hx hb dX8_attempt_112 rfl (lv_at hl 0 rfl) ?_
              refine wg_get F hP f1000w rfl iw_X8 10 (by decide) tb_559 rfl rfl dX8_attempt_113 ?_
              refine lv_iload_n hx hb dX8_attempt_116 rfl (lv_at hl 1 rfl) ?_
              refine lv_dup2_11 hx hb dX8_attempt_117 rfl rfl ?_
              refine wg_ild F hP f1010w (vp_in_nI hi (by decide)) dX8_attempt_118 ?_
              refine wg_topi (y := nI (st_cn S i + 1)) (by rw [pk_us]) ?_
              refine lv_iload hx hb dX8_attempt_119 (lv_at hl 4 rfl) ?_
              refine lv_if_le (tgt := 129) hx hb dX8_attempt_121 (by decide) (fun c_121 => ?_) (fun c_121 => ?_)
              · exact absurd c_121 (by rw [← nI_0, nI_leI (by omega) (by decide)]; omega)
              · refine lv_iload hx hb dX8_attempt_124 (lv_at hl 4 rfl) ?_
                refine lv_goto (tgt := 130) hx hb dX8_attempt_126 (by decide) ?_
                refine lv_isub hx hb dX8_attempt_130 ?_
                refine wg_topi (y := nI (lc_kn (st_cn S i) (st_tm S 3))) (by unfold lc_kn; rw [if_neg hmo, pk_sub (by omega)]; congr 1; omega) ?_
                refine wg_ist F hP hS f1010w (vp_in_nI hi (by decide)) dX8_attempt_131 (fun H locs hP hS => ?_)
                obtain ⟨C_131_1, hC_131_1⟩ : ∃ z : wg_C, z = va_up Cw 1010 (some (.inl (E.2.1 0, 4, .inl (upd (upd g10 (nI i).toNatClampNeg (nI (st_cn S i + 1))) (nI i).toNatClampNeg (nI (lc_kn (st_cn S i) (st_tm S 3))))))) := ⟨_, rfl⟩
                have hP : wg_P E A C_131_1 H := by rw [hC_131_1]; exact hP
                have f1000w_c131_1 : C_131_1 1000 = some (.inr (8, [.int (nI (lc_ns (st_B S))), .ref (A 1001), .int (nI (lc_nh (st_B S))), .ref (A 1003), .ref (A 1004), .ref (A 1005), .ref (A 1006), .ref (A 1007), .ref (A 1008), .ref (A 1009), .ref (A 1010), .ref (A 1011), .ref (A 1012), .ref (A 1013), .ref (A 1014), .ref (A 1015), .ref (A 1016), .ref (A 1017), .ref (A 1018), .int (nI (st_pa S)), .int (nI (st_pb S)), .long (st_va S), .long (st_vb S), .int (nI (st_ct S)), .ref (A 1024), .ref (A 1025), .ref (A 1026), .ref (A 1027), .ref (A 1028)])) := by rw [hC_131_1]; rw [va_up_ne _ _ (by decide)]; exact f1000w
                have f1010w_c131_1 : C_131_1 1010 = some (.inl (E.2.1 0, 4, .inl (upd (upd g10 (nI i).toNatClampNeg (nI (st_cn S i + 1))) (nI i).toNatClampNeg (nI (lc_kn (st_cn S i) (st_tm S 3)))))) := by rw [hC_131_1]; exact va_up_self _ _ _
                have f1011w_c131_1 : C_131_1 1011 = some (.inl (E.2.1 0, 44, .inl fk)) := by rw [hC_131_1]; rw [va_up_ne _ _ (by decide)]; exact f1011w
                have hfr : ∀ r, r ≠ 1010 → r ≠ 1011 → C_131_1 r = C r := fun r h0 h1 => by rw [hC_131_1, va_up_ne _ _ h0]; exact hbase r h0 h1
                have n10 : ∀ i2, i2 < 4 → (upd (upd g10 (nI i).toNatClampNeg (nI (st_cn S i + 1))) (nI i).toNatClampNeg (nI (lc_kn (st_cn S i) (st_tm S 3)))) i2 = nI (st_cn (st_keep S i j) i2) := by rw [nI_clamp (show i < 2 ^ 31 by omega)]; exact fun i2 hi2 => (lm_upN (lm_upN r10) i2 hi2).trans (by rw [bx_uu]; rfl)
                have n11 : ∀ i2, i2 < 4 → ∀ q, q < st_cn (st_keep S i j) i2 → fk (11 * i2 + q) = nI (st_cg (st_keep S i j) i2 q) := by subst hke; exact lm_keepover hi (fun i2 hi2 => (icl i2 hi2).1) r11 itm3a hmo hfk
                refine lv_iload_n hx hb dX8_attempt_132 rfl (lv_at hl 3 rfl) ?_
                exact wg_iret F hP hS hr hlk (⟨rfl, rfl, hfr, by rw [if_pos hy]; exact ⟨(hfr 1000 (by decide) (by decide)).trans hM.1, hM.2.1.same (hfr 1001 (by decide) (by decide)), hM.2.2.1.same (hfr 1003 (by decide) (by decide)), hM.2.2.2.1.same (hfr 1004 (by decide) (by decide)), hM.2.2.2.2.1.same (hfr 1005 (by decide) (by decide)), hM.2.2.2.2.2.1.same (hfr 1006 (by decide) (by decide)), hM.2.2.2.2.2.2.1.same (hfr 1007 (by decide) (by decide)), hM.2.2.2.2.2.2.2.1.same (hfr 1008 (by decide) (by decide)), hM.2.2.2.2.2.2.2.2.1.same (hfr 1009 (by decide) (by decide)), ⟨_, f1010w_c131_1, n10⟩, ⟨_, f1011w_c131_1, n11⟩, hM.2.2.2.2.2.2.2.2.2.2.2.1.same (hfr 1012 (by decide) (by decide)), hM.2.2.2.2.2.2.2.2.2.2.2.2.1.same (hfr 1013 (by decide) (by decide)), hM.2.2.2.2.2.2.2.2.2.2.2.2.2.1.same (hfr 1014 (by decide) (by decide)), hM.2.2.2.2.2.2.2.2.2.2.2.2.2.2.1.same (hfr 1015 (by decide) (by decide)), hM.2.2.2.2.2.2.2.2.2.2.2.2.2.2.2.1.same (hfr 1016 (by decide) (by decide)), hM.2.2.2.2.2.2.2.2.2.2.2.2.2.2.2.2.1.same (hfr 1017 (by decide) (by decide)), hM.2.2.2.2.2.2.2.2.2.2.2.2.2.2.2.2.2.1.same (hfr 1018 (by decide) (by decide)), hM.2.2.2.2.2.2.2.2.2.2.2.2.2.2.2.2.2.2.1.same (hfr 1024 (by decide) (by decide)), hM.2.2.2.2.2.2.2.2.2.2.2.2.2.2.2.2.2.2.2.1.same (hfr 1025 (by decide) (by decide)), hM.2.2.2.2.2.2.2.2.2.2.2.2.2.2.2.2.2.2.2.2.1.same (hfr 1026 (by decide) (by decide)), hM.2.2.2.2.2.2.2.2.2.2.2.2.2.2.2.2.2.2.2.2.2.1.same (hfr 1027 (by decide) (by decide)), hM.2.2.2.2.2.2.2.2.2.2.2.2.2.2.2.2.2.2.2.2.2.2.same (hfr 1028 (by decide) (by decide))⟩⟩) dX8_attempt_133
            · have hke : k < st_tm S 3 := by rw [nI_leI (by omega) (by omega)] at c_76; omega
              refine lv_aload_n hx hb dX8_attempt_79 rfl (lv_at hl 0 rfl) ?_
              refine wg_get F hP f1000w rfl iw_X8 11 (by decide) tb_560 rfl rfl dX8_attempt_80 ?_
              refine lv_bipush (v := 11) hx hb dX8_attempt_83 (by decide) ?_
              refine lv_iload_n hx hb dX8_attempt_85 rfl (lv_at hl 1 rfl) ?_
              refine lv_imul hx hb dX8_attempt_86 ?_
              refine lv_iload hx hb dX8_attempt_87 (lv_at hl 5 rfl) ?_
              refine lv_iadd hx hb dX8_attempt_89 ?_
              refine wg_topi (y := nI (11 * i + k)) (by rw [show (11 : Int32) = nI 11 from rfl, pk_mul, nI_add]) ?_
              refine lv_aload_n hx hb dX8_attempt_90 rfl (lv_at hl 0 rfl) ?_
              refine wg_get F hP f1000w rfl iw_X8 11 (by decide) tb_560 rfl rfl dX8_attempt_91 ?_
              refine lv_bipush (v := 11) hx hb dX8_attempt_94 (by decide) ?_
              refine lv_iload_n hx hb dX8_attempt_96 rfl (lv_at hl 1 rfl) ?_
              refine lv_imul hx hb dX8_attempt_97 ?_
              refine lv_iload hx hb dX8_attempt_98 (lv_at hl 5 rfl) ?_
              refine lv_iadd hx hb dX8_attempt_100 ?_
              refine wg_topi (y := nI (11 * i + k)) (by rw [show (11 : Int32) = nI 11 from rfl, pk_mul, nI_add]) ?_
              refine lv_iload hx hb dX8_attempt_101 (lv_at hl 4 rfl) ?_
              refine lv_iadd hx hb dX8_attempt_103 ?_
              refine wg_topi (y := nI (11 * i + k + (st_cn S i + 1 - st_tm S 3))) (nI_add _ _) ?_
              refine wg_ild F hP f1011w (vp_in_nI (by omega) (by decide)) dX8_attempt_104 ?_
              refine wg_ist F hP hS f1011w (vp_in_nI (by omega) (by decide)) dX8_attempt_105 (fun H locs hP hS => ?_)
              obtain ⟨C_105, hC_105⟩ : ∃ z : wg_C, z = va_up Cw 1011 (some (.inl (E.2.1 0, 44, .inl (upd fk (nI (11 * i + k)).toNatClampNeg (fk (nI (11 * i + k + (st_cn S i + 1 - st_tm S 3))).toNatClampNeg))))) := ⟨_, rfl⟩
              have hP : wg_P E A C_105 H := by rw [hC_105]; exact hP
              have f1000w_c105 : C_105 1000 = some (.inr (8, [.int (nI (lc_ns (st_B S))), .ref (A 1001), .int (nI (lc_nh (st_B S))), .ref (A 1003), .ref (A 1004), .ref (A 1005), .ref (A 1006), .ref (A 1007), .ref (A 1008), .ref (A 1009), .ref (A 1010), .ref (A 1011), .ref (A 1012), .ref (A 1013), .ref (A 1014), .ref (A 1015), .ref (A 1016), .ref (A 1017), .ref (A 1018), .int (nI (st_pa S)), .int (nI (st_pb S)), .long (st_va S), .long (st_vb S), .int (nI (st_ct S)), .ref (A 1024), .ref (A 1025), .ref (A 1026), .ref (A 1027), .ref (A 1028)])) := by rw [hC_105]; rw [va_up_ne _ _ (by decide)]; exact f1000w
              have f1010w_c105 : C_105 1010 = some (.inl (E.2.1 0, 4, .inl (upd g10 (nI i).toNatClampNeg (nI (st_cn S i + 1))))) := by rw [hC_105]; rw [va_up_ne _ _ (by decide)]; exact f1010w
              have f1011w_c105 : C_105 1011 = some (.inl (E.2.1 0, 44, .inl (upd fk (nI (11 * i + k)).toNatClampNeg (fk (nI (11 * i + k + (st_cn S i + 1 - st_tm S 3))).toNatClampNeg)))) := by rw [hC_105]; exact va_up_self _ _ _
              obtain ⟨x_106, ex_106⟩ : ∃ y : Int32, y = nI k + 1 := ⟨_, rfl⟩
              refine lv_iinc (v := x_106) (lv' := [(5, .int x_106), (0, .ref (A 1000)), (1, .int (nI i)), (2, .int (nI j)), (3, .int (nI (lc_why (st_B S) (st_tm S) (st_t S i) j))), (4, .int (nI (st_cn S i + 1 - st_tm S 3)))]) hx hb dX8_attempt_106 hl (k := 5) rfl (by rw [ex_106]; rfl) (by decide) rfl (fun ls hl => ?_)
              refine lv_goto (tgt := 60) hx hb dX8_attempt_109 (by decide) ?_
              exact ih_loop_60 (k + 1) x_106 (upd fk (nI (11 * i + k)).toNatClampNeg (fk (nI (11 * i + k + (st_cn S i + 1 - st_tm S 3))).toNatClampNeg)) (by omega) (by omega) (by omega) (by rw [ex_106, nI_1]) (by rw [nI_clamp (by omega)]; rw [nI_clamp (by omega)]; exact lm_keepstep hk1 hfk) C_105 f1000w_c105 f1010w_c105 f1011w_c105 ((fun r h1 h2 => by rw [hC_105, va_up_ne _ _ h2]; exact hbase r h1 h2)) _ _ _ hP hS (lv_sub hl [1, 2, 3, 4, 5, 0] rfl)
      exact loop_60 _ 1 1 (upd g11 (nI (11 * i + st_cn S i)).toNatClampNeg (nI j)) (Nat.lt_succ_self _) (by omega) (by omega) rfl (fun a => by rw [if_neg (by omega), nI_clamp (by omega)]) C_41 mo_c41 m10_c41 m11_c41 hfr0 _ _ _ hP hS (lv_sub hl [3, 4, 5, 2, 1, 0] rfl)
set_option maxHeartbeats 4000000 in
set_option maxRecDepth 100000 in
theorem c_X8_follow (l : Launch) (E : wg_E) (A : Nat → Nat) (C : wg_C) (S : lc_S) (c0 h : Int32) (hM : lm E A C S) (hI : lc_inv S)  : Met l yX8_follow (wg_ws yX8_follow cX8_follow 4 (some .int)) (wg_rm 5 0 0) (wg_Pc E A C [.ref (A 1000), .int c0, .int h]) (wg_Qi E (fun r A1 C1 => A = A1 ∧ r = (op_follow S c0 h).1 ∧ lm E A C1 (op_follow S c0 h).2 ∧ ∀ q, q < 1000 → C1 q = C q)) 0 0 (wg_A E) := by
  refine wg_met (by decide) (Nat.le_of_ble_eq_true rfl) ?_
  intro p e s m below meth c ls F hr hlk hnm hP hS hl
  have F : wg_F p m c cX8_follow 4 s ([.ref (A 1000), .int c0, .int h] : List Value).toArray "LightChecksModel" E := F
  have hx := F.1
  have hb := F.2.1
  have hml := F.2.2.1
  have hown := F.2.2.2.1
  have hts := F.2.2.2.2.1
  have hl : lv_has ls 4 [(0, .ref (A 1000)), (1, .int c0), (2, .int h)] := hl
  obtain ⟨mo, ⟨g1, m1, r1⟩, ⟨g3, m3, r3⟩, ⟨g4, m4, r4⟩, ⟨g5, m5, r5⟩, ⟨g6, m6, r6⟩, ⟨g7, m7, r7⟩, ⟨g8, m8, r8⟩, ⟨g9, m9, r9⟩, ⟨g10, m10, r10⟩, ⟨g11, m11, r11⟩, ⟨g12, m12, r12⟩, ⟨g13, m13, r13⟩, ⟨g14, m14, r14⟩, ⟨g15, m15, r15⟩, ⟨g16, m16, r16⟩, ⟨g17, m17, r17⟩, ⟨g18, m18, r18⟩, ⟨g24, m24, r24⟩, ⟨g25, m25, r25⟩, ⟨g26, m26, r26⟩, ⟨g27, m27⟩, ⟨g28, m28, r28⟩⟩ := id hM
  obtain ⟨iok, ⟨itm, itm3a, itm3b⟩, icl, igv, ipa, ipb, ipab⟩ := id hI
  have ins := iok.1
  have inh := iok.2.1
  refine lv_iload_n hx hb dX8_follow_0 rfl (lv_at hl 1 rfl) ?_
  refine wg_ci hS (wg_rS (As := [.int c0]) (rest := []) F hP hS (c_X8_isFour l E A C c0) ok_X8_isFour tb_702 rfl rfl ⟨Nat.le_of_ble_eq_true rfl, Nat.le_of_ble_eq_true rfl⟩ rfl hl.1 rfl (Nat.le_of_ble_eq_true rfl) dX8_follow_1 ⟨Nat.le_of_ble_eq_true rfl, Nat.le_of_ble_eq_true rfl⟩) (fun r_1 A1 C_1 H locs w_1 hP hS => ?_)
  obtain ⟨w_1, rfl, rfl⟩ := w_1
  rcases hx_i : lc_ix c0 4 with _ | i
  · have w2_i : r_1 = 0 := lc_ixr0 w_1 hx_i
    refine lv_if_eq (tgt := 15) hx hb dX8_follow_4 (by decide) (fun c_4 => ?_) (fun c_4 => ?_)
    · refine lv_iconst (v := (-1)) hx hb dX8_follow_15 (by decide) ?_
      exact wg_iret F hP hS hr hlk (⟨rfl, by unfold op_follow; first | (rw [hx_i]; done) | (rw [hx_i]; rfl), by unfold op_follow; rw [hx_i]; exact hM, fun _ _ => rfl⟩) dX8_follow_16
    · exact absurd w2_i c_4
  · have w2_i : r_1 = 1 := lc_ixr1 w_1 hx_i
    obtain ⟨hi, ei, ti⟩ := lc_ix_some hx_i
    refine lv_if_eq (tgt := 15) hx hb dX8_follow_4 (by decide) (fun c_4 => ?_) (fun c_4 => ?_)
    · exact absurd (w2_i.symm.trans c_4) (by decide)
    · refine lv_aload_n hx hb dX8_follow_7 rfl (lv_at hl 0 rfl) ?_
      refine lv_iload_n hx hb dX8_follow_8 rfl (lv_at hl 2 rfl) ?_
      refine wg_ci hS (wg_rV (As := [.int h]) (rest := []) F hP hS (c_X8_isHead l E A C S h hM hI) ok_X8_isHead tb_658 rfl rfl ⟨Nat.le_of_ble_eq_true rfl, Nat.le_of_ble_eq_true rfl⟩ mo rfl rfl rfl hl.1 rfl (Nat.le_of_ble_eq_true rfl) dX8_follow_9 ⟨Nat.le_of_ble_eq_true rfl, Nat.le_of_ble_eq_true rfl⟩) (fun r_9 A1 C_9 H locs w_9 hP hS => ?_)
      obtain ⟨w_9, rfl, rfl⟩ := w_9
      rcases hx_j : lc_ix h (lc_nh (st_B S)) with _ | j
      · have w2_j : r_9 = 0 := lc_ixr0 w_9 hx_j
        refine lv_if_ne (tgt := 17) hx hb dX8_follow_12 (by decide) (fun c_12 => ?_) (fun c_12 => ?_)
        · exact absurd w2_j c_12
        · refine lv_iconst (v := (-1)) hx hb dX8_follow_15 (by decide) ?_
          exact wg_iret F hP hS hr hlk (⟨rfl, by unfold op_follow; first | (rw [hx_i, hx_j]; done) | (rw [hx_i, hx_j]; rfl), by unfold op_follow; rw [hx_i, hx_j]; exact hM, fun _ _ => rfl⟩) dX8_follow_16
      · have w2_j : r_9 = 1 := lc_ixr1 w_9 hx_j
        obtain ⟨hj, ej, tj⟩ := lc_ix_some hx_j
        refine lv_if_ne (tgt := 17) hx hb dX8_follow_12 (by decide) (fun c_12 => ?_) (fun c_12 => ?_)
        · obtain ⟨hc1, hc2⟩ := icl i hi
          refine lv_aload_n hx hb dX8_follow_17 rfl (lv_at hl 0 rfl) ?_
          refine wg_get F hP mo rfl iw_X8 10 (by decide) tb_559 rfl rfl dX8_follow_18 ?_
          refine lv_iload_n hx hb dX8_follow_21 rfl (lv_at hl 1 rfl) ?_
          refine wg_topi (y := nI i) ei ?_
          refine wg_ild F hP m10 (vp_in_nI (by omega) (by decide)) dX8_follow_22 ?_
          refine wg_topi (y := nI (st_cn S i)) (by rw [nI_clamp (by omega)]; exact r10 i hi) ?_
          refine lv_if_ne (tgt := 29) hx hb dX8_follow_23 (by decide) (fun c_23 => ?_) (fun c_23 => ?_)
          · have hcn : st_cn S i ≠ 0 := fun z => c_23 (by rw [z]; rfl)
            refine lv_aload_n hx hb dX8_follow_29 rfl (lv_at hl 0 rfl) ?_
            refine lv_iload_n hx hb dX8_follow_30 rfl (lv_at hl 1 rfl) ?_
            refine wg_topi (y := nI i) ei ?_
            refine lv_iload_n hx hb dX8_follow_31 rfl (lv_at hl 2 rfl) ?_
            refine wg_topi (y := nI j) ej ?_
            refine wg_ci hS (wg_rV (As := [.int (nI i), .int (nI j)]) (rest := []) F hP hS (c_X8_attempt l E A C S i j hM hI hi hj hcn) ok_X8_attempt tb_709 rfl rfl ⟨Nat.le_of_ble_eq_true rfl, Nat.le_of_ble_eq_true rfl⟩ mo rfl rfl rfl hl.1 rfl (Nat.le_of_ble_eq_true rfl) dX8_follow_32 ⟨Nat.le_of_ble_eq_true rfl, Nat.le_of_ble_eq_true rfl⟩) (fun r_32 A1 C_32 H locs w_32 hP hS => ?_)
            obtain ⟨w_32, rfl, hfr_32, hM2⟩ := w_32
            have mo_c32 : C_32 1000 = some (.inr (8, [.int (nI (lc_ns (st_B S))), .ref (A 1001), .int (nI (lc_nh (st_B S))), .ref (A 1003), .ref (A 1004), .ref (A 1005), .ref (A 1006), .ref (A 1007), .ref (A 1008), .ref (A 1009), .ref (A 1010), .ref (A 1011), .ref (A 1012), .ref (A 1013), .ref (A 1014), .ref (A 1015), .ref (A 1016), .ref (A 1017), .ref (A 1018), .int (nI (st_pa S)), .int (nI (st_pb S)), .long (st_va S), .long (st_vb S), .int (nI (st_ct S)), .ref (A 1024), .ref (A 1025), .ref (A 1026), .ref (A 1027), .ref (A 1028)])) := by rw [hfr_32 1000 (by decide) (by decide)]; exact mo
            have m3_c32 : C_32 1003 = some (.inl (E.2.1 0, 60, .inl g3)) := by rw [hfr_32 1003 (by decide) (by decide)]; exact m3
            refine wg_topi (y := nI (lc_why (st_B S) (st_tm S) (st_t S i) j)) w_32 ?_
            refine lv_istore_n (lv' := [(3, .int (nI (lc_why (st_B S) (st_tm S) (st_t S i) j))), (0, .ref (A 1000)), (1, .int c0), (2, .int h)]) hx hb dX8_follow_35 rfl hl (by decide) rfl (fun ls hl => ?_)
            have hw6 := lc_why_le (st_B S) (st_tm S) (st_t S i) j
            refine lv_iload_n hx hb dX8_follow_36 rfl (lv_at hl 0 rfl) ?_
            refine lv_if_ne (tgt := 44) hx hb dX8_follow_37 (by decide) (fun c_37 => ?_) (fun c_37 => ?_)
            · have hy : ¬ lc_why (st_B S) (st_tm S) (st_t S i) j = 0 := fun z => c_37 (by rw [z]; rfl)
              rw [if_neg hy] at hM2
              have hop : op_follow S c0 h = (-10 - nI (lc_why (st_B S) (st_tm S) (st_t S i) j), st_ref S i (nI (lc_why (st_B S) (st_tm S) (st_t S i) j)) (nI (lc_hh (st_B S) j))) := by unfold op_follow; rw [hx_i, hx_j]; simp only []; rw [if_neg hcn, if_neg hy]
              refine lv_aload_n hx hb dX8_follow_44 rfl (lv_at hl 1 rfl) ?_
              refine lv_iload_n hx hb dX8_follow_45 rfl (lv_at hl 2 rfl) ?_
              refine wg_topi (y := nI i) ei ?_
              refine lv_iload_n hx hb dX8_follow_46 rfl (lv_at hl 0 rfl) ?_
              refine lv_aload_n hx hb dX8_follow_47 rfl (lv_at hl 1 rfl) ?_
              refine wg_get F hP mo_c32 rfl iw_X8 3 (by decide) tb_552 rfl rfl dX8_follow_48 ?_
              refine lv_iload_n hx hb dX8_follow_51 rfl (lv_at hl 3 rfl) ?_
              refine wg_topi (y := nI j) ej ?_
              refine wg_ild F hP m3_c32 (vp_in_nI (by omega) (by decide)) dX8_follow_52 ?_
              refine wg_topi (y := nI (lc_hh (st_B S) j)) ((by rw [nI_clamp (by omega)]; exact r3 j hj)) ?_
              refine wg_ci hS (wg_rV (As := [.int (nI i), .int (nI (lc_why (st_B S) (st_tm S) (st_t S i) j)), .int (nI (lc_hh (st_B S) j))]) (rest := []) F hP hS (c_X8_refuse l E A C_32 S i _ _ hM2 hI hi) ok_X8_refuse tb_721 rfl rfl ⟨Nat.le_of_ble_eq_true rfl, Nat.le_of_ble_eq_true rfl⟩ mo_c32 rfl rfl rfl hl.1 rfl (Nat.le_of_ble_eq_true rfl) dX8_follow_53 ⟨Nat.le_of_ble_eq_true rfl, Nat.le_of_ble_eq_true rfl⟩) (fun r_53 A1 C_53 H locs w_53 hP hS => ?_)
              obtain ⟨w_53, rfl, hfr_53, hM3⟩ := w_53
              have mo_c53 : C_53 1000 = some (.inr (8, [.int (nI (lc_ns (st_B S))), .ref (A 1001), .int (nI (lc_nh (st_B S))), .ref (A 1003), .ref (A 1004), .ref (A 1005), .ref (A 1006), .ref (A 1007), .ref (A 1008), .ref (A 1009), .ref (A 1010), .ref (A 1011), .ref (A 1012), .ref (A 1013), .ref (A 1014), .ref (A 1015), .ref (A 1016), .ref (A 1017), .ref (A 1018), .int (nI (st_pa S)), .int (nI (st_pb S)), .long (st_va S), .long (st_vb S), .int (nI (st_ct S)), .ref (A 1024), .ref (A 1025), .ref (A 1026), .ref (A 1027), .ref (A 1028)])) := by rw [hfr_53 1000 (by decide) (by decide)]; exact mo_c32
              have m3_c53 : C_53 1003 = some (.inl (E.2.1 0, 60, .inl g3)) := by rw [hfr_53 1003 (by decide) (by decide)]; exact m3_c32
              exact wg_iret F hP hS hr hlk (⟨rfl, by rw [hop]; exact w_53, by rw [hop]; exact hM3, fun q hq => (hfr_53 q (by omega) (by omega)).trans (hfr_32 q (by omega) (by omega))⟩) dX8_follow_56
            · have hy : lc_why (st_B S) (st_tm S) (st_t S i) j = 0 := by rw [← nI_0, nI_eq (by omega) (by decide)] at c_37; exact c_37
              rw [if_pos hy] at hM2
              have hop : op_follow S c0 h = (1, st_keep S i j) := by unfold op_follow; rw [hx_i, hx_j]; simp only []; rw [if_neg hcn, if_pos hy]
              refine lv_iconst (v := 1) hx hb dX8_follow_40 (by decide) ?_
              refine lv_goto (tgt := 56) hx hb dX8_follow_41 (by decide) ?_
              exact wg_iret F hP hS hr hlk (⟨rfl, by rw [hop], by rw [hop]; exact hM2, fun q hq => hfr_32 q (by omega) (by omega)⟩) dX8_follow_56
          · have hcn : st_cn S i = 0 := by rw [← nI_0, nI_eq (by omega) (by decide)] at c_23; exact c_23
            have hop : op_follow S c0 h = (-2, S) := by unfold op_follow; rw [hx_i, hx_j]; exact if_pos hcn
            refine lv_bipush (v := (-2)) hx hb dX8_follow_26 (by decide) ?_
            exact wg_iret F hP hS hr hlk (⟨rfl, by rw [hop], by rw [hop]; exact hM, fun _ _ => rfl⟩) dX8_follow_28
        · exact absurd (w2_j.symm.trans c_12) (by decide)
set_option maxHeartbeats 4000000 in
set_option maxRecDepth 100000 in
theorem c_X8_start (l : Launch) (E : wg_E) (A : Nat → Nat) (C : wg_C) (S : lc_S) (c0 h : Int32) (hM : lm E A C S) (hI : lc_inv S)  : Met l yX8_start (wg_ws yX8_start cX8_start 3 (some .int)) (wg_rm 2 0 0) (wg_Pc E A C [.ref (A 1000), .int c0, .int h]) (wg_Qi E (fun r A1 C1 => A = A1 ∧ r = (op_start S c0 h).1 ∧ lm E A C1 (op_start S c0 h).2 ∧ ∀ q, q < 1000 → C1 q = C q)) 0 0 (wg_A E) := by
  refine wg_met (by decide) (Nat.le_of_ble_eq_true rfl) ?_
  intro p e s m below meth c ls F hr hlk hnm hP hS hl
  have F : wg_F p m c cX8_start 3 s ([.ref (A 1000), .int c0, .int h] : List Value).toArray "LightChecksModel" E := F
  have hx := F.1
  have hb := F.2.1
  have hml := F.2.2.1
  have hown := F.2.2.2.1
  have hts := F.2.2.2.2.1
  have hl : lv_has ls 3 [(0, .ref (A 1000)), (1, .int c0), (2, .int h)] := hl
  obtain ⟨mo, ⟨g1, m1, r1⟩, ⟨g3, m3, r3⟩, ⟨g4, m4, r4⟩, ⟨g5, m5, r5⟩, ⟨g6, m6, r6⟩, ⟨g7, m7, r7⟩, ⟨g8, m8, r8⟩, ⟨g9, m9, r9⟩, ⟨g10, m10, r10⟩, ⟨g11, m11, r11⟩, ⟨g12, m12, r12⟩, ⟨g13, m13, r13⟩, ⟨g14, m14, r14⟩, ⟨g15, m15, r15⟩, ⟨g16, m16, r16⟩, ⟨g17, m17, r17⟩, ⟨g18, m18, r18⟩, ⟨g24, m24, r24⟩, ⟨g25, m25, r25⟩, ⟨g26, m26, r26⟩, ⟨g27, m27⟩, ⟨g28, m28, r28⟩⟩ := id hM
  obtain ⟨iok, ⟨itm, itm3a, itm3b⟩, icl, igv, ipa, ipb, ipab⟩ := id hI
  have ins := iok.1
  have inh := iok.2.1
  refine lv_iload_n hx hb dX8_start_0 rfl (lv_at hl 1 rfl) ?_
  refine wg_ci hS (wg_rS (As := [.int c0]) (rest := []) F hP hS (c_X8_isFour l E A C c0) ok_X8_isFour tb_702 rfl rfl ⟨Nat.le_of_ble_eq_true rfl, Nat.le_of_ble_eq_true rfl⟩ rfl hl.1 rfl (Nat.le_of_ble_eq_true rfl) dX8_start_1 ⟨Nat.le_of_ble_eq_true rfl, Nat.le_of_ble_eq_true rfl⟩) (fun r_1 A1 C_1 H locs w_1 hP hS => ?_)
  obtain ⟨w_1, rfl, rfl⟩ := w_1
  rcases hx_i : lc_ix c0 4 with _ | i
  · have w2_i : r_1 = 0 := lc_ixr0 w_1 hx_i
    refine lv_if_eq (tgt := 15) hx hb dX8_start_4 (by decide) (fun c_4 => ?_) (fun c_4 => ?_)
    · refine lv_iconst (v := (-1)) hx hb dX8_start_15 (by decide) ?_
      exact wg_iret F hP hS hr hlk (⟨rfl, by unfold op_start; first | (rw [hx_i]; done) | (rw [hx_i]; rfl), by unfold op_start; rw [hx_i]; exact hM, fun _ _ => rfl⟩) dX8_start_16
    · exact absurd w2_i c_4
  · have w2_i : r_1 = 1 := lc_ixr1 w_1 hx_i
    obtain ⟨hi, ei, ti⟩ := lc_ix_some hx_i
    refine lv_if_eq (tgt := 15) hx hb dX8_start_4 (by decide) (fun c_4 => ?_) (fun c_4 => ?_)
    · exact absurd (w2_i.symm.trans c_4) (by decide)
    · refine lv_aload_n hx hb dX8_start_7 rfl (lv_at hl 0 rfl) ?_
      refine lv_iload_n hx hb dX8_start_8 rfl (lv_at hl 2 rfl) ?_
      refine wg_ci hS (wg_rV (As := [.int h]) (rest := []) F hP hS (c_X8_isHead l E A C S h hM hI) ok_X8_isHead tb_658 rfl rfl ⟨Nat.le_of_ble_eq_true rfl, Nat.le_of_ble_eq_true rfl⟩ mo rfl rfl rfl hl.1 rfl (Nat.le_of_ble_eq_true rfl) dX8_start_9 ⟨Nat.le_of_ble_eq_true rfl, Nat.le_of_ble_eq_true rfl⟩) (fun r_9 A1 C_9 H locs w_9 hP hS => ?_)
      obtain ⟨w_9, rfl, rfl⟩ := w_9
      rcases hx_j : lc_ix h (lc_nh (st_B S)) with _ | j
      · have w2_j : r_9 = 0 := lc_ixr0 w_9 hx_j
        refine lv_if_ne (tgt := 17) hx hb dX8_start_12 (by decide) (fun c_12 => ?_) (fun c_12 => ?_)
        · exact absurd w2_j c_12
        · refine lv_iconst (v := (-1)) hx hb dX8_start_15 (by decide) ?_
          exact wg_iret F hP hS hr hlk (⟨rfl, by unfold op_start; first | (rw [hx_i, hx_j]; done) | (rw [hx_i, hx_j]; rfl), by unfold op_start; rw [hx_i, hx_j]; exact hM, fun _ _ => rfl⟩) dX8_start_16
      · have w2_j : r_9 = 1 := lc_ixr1 w_9 hx_j
        obtain ⟨hj, ej, tj⟩ := lc_ix_some hx_j
        refine lv_if_ne (tgt := 17) hx hb dX8_start_12 (by decide) (fun c_12 => ?_) (fun c_12 => ?_)
        · refine lv_aload_n hx hb dX8_start_17 rfl (lv_at hl 0 rfl) ?_
          refine wg_get F hP mo rfl iw_X8 10 (by decide) tb_559 rfl rfl dX8_start_18 ?_
          refine lv_iload_n hx hb dX8_start_21 rfl (lv_at hl 1 rfl) ?_
          refine wg_topi (y := nI i) ei ?_
          refine lv_iconst (v := 1) hx hb dX8_start_22 (by decide) ?_
          refine wg_ist F hP hS m10 (vp_in_nI hi (by decide)) dX8_start_23 (fun H locs hP hS => ?_)
          obtain ⟨C_23, hC_23⟩ : ∃ z : wg_C, z = va_up C 1010 (some (.inl (E.2.1 0, 4, .inl (upd g10 (nI i).toNatClampNeg 1)))) := ⟨_, rfl⟩
          have hP : wg_P E A C_23 H := by rw [hC_23]; exact hP
          have mo_c23 : C_23 1000 = some (.inr (8, [.int (nI (lc_ns (st_B S))), .ref (A 1001), .int (nI (lc_nh (st_B S))), .ref (A 1003), .ref (A 1004), .ref (A 1005), .ref (A 1006), .ref (A 1007), .ref (A 1008), .ref (A 1009), .ref (A 1010), .ref (A 1011), .ref (A 1012), .ref (A 1013), .ref (A 1014), .ref (A 1015), .ref (A 1016), .ref (A 1017), .ref (A 1018), .int (nI (st_pa S)), .int (nI (st_pb S)), .long (st_va S), .long (st_vb S), .int (nI (st_ct S)), .ref (A 1024), .ref (A 1025), .ref (A 1026), .ref (A 1027), .ref (A 1028)])) := by rw [hC_23]; rw [va_up_ne _ _ (by decide)]; exact mo
          have m10_c23 : C_23 1010 = some (.inl (E.2.1 0, 4, .inl (upd g10 (nI i).toNatClampNeg 1))) := by rw [hC_23]; exact va_up_self _ _ _
          have m11_c23 : C_23 1011 = some (.inl (E.2.1 0, 44, .inl g11)) := by rw [hC_23]; rw [va_up_ne _ _ (by decide)]; exact m11
          have m12_c23 : C_23 1012 = some (.inl (E.2.1 0, 4, .inl g12)) := by rw [hC_23]; rw [va_up_ne _ _ (by decide)]; exact m12
          have m13_c23 : C_23 1013 = some (.inl (E.2.1 0, 4, .inl g13)) := by rw [hC_23]; rw [va_up_ne _ _ (by decide)]; exact m13
          have m14_c23 : C_23 1014 = some (.inl (E.2.1 0, 4, .inl g14)) := by rw [hC_23]; rw [va_up_ne _ _ (by decide)]; exact m14
          refine lv_aload_n hx hb dX8_start_24 rfl (lv_at hl 0 rfl) ?_
          refine wg_get F hP mo_c23 rfl iw_X8 11 (by decide) tb_560 rfl rfl dX8_start_25 ?_
          refine lv_bipush (v := 11) hx hb dX8_start_28 (by decide) ?_
          refine lv_iload_n hx hb dX8_start_30 rfl (lv_at hl 1 rfl) ?_
          refine wg_topi (y := nI i) ei ?_
          refine lv_imul hx hb dX8_start_31 ?_
          refine wg_topi (y := nI (11 * i)) (by rw [show (11 : Int32) = nI 11 from rfl, pk_mul]) ?_
          refine lv_iload_n hx hb dX8_start_32 rfl (lv_at hl 2 rfl) ?_
          refine wg_topi (y := nI j) ej ?_
          refine wg_ist F hP hS m11_c23 (vp_in_nI (by omega) (by decide)) dX8_start_33 (fun H locs hP hS => ?_)
          obtain ⟨C_33, hC_33⟩ : ∃ z : wg_C, z = va_up C_23 1011 (some (.inl (E.2.1 0, 44, .inl (upd g11 (nI (11 * i)).toNatClampNeg (nI j))))) := ⟨_, rfl⟩
          have hP : wg_P E A C_33 H := by rw [hC_33]; exact hP
          have mo_c33 : C_33 1000 = some (.inr (8, [.int (nI (lc_ns (st_B S))), .ref (A 1001), .int (nI (lc_nh (st_B S))), .ref (A 1003), .ref (A 1004), .ref (A 1005), .ref (A 1006), .ref (A 1007), .ref (A 1008), .ref (A 1009), .ref (A 1010), .ref (A 1011), .ref (A 1012), .ref (A 1013), .ref (A 1014), .ref (A 1015), .ref (A 1016), .ref (A 1017), .ref (A 1018), .int (nI (st_pa S)), .int (nI (st_pb S)), .long (st_va S), .long (st_vb S), .int (nI (st_ct S)), .ref (A 1024), .ref (A 1025), .ref (A 1026), .ref (A 1027), .ref (A 1028)])) := by rw [hC_33]; rw [va_up_ne _ _ (by decide)]; exact mo_c23
          have m10_c33 : C_33 1010 = some (.inl (E.2.1 0, 4, .inl (upd g10 (nI i).toNatClampNeg 1))) := by rw [hC_33]; rw [va_up_ne _ _ (by decide)]; exact m10_c23
          have m11_c33 : C_33 1011 = some (.inl (E.2.1 0, 44, .inl (upd g11 (nI (11 * i)).toNatClampNeg (nI j)))) := by rw [hC_33]; exact va_up_self _ _ _
          have m12_c33 : C_33 1012 = some (.inl (E.2.1 0, 4, .inl g12)) := by rw [hC_33]; rw [va_up_ne _ _ (by decide)]; exact m12_c23
          have m13_c33 : C_33 1013 = some (.inl (E.2.1 0, 4, .inl g13)) := by rw [hC_33]; rw [va_up_ne _ _ (by decide)]; exact m13_c23
          have m14_c33 : C_33 1014 = some (.inl (E.2.1 0, 4, .inl g14)) := by rw [hC_33]; rw [va_up_ne _ _ (by decide)]; exact m14_c23
          refine lv_aload_n hx hb dX8_start_34 rfl (lv_at hl 0 rfl) ?_
          refine wg_get F hP mo_c33 rfl iw_X8 12 (by decide) tb_561 rfl rfl dX8_start_35 ?_
          refine lv_iload_n hx hb dX8_start_38 rfl (lv_at hl 1 rfl) ?_
          refine wg_topi (y := nI i) ei ?_
          refine lv_iconst (v := 0) hx hb dX8_start_39 (by decide) ?_
          refine wg_ist F hP hS m12_c33 (vp_in_nI hi (by decide)) dX8_start_40 (fun H locs hP hS => ?_)
          obtain ⟨C_40, hC_40⟩ : ∃ z : wg_C, z = va_up C_33 1012 (some (.inl (E.2.1 0, 4, .inl (upd g12 (nI i).toNatClampNeg 0)))) := ⟨_, rfl⟩
          have hP : wg_P E A C_40 H := by rw [hC_40]; exact hP
          have mo_c40 : C_40 1000 = some (.inr (8, [.int (nI (lc_ns (st_B S))), .ref (A 1001), .int (nI (lc_nh (st_B S))), .ref (A 1003), .ref (A 1004), .ref (A 1005), .ref (A 1006), .ref (A 1007), .ref (A 1008), .ref (A 1009), .ref (A 1010), .ref (A 1011), .ref (A 1012), .ref (A 1013), .ref (A 1014), .ref (A 1015), .ref (A 1016), .ref (A 1017), .ref (A 1018), .int (nI (st_pa S)), .int (nI (st_pb S)), .long (st_va S), .long (st_vb S), .int (nI (st_ct S)), .ref (A 1024), .ref (A 1025), .ref (A 1026), .ref (A 1027), .ref (A 1028)])) := by rw [hC_40]; rw [va_up_ne _ _ (by decide)]; exact mo_c33
          have m10_c40 : C_40 1010 = some (.inl (E.2.1 0, 4, .inl (upd g10 (nI i).toNatClampNeg 1))) := by rw [hC_40]; rw [va_up_ne _ _ (by decide)]; exact m10_c33
          have m11_c40 : C_40 1011 = some (.inl (E.2.1 0, 44, .inl (upd g11 (nI (11 * i)).toNatClampNeg (nI j)))) := by rw [hC_40]; rw [va_up_ne _ _ (by decide)]; exact m11_c33
          have m12_c40 : C_40 1012 = some (.inl (E.2.1 0, 4, .inl (upd g12 (nI i).toNatClampNeg 0))) := by rw [hC_40]; exact va_up_self _ _ _
          have m13_c40 : C_40 1013 = some (.inl (E.2.1 0, 4, .inl g13)) := by rw [hC_40]; rw [va_up_ne _ _ (by decide)]; exact m13_c33
          have m14_c40 : C_40 1014 = some (.inl (E.2.1 0, 4, .inl g14)) := by rw [hC_40]; rw [va_up_ne _ _ (by decide)]; exact m14_c33
          refine lv_aload_n hx hb dX8_start_41 rfl (lv_at hl 0 rfl) ?_
          refine wg_get F hP mo_c40 rfl iw_X8 13 (by decide) tb_562 rfl rfl dX8_start_42 ?_
          refine lv_iload_n hx hb dX8_start_45 rfl (lv_at hl 1 rfl) ?_
          refine wg_topi (y := nI i) ei ?_
          refine lv_bipush (v := (-2)) hx hb dX8_start_46 (by decide) ?_
          refine wg_ist F hP hS m13_c40 (vp_in_nI hi (by decide)) dX8_start_48 (fun H locs hP hS => ?_)
          obtain ⟨C_48, hC_48⟩ : ∃ z : wg_C, z = va_up C_40 1013 (some (.inl (E.2.1 0, 4, .inl (upd g13 (nI i).toNatClampNeg ((-2)))))) := ⟨_, rfl⟩
          have hP : wg_P E A C_48 H := by rw [hC_48]; exact hP
          have mo_c48 : C_48 1000 = some (.inr (8, [.int (nI (lc_ns (st_B S))), .ref (A 1001), .int (nI (lc_nh (st_B S))), .ref (A 1003), .ref (A 1004), .ref (A 1005), .ref (A 1006), .ref (A 1007), .ref (A 1008), .ref (A 1009), .ref (A 1010), .ref (A 1011), .ref (A 1012), .ref (A 1013), .ref (A 1014), .ref (A 1015), .ref (A 1016), .ref (A 1017), .ref (A 1018), .int (nI (st_pa S)), .int (nI (st_pb S)), .long (st_va S), .long (st_vb S), .int (nI (st_ct S)), .ref (A 1024), .ref (A 1025), .ref (A 1026), .ref (A 1027), .ref (A 1028)])) := by rw [hC_48]; rw [va_up_ne _ _ (by decide)]; exact mo_c40
          have m10_c48 : C_48 1010 = some (.inl (E.2.1 0, 4, .inl (upd g10 (nI i).toNatClampNeg 1))) := by rw [hC_48]; rw [va_up_ne _ _ (by decide)]; exact m10_c40
          have m11_c48 : C_48 1011 = some (.inl (E.2.1 0, 44, .inl (upd g11 (nI (11 * i)).toNatClampNeg (nI j)))) := by rw [hC_48]; rw [va_up_ne _ _ (by decide)]; exact m11_c40
          have m12_c48 : C_48 1012 = some (.inl (E.2.1 0, 4, .inl (upd g12 (nI i).toNatClampNeg 0))) := by rw [hC_48]; rw [va_up_ne _ _ (by decide)]; exact m12_c40
          have m13_c48 : C_48 1013 = some (.inl (E.2.1 0, 4, .inl (upd g13 (nI i).toNatClampNeg ((-2))))) := by rw [hC_48]; exact va_up_self _ _ _
          have m14_c48 : C_48 1014 = some (.inl (E.2.1 0, 4, .inl g14)) := by rw [hC_48]; rw [va_up_ne _ _ (by decide)]; exact m14_c40
          refine lv_aload_n hx hb dX8_start_49 rfl (lv_at hl 0 rfl) ?_
          refine wg_get F hP mo_c48 rfl iw_X8 14 (by decide) tb_563 rfl rfl dX8_start_50 ?_
          refine lv_iload_n hx hb dX8_start_53 rfl (lv_at hl 1 rfl) ?_
          refine wg_topi (y := nI i) ei ?_
          refine lv_bipush (v := (-2)) hx hb dX8_start_54 (by decide) ?_
          refine wg_ist F hP hS m14_c48 (vp_in_nI hi (by decide)) dX8_start_56 (fun H locs hP hS => ?_)
          obtain ⟨C_56, hC_56⟩ : ∃ z : wg_C, z = va_up C_48 1014 (some (.inl (E.2.1 0, 4, .inl (upd g14 (nI i).toNatClampNeg ((-2)))))) := ⟨_, rfl⟩
          have hP : wg_P E A C_56 H := by rw [hC_56]; exact hP
          have mo_c56 : C_56 1000 = some (.inr (8, [.int (nI (lc_ns (st_B S))), .ref (A 1001), .int (nI (lc_nh (st_B S))), .ref (A 1003), .ref (A 1004), .ref (A 1005), .ref (A 1006), .ref (A 1007), .ref (A 1008), .ref (A 1009), .ref (A 1010), .ref (A 1011), .ref (A 1012), .ref (A 1013), .ref (A 1014), .ref (A 1015), .ref (A 1016), .ref (A 1017), .ref (A 1018), .int (nI (st_pa S)), .int (nI (st_pb S)), .long (st_va S), .long (st_vb S), .int (nI (st_ct S)), .ref (A 1024), .ref (A 1025), .ref (A 1026), .ref (A 1027), .ref (A 1028)])) := by rw [hC_56]; rw [va_up_ne _ _ (by decide)]; exact mo_c48
          have m10_c56 : C_56 1010 = some (.inl (E.2.1 0, 4, .inl (upd g10 (nI i).toNatClampNeg 1))) := by rw [hC_56]; rw [va_up_ne _ _ (by decide)]; exact m10_c48
          have m11_c56 : C_56 1011 = some (.inl (E.2.1 0, 44, .inl (upd g11 (nI (11 * i)).toNatClampNeg (nI j)))) := by rw [hC_56]; rw [va_up_ne _ _ (by decide)]; exact m11_c48
          have m12_c56 : C_56 1012 = some (.inl (E.2.1 0, 4, .inl (upd g12 (nI i).toNatClampNeg 0))) := by rw [hC_56]; rw [va_up_ne _ _ (by decide)]; exact m12_c48
          have m13_c56 : C_56 1013 = some (.inl (E.2.1 0, 4, .inl (upd g13 (nI i).toNatClampNeg ((-2))))) := by rw [hC_56]; rw [va_up_ne _ _ (by decide)]; exact m13_c48
          have m14_c56 : C_56 1014 = some (.inl (E.2.1 0, 4, .inl (upd g14 (nI i).toNatClampNeg ((-2))))) := by rw [hC_56]; exact va_up_self _ _ _
          have hop : op_start S c0 h = (1, up_cl S (va_up (st_cn S) i 1) (va_up (st_cg S) i (va_up (st_cg S i) 0 j)) (va_up (st_co S) i 0) (va_up (st_rb S) i (-2)) (va_up (st_ra S) i (-2))) := by unfold op_start; rw [hx_i, hx_j]
          have hfr : ∀ r, r ≠ 1010 → r ≠ 1011 → r ≠ 1012 → r ≠ 1013 → r ≠ 1014 → C_56 r = C r := fun r h0 h1 h2 h3 h4 => by rw [hC_56, va_up_ne _ _ h4, hC_48, va_up_ne _ _ h3, hC_40, va_up_ne _ _ h2, hC_33, va_up_ne _ _ h1, hC_23, va_up_ne _ _ h0]
          have n11 : ∀ i2, i2 < 4 → ∀ q, q < va_up (st_cn S) i 1 i2 → (upd g11 (nI (11 * i)).toNatClampNeg (nI j)) (11 * i2 + q) = nI (va_up (st_cg S) i (va_up (st_cg S i) 0 j) i2 q) := by rw [nI_clamp (by omega)]; exact lm_put2 (W := 11) (p := 0) (fun i2 q hne hq => by omega) (fun i2 hi2 => by have := (icl i2 hi2).1; omega) r11 (fun q h1 h2 => by omega)
          refine lv_iconst (v := 1) hx hb dX8_start_57 (by decide) ?_
          exact wg_iret F hP hS hr hlk (⟨rfl, by rw [hop], by rw [hop]; exact ⟨(hfr 1000 (by decide) (by decide) (by decide) (by decide) (by decide)).trans hM.1, hM.2.1.same (hfr 1001 (by decide) (by decide) (by decide) (by decide) (by decide)), hM.2.2.1.same (hfr 1003 (by decide) (by decide) (by decide) (by decide) (by decide)), hM.2.2.2.1.same (hfr 1004 (by decide) (by decide) (by decide) (by decide) (by decide)), hM.2.2.2.2.1.same (hfr 1005 (by decide) (by decide) (by decide) (by decide) (by decide)), hM.2.2.2.2.2.1.same (hfr 1006 (by decide) (by decide) (by decide) (by decide) (by decide)), hM.2.2.2.2.2.2.1.same (hfr 1007 (by decide) (by decide) (by decide) (by decide) (by decide)), hM.2.2.2.2.2.2.2.1.same (hfr 1008 (by decide) (by decide) (by decide) (by decide) (by decide)), hM.2.2.2.2.2.2.2.2.1.same (hfr 1009 (by decide) (by decide) (by decide) (by decide) (by decide)), ⟨_, m10_c56, (by rw [nI_clamp (by omega)]; exact lm_upN (w := 1) r10)⟩, ⟨_, m11_c56, n11⟩, ⟨_, m12_c56, (by rw [nI_clamp (by omega)]; exact lm_upI r12)⟩, ⟨_, m13_c56, (by rw [nI_clamp (by omega)]; exact lm_upI r13)⟩, ⟨_, m14_c56, (by rw [nI_clamp (by omega)]; exact lm_upI r14)⟩, hM.2.2.2.2.2.2.2.2.2.2.2.2.2.2.1.same (hfr 1015 (by decide) (by decide) (by decide) (by decide) (by decide)), hM.2.2.2.2.2.2.2.2.2.2.2.2.2.2.2.1.same (hfr 1016 (by decide) (by decide) (by decide) (by decide) (by decide)), hM.2.2.2.2.2.2.2.2.2.2.2.2.2.2.2.2.1.same (hfr 1017 (by decide) (by decide) (by decide) (by decide) (by decide)), hM.2.2.2.2.2.2.2.2.2.2.2.2.2.2.2.2.2.1.same (hfr 1018 (by decide) (by decide) (by decide) (by decide) (by decide)), hM.2.2.2.2.2.2.2.2.2.2.2.2.2.2.2.2.2.2.1.same (hfr 1024 (by decide) (by decide) (by decide) (by decide) (by decide)), hM.2.2.2.2.2.2.2.2.2.2.2.2.2.2.2.2.2.2.2.1.same (hfr 1025 (by decide) (by decide) (by decide) (by decide) (by decide)), hM.2.2.2.2.2.2.2.2.2.2.2.2.2.2.2.2.2.2.2.2.1.same (hfr 1026 (by decide) (by decide) (by decide) (by decide) (by decide)), hM.2.2.2.2.2.2.2.2.2.2.2.2.2.2.2.2.2.2.2.2.2.1.same (hfr 1027 (by decide) (by decide) (by decide) (by decide) (by decide)), hM.2.2.2.2.2.2.2.2.2.2.2.2.2.2.2.2.2.2.2.2.2.2.same (hfr 1028 (by decide) (by decide) (by decide) (by decide) (by decide))⟩, fun q hq => hfr q (by omega) (by omega) (by omega) (by omega) (by omega)⟩) dX8_start_58
        · exact absurd (w2_j.symm.trans c_12) (by decide)
set_option maxHeartbeats 4000000 in
set_option maxRecDepth 100000 in
theorem c_X8_sign (l : Launch) (E : wg_E) (A : Nat → Nat) (C : wg_C) (S : lc_S) (h n : Int32) (hM : lm E A C S) (hI : lc_inv S)  : Met l yX8_sign (wg_ws yX8_sign cX8_sign 4 (some .int)) (wg_rm 2 0 0) (wg_Pc E A C [.ref (A 1000), .int h, .int n]) (wg_Qi E (fun r A1 C1 => A = A1 ∧ r = (op_sign S h n).1 ∧ lm E A C1 (op_sign S h n).2 ∧ ∀ q, q < 1000 → C1 q = C q)) 0 0 (wg_A E) := by
  refine wg_met (by decide) (Nat.le_of_ble_eq_true rfl) ?_
  intro p e s m below meth c ls F hr hlk hnm hP hS hl
  have F : wg_F p m c cX8_sign 4 s ([.ref (A 1000), .int h, .int n] : List Value).toArray "LightChecksModel" E := F
  have hx := F.1
  have hb := F.2.1
  have hml := F.2.2.1
  have hown := F.2.2.2.1
  have hts := F.2.2.2.2.1
  have hl : lv_has ls 4 [(0, .ref (A 1000)), (1, .int h), (2, .int n)] := hl
  obtain ⟨mo, ⟨g1, m1, r1⟩, ⟨g3, m3, r3⟩, ⟨g4, m4, r4⟩, ⟨g5, m5, r5⟩, ⟨g6, m6, r6⟩, ⟨g7, m7, r7⟩, ⟨g8, m8, r8⟩, ⟨g9, m9, r9⟩, ⟨g10, m10, r10⟩, ⟨g11, m11, r11⟩, ⟨g12, m12, r12⟩, ⟨g13, m13, r13⟩, ⟨g14, m14, r14⟩, ⟨g15, m15, r15⟩, ⟨g16, m16, r16⟩, ⟨g17, m17, r17⟩, ⟨g18, m18, r18⟩, ⟨g24, m24, r24⟩, ⟨g25, m25, r25⟩, ⟨g26, m26, r26⟩, ⟨g27, m27⟩, ⟨g28, m28, r28⟩⟩ := id hM
  obtain ⟨iok, ⟨itm, itm3a, itm3b⟩, icl, igv, ipa, ipb, ipab⟩ := id hI
  have ins := iok.1
  have inh := iok.2.1
  refine lv_aload_n hx hb dX8_sign_0 rfl (lv_at hl 0 rfl) ?_
  refine lv_iload_n hx hb dX8_sign_1 rfl (lv_at hl 1 rfl) ?_
  refine wg_ci hS (wg_rV (As := [.int h]) (rest := []) F hP hS (c_X8_isHead l E A C S h hM hI) ok_X8_isHead tb_658 rfl rfl ⟨Nat.le_of_ble_eq_true rfl, Nat.le_of_ble_eq_true rfl⟩ mo rfl rfl rfl hl.1 rfl (Nat.le_of_ble_eq_true rfl) dX8_sign_2 ⟨Nat.le_of_ble_eq_true rfl, Nat.le_of_ble_eq_true rfl⟩) (fun r_2 A1 C_2 H locs w_2 hP hS => ?_)
  obtain ⟨w_2, rfl, rfl⟩ := w_2
  rcases hx_j : lc_ix h (lc_nh (st_B S)) with _ | j
  · have w2_j : r_2 = 0 := lc_ixr0 w_2 hx_j
    refine lv_if_eq (tgt := 20) hx hb dX8_sign_5 (by decide) (fun c_5 => ?_) (fun c_5 => ?_)
    · have hop : op_sign S h n = (-1, S) := by unfold op_sign; rw [hx_j]
      refine lv_iconst (v := (-1)) hx hb dX8_sign_20 (by decide) ?_
      exact wg_iret F hP hS hr hlk (⟨rfl, by rw [hop], by rw [hop]; exact hM, fun _ _ => rfl⟩) dX8_sign_21
    · exact absurd w2_j c_5
  · have w2_j : r_2 = 1 := lc_ixr1 w_2 hx_j
    obtain ⟨hj, ej, tj⟩ := lc_ix_some hx_j
    refine lv_if_eq (tgt := 20) hx hb dX8_sign_5 (by decide) (fun c_5 => ?_) (fun c_5 => ?_)
    · exact absurd (w2_j.symm.trans c_5) (by decide)
    · refine lv_iload_n hx hb dX8_sign_8 rfl (lv_at hl 2 rfl) ?_
      refine lv_i2l (v := n.toInt64) hx hb dX8_sign_9 rfl ?_
      refine lv_lconst (v := 0) hx hb dX8_sign_10 (by decide) ?_
      refine lv_ldc2 (v := 9) hx hb hown (hts _ tb_662) dX8_sign_11 ?_
      refine wg_ci hS (wg_rS (As := [.long n.toInt64, .long 0, .long 9]) (rest := []) F hP hS (c_X8_in l E A C _ _ _) ok_X8_in tb_532 rfl rfl ⟨Nat.le_of_ble_eq_true rfl, Nat.le_of_ble_eq_true rfl⟩ rfl hl.1 rfl (Nat.le_of_ble_eq_true rfl) dX8_sign_14 ⟨Nat.le_of_ble_eq_true rfl, Nat.le_of_ble_eq_true rfl⟩) (fun r_14 A1 C_14 H locs w_14 hP hS => ?_)
      obtain ⟨w_14, rfl, rfl⟩ := w_14
      simp only [lc_i2l, show (0 : Int64).toInt = 0 from by decide, show (1 : Int64).toInt = 1 from by decide, show (2 : Int64).toInt = 2 from by decide, show (3 : Int64).toInt = 3 from by decide, show (4 : Int64).toInt = 4 from by decide, show (5 : Int64).toInt = 5 from by decide, show (7 : Int64).toInt = 7 from by decide, show (9 : Int64).toInt = 9 from by decide, show (10 : Int64).toInt = 10 from by decide, show (15 : Int64).toInt = 15 from by decide, show (60 : Int64).toInt = 60 from by decide, show (1000 : Int64).toInt = 1000 from by decide, show (100000 : Int64).toInt = 100000 from by decide, show (1000000 : Int64).toInt = 1000000 from by decide] at w_14
      refine lv_if_ne (tgt := 22) hx hb dX8_sign_17 (by decide) (fun c_17 => ?_) (fun c_17 => ?_)
      · have q_17 := lc_if2 w_14 c_17
        obtain ⟨k, hk10, rfl⟩ : ∃ k : Nat, k < 10 ∧ n = nI k := by
          obtain ⟨k, hk31, ek⟩ := nI_of (x := n) (by rw [Int32.lt_iff_toInt_lt, lc_t0i]; omega)
          have tk : n.toInt = (k : Int) := by rw [ek, nI_toInt hk31]
          exact ⟨k, by omega, ek⟩
        have hxk := lc_ix_in hk10 (by decide)
        have hk4 := (iok.2.2.2 j hj).2.2.2
        refine lv_aload_n hx hb dX8_sign_22 rfl (lv_at hl 0 rfl) ?_
        refine wg_get F hP mo rfl iw_X8 8 (by decide) tb_557 rfl rfl dX8_sign_23 ?_
        refine lv_iload_n hx hb dX8_sign_26 rfl (lv_at hl 1 rfl) ?_
        refine wg_topi (y := nI j) ej ?_
        refine wg_ild F hP m8 (vp_in_nI (by omega) (by decide)) dX8_sign_27 ?_
        refine wg_topi (y := nI (lc_sg (st_B S) j)) ((by rw [nI_clamp (by omega)]; exact r8 j hj)) ?_
        refine lv_istore_n (lv' := [(3, .int (nI (lc_sg (st_B S) j))), (0, .ref (A 1000)), (1, .int h), (2, .int (nI k))]) hx hb dX8_sign_28 rfl hl (by decide) rfl (fun ls hl => ?_)
        refine lv_aload_n hx hb dX8_sign_29 rfl (lv_at hl 1 rfl) ?_
        refine wg_get F hP mo rfl iw_X8 8 (by decide) tb_557 rfl rfl dX8_sign_30 ?_
        refine lv_iload_n hx hb dX8_sign_33 rfl (lv_at hl 2 rfl) ?_
        refine wg_topi (y := nI j) ej ?_
        refine lv_iload_n hx hb dX8_sign_34 rfl (lv_at hl 0 rfl) ?_
        refine lv_iconst (v := 1) hx hb dX8_sign_35 (by decide) ?_
        refine lv_iload_n hx hb dX8_sign_36 rfl (lv_at hl 3 rfl) ?_
        refine lv_ishl hx hb dX8_sign_37 ?_
        refine lv_ior hx hb dX8_sign_38 ?_
        by_cases hb0 : lc_bit (lc_sg (st_B S) j) k = 0
        · have hor := of_decide_eq_true (lc_all2 lc_orbit hk4 hk10) hb0
          refine wg_topi (y := nI (lc_sg (st_B S) j + 2 ^ k)) hor.1 ?_
          have hop : op_sign S h (nI k) = (1, up_B S (up_sg (st_B S) j (lc_sg (st_B S) j + 2 ^ k))) := by unfold op_sign; rw [hx_j, hxk]; exact if_pos hb0
          refine wg_ist F hP hS m8 (vp_in_nI (by omega) (by decide)) dX8_sign_39 (fun H locs hP hS => ?_)
          obtain ⟨C_39, hC_39⟩ : ∃ z : wg_C, z = va_up C 1008 (some (.inl (E.2.1 0, 60, .inl (upd g8 (nI j).toNatClampNeg (nI (lc_sg (st_B S) j + 2 ^ k)))))) := ⟨_, rfl⟩
          have hP : wg_P E A C_39 H := by rw [hC_39]; exact hP
          have mo_c39 : C_39 1000 = some (.inr (8, [.int (nI (lc_ns (st_B S))), .ref (A 1001), .int (nI (lc_nh (st_B S))), .ref (A 1003), .ref (A 1004), .ref (A 1005), .ref (A 1006), .ref (A 1007), .ref (A 1008), .ref (A 1009), .ref (A 1010), .ref (A 1011), .ref (A 1012), .ref (A 1013), .ref (A 1014), .ref (A 1015), .ref (A 1016), .ref (A 1017), .ref (A 1018), .int (nI (st_pa S)), .int (nI (st_pb S)), .long (st_va S), .long (st_vb S), .int (nI (st_ct S)), .ref (A 1024), .ref (A 1025), .ref (A 1026), .ref (A 1027), .ref (A 1028)])) := by rw [hC_39]; rw [va_up_ne _ _ (by decide)]; exact mo
          have m8_c39 : C_39 1008 = some (.inl (E.2.1 0, 60, .inl (upd g8 (nI j).toNatClampNeg (nI (lc_sg (st_B S) j + 2 ^ k))))) := by rw [hC_39]; exact va_up_self _ _ _
          refine lv_aload_n hx hb dX8_sign_40 rfl (lv_at hl 1 rfl) ?_
          refine wg_get F hP mo_c39 rfl iw_X8 8 (by decide) tb_557 rfl rfl dX8_sign_41 ?_
          refine lv_iload_n hx hb dX8_sign_44 rfl (lv_at hl 2 rfl) ?_
          refine wg_topi (y := nI j) ej ?_
          refine wg_ild F hP m8_c39 (vp_in_nI (by omega) (by decide)) dX8_sign_45 ?_
          refine wg_topi (y := nI (lc_sg (st_B S) j + 2 ^ k)) (by rw [pk_us]) ?_
          refine lv_iload_n hx hb dX8_sign_46 rfl (lv_at hl 0 rfl) ?_
          refine lv_icmp_ne (tgt := 54) hx hb dX8_sign_47 (by decide) (fun c_47 => ?_) (fun c_47 => ?_)
          · refine lv_iconst (v := 1) hx hb dX8_sign_54 (by decide) ?_
            have hfr : ∀ r, r ≠ 1008 → C_39 r = C r := fun r h0 => by rw [hC_39, va_up_ne _ _ h0]
            have n8 : ∀ k2, k2 < lc_nh (st_B S) → (upd g8 (nI j).toNatClampNeg (nI (lc_sg (st_B S) j + 2 ^ k))) k2 = nI (lc_sg (up_sg (st_B S) j (lc_sg (st_B S) j + 2 ^ k)) k2) := (by rw [nI_clamp (by omega)]; exact lm_upN r8)
            exact wg_iret F hP hS hr hlk (⟨rfl, by rw [hop], by rw [hop]; exact ⟨(hfr 1000 (by decide)).trans hM.1, hM.2.1.same (hfr 1001 (by decide)), hM.2.2.1.same (hfr 1003 (by decide)), hM.2.2.2.1.same (hfr 1004 (by decide)), hM.2.2.2.2.1.same (hfr 1005 (by decide)), hM.2.2.2.2.2.1.same (hfr 1006 (by decide)), hM.2.2.2.2.2.2.1.same (hfr 1007 (by decide)), ⟨_, m8_c39, n8⟩, hM.2.2.2.2.2.2.2.2.1.same (hfr 1009 (by decide)), hM.2.2.2.2.2.2.2.2.2.1.same (hfr 1010 (by decide)), hM.2.2.2.2.2.2.2.2.2.2.1.same (hfr 1011 (by decide)), hM.2.2.2.2.2.2.2.2.2.2.2.1.same (hfr 1012 (by decide)), hM.2.2.2.2.2.2.2.2.2.2.2.2.1.same (hfr 1013 (by decide)), hM.2.2.2.2.2.2.2.2.2.2.2.2.2.1.same (hfr 1014 (by decide)), hM.2.2.2.2.2.2.2.2.2.2.2.2.2.2.1.same (hfr 1015 (by decide)), hM.2.2.2.2.2.2.2.2.2.2.2.2.2.2.2.1.same (hfr 1016 (by decide)), hM.2.2.2.2.2.2.2.2.2.2.2.2.2.2.2.2.1.same (hfr 1017 (by decide)), hM.2.2.2.2.2.2.2.2.2.2.2.2.2.2.2.2.2.1.same (hfr 1018 (by decide)), hM.2.2.2.2.2.2.2.2.2.2.2.2.2.2.2.2.2.2.1.same (hfr 1024 (by decide)), hM.2.2.2.2.2.2.2.2.2.2.2.2.2.2.2.2.2.2.2.1.same (hfr 1025 (by decide)), hM.2.2.2.2.2.2.2.2.2.2.2.2.2.2.2.2.2.2.2.2.1.same (hfr 1026 (by decide)), hM.2.2.2.2.2.2.2.2.2.2.2.2.2.2.2.2.2.2.2.2.2.1.same (hfr 1027 (by decide)), hM.2.2.2.2.2.2.2.2.2.2.2.2.2.2.2.2.2.2.2.2.2.2.same (hfr 1028 (by decide))⟩, fun q hq => hfr q (by omega)⟩) dX8_sign_55
          · exact absurd c_47 (by rw [nI_eq (by omega) (by omega)]; have : 0 < 2 ^ k := Nat.pos_of_ne_zero (by exact Nat.ne_of_gt (Nat.two_pow_pos k)); omega)
        · refine wg_topi (y := nI (lc_sg (st_B S) j)) (of_decide_eq_true (lc_all2 lc_orbit1 hk4 hk10) hb0) ?_
          have hop : op_sign S h (nI k) = (0, S) := by unfold op_sign; rw [hx_j, hxk]; exact if_neg hb0
          refine wg_ist F hP hS m8 (vp_in_nI (by omega) (by decide)) dX8_sign_39 (fun H locs hP hS => ?_)
          obtain ⟨C_39_1, hC_39_1⟩ : ∃ z : wg_C, z = va_up C 1008 (some (.inl (E.2.1 0, 60, .inl (upd g8 (nI j).toNatClampNeg (nI (lc_sg (st_B S) j)))))) := ⟨_, rfl⟩
          have hP : wg_P E A C_39_1 H := by rw [hC_39_1]; exact hP
          have mo_c39_1 : C_39_1 1000 = some (.inr (8, [.int (nI (lc_ns (st_B S))), .ref (A 1001), .int (nI (lc_nh (st_B S))), .ref (A 1003), .ref (A 1004), .ref (A 1005), .ref (A 1006), .ref (A 1007), .ref (A 1008), .ref (A 1009), .ref (A 1010), .ref (A 1011), .ref (A 1012), .ref (A 1013), .ref (A 1014), .ref (A 1015), .ref (A 1016), .ref (A 1017), .ref (A 1018), .int (nI (st_pa S)), .int (nI (st_pb S)), .long (st_va S), .long (st_vb S), .int (nI (st_ct S)), .ref (A 1024), .ref (A 1025), .ref (A 1026), .ref (A 1027), .ref (A 1028)])) := by rw [hC_39_1]; rw [va_up_ne _ _ (by decide)]; exact mo
          have m8_c39_1 : C_39_1 1008 = some (.inl (E.2.1 0, 60, .inl (upd g8 (nI j).toNatClampNeg (nI (lc_sg (st_B S) j))))) := by rw [hC_39_1]; exact va_up_self _ _ _
          refine lv_aload_n hx hb dX8_sign_40 rfl (lv_at hl 1 rfl) ?_
          refine wg_get F hP mo_c39_1 rfl iw_X8 8 (by decide) tb_557 rfl rfl dX8_sign_41 ?_
          refine lv_iload_n hx hb dX8_sign_44 rfl (lv_at hl 2 rfl) ?_
          refine wg_topi (y := nI j) ej ?_
          refine wg_ild F hP m8_c39_1 (vp_in_nI (by omega) (by decide)) dX8_sign_45 ?_
          refine wg_topi (y := nI (lc_sg (st_B S) j)) (by rw [pk_us]) ?_
          refine lv_iload_n hx hb dX8_sign_46 rfl (lv_at hl 0 rfl) ?_
          refine lv_icmp_ne (tgt := 54) hx hb dX8_sign_47 (by decide) (fun c_47 => ?_) (fun c_47 => ?_)
          · exact absurd rfl c_47
          · refine lv_iconst (v := 0) hx hb dX8_sign_50 (by decide) ?_
            refine lv_goto (tgt := 55) hx hb dX8_sign_51 (by decide) ?_
            have hfr : ∀ r, r ≠ 1008 → C_39_1 r = C r := fun r h0 => by rw [hC_39_1, va_up_ne _ _ h0]
            have n8 : ∀ k2, k2 < lc_nh (st_B S) → (upd g8 (nI j).toNatClampNeg (nI (lc_sg (st_B S) j))) k2 = nI (lc_sg (st_B S) k2) := by rw [nI_clamp (by omega)]; exact fun k2 hk2 => (lm_upN r8 k2 hk2).trans (by rw [lc_vid])
            exact wg_iret F hP hS hr hlk (⟨rfl, by rw [hop], by rw [hop]; exact ⟨(hfr 1000 (by decide)).trans hM.1, hM.2.1.same (hfr 1001 (by decide)), hM.2.2.1.same (hfr 1003 (by decide)), hM.2.2.2.1.same (hfr 1004 (by decide)), hM.2.2.2.2.1.same (hfr 1005 (by decide)), hM.2.2.2.2.2.1.same (hfr 1006 (by decide)), hM.2.2.2.2.2.2.1.same (hfr 1007 (by decide)), ⟨_, m8_c39_1, n8⟩, hM.2.2.2.2.2.2.2.2.1.same (hfr 1009 (by decide)), hM.2.2.2.2.2.2.2.2.2.1.same (hfr 1010 (by decide)), hM.2.2.2.2.2.2.2.2.2.2.1.same (hfr 1011 (by decide)), hM.2.2.2.2.2.2.2.2.2.2.2.1.same (hfr 1012 (by decide)), hM.2.2.2.2.2.2.2.2.2.2.2.2.1.same (hfr 1013 (by decide)), hM.2.2.2.2.2.2.2.2.2.2.2.2.2.1.same (hfr 1014 (by decide)), hM.2.2.2.2.2.2.2.2.2.2.2.2.2.2.1.same (hfr 1015 (by decide)), hM.2.2.2.2.2.2.2.2.2.2.2.2.2.2.2.1.same (hfr 1016 (by decide)), hM.2.2.2.2.2.2.2.2.2.2.2.2.2.2.2.2.1.same (hfr 1017 (by decide)), hM.2.2.2.2.2.2.2.2.2.2.2.2.2.2.2.2.2.1.same (hfr 1018 (by decide)), hM.2.2.2.2.2.2.2.2.2.2.2.2.2.2.2.2.2.2.1.same (hfr 1024 (by decide)), hM.2.2.2.2.2.2.2.2.2.2.2.2.2.2.2.2.2.2.2.1.same (hfr 1025 (by decide)), hM.2.2.2.2.2.2.2.2.2.2.2.2.2.2.2.2.2.2.2.2.1.same (hfr 1026 (by decide)), hM.2.2.2.2.2.2.2.2.2.2.2.2.2.2.2.2.2.2.2.2.2.1.same (hfr 1027 (by decide)), hM.2.2.2.2.2.2.2.2.2.2.2.2.2.2.2.2.2.2.2.2.2.2.same (hfr 1028 (by decide))⟩, fun q hq => hfr q (by omega)⟩) dX8_sign_55
      · have q_17 := lc_if1 w_14 c_17
        have hop : op_sign S h n = (-1, S) := by unfold op_sign; rw [hx_j, lc_ix_no (by omega)]
        refine lv_iconst (v := (-1)) hx hb dX8_sign_20 (by decide) ?_
        exact wg_iret F hP hS hr hlk (⟨rfl, by rw [hop], by rw [hop]; exact hM, fun _ _ => rfl⟩) dX8_sign_21
set_option maxHeartbeats 4000000 in
set_option maxRecDepth 100000 in
theorem c_X8_term (l : Launch) (E : wg_E) (A : Nat → Nat) (C : wg_C) (S : lc_S) (w v : Int32) (hM : lm E A C S) (hI : lc_inv S)  : Met l yX8_term (wg_ws yX8_term cX8_term 4 (some .int)) (wg_rm 1 0 0) (wg_Pc E A C [.ref (A 1000), .int w, .int v]) (wg_Qi E (fun r A1 C1 => A = A1 ∧ r = (op_term S w v).1 ∧ lm E A C1 (op_term S w v).2 ∧ ∀ q, q < 1000 → C1 q = C q)) 0 0 (wg_A E) := by
  refine wg_met (by decide) (Nat.le_of_ble_eq_true rfl) ?_
  intro p e s m below meth c ls F hr hlk hnm hP hS hl
  have F : wg_F p m c cX8_term 4 s ([.ref (A 1000), .int w, .int v] : List Value).toArray "LightChecksModel" E := F
  have hx := F.1
  have hb := F.2.1
  have hml := F.2.2.1
  have hown := F.2.2.2.1
  have hts := F.2.2.2.2.1
  have hl : lv_has ls 4 [(0, .ref (A 1000)), (1, .int w), (2, .int v)] := hl
  obtain ⟨mo, ⟨g1, m1, r1⟩, ⟨g3, m3, r3⟩, ⟨g4, m4, r4⟩, ⟨g5, m5, r5⟩, ⟨g6, m6, r6⟩, ⟨g7, m7, r7⟩, ⟨g8, m8, r8⟩, ⟨g9, m9, r9⟩, ⟨g10, m10, r10⟩, ⟨g11, m11, r11⟩, ⟨g12, m12, r12⟩, ⟨g13, m13, r13⟩, ⟨g14, m14, r14⟩, ⟨g15, m15, r15⟩, ⟨g16, m16, r16⟩, ⟨g17, m17, r17⟩, ⟨g18, m18, r18⟩, ⟨g24, m24, r24⟩, ⟨g25, m25, r25⟩, ⟨g26, m26, r26⟩, ⟨g27, m27⟩, ⟨g28, m28, r28⟩⟩ := id hM
  obtain ⟨iok, ⟨itm, itm3a, itm3b⟩, icl, igv, ipa, ipb, ipab⟩ := id hI
  have ins := iok.1
  have inh := iok.2.1
  refine lv_iload_n hx hb dX8_term_0 rfl (lv_at hl 1 rfl) ?_
  refine lv_i2l (v := w.toInt64) hx hb dX8_term_1 rfl ?_
  refine lv_lconst (v := 0) hx hb dX8_term_2 (by decide) ?_
  refine lv_ldc2 (v := 3) hx hb hown (hts _ tb_547) dX8_term_3 ?_
  refine wg_ci hS (wg_rS (As := [.long w.toInt64, .long 0, .long 3]) (rest := []) F hP hS (c_X8_in l E A C _ _ _) ok_X8_in tb_532 rfl rfl ⟨Nat.le_of_ble_eq_true rfl, Nat.le_of_ble_eq_true rfl⟩ rfl hl.1 rfl (Nat.le_of_ble_eq_true rfl) dX8_term_6 ⟨Nat.le_of_ble_eq_true rfl, Nat.le_of_ble_eq_true rfl⟩) (fun r_6 A1 C_6 H locs w_6 hP hS => ?_)
  obtain ⟨w_6, rfl, rfl⟩ := w_6
  simp only [lc_i2l, show (0 : Int64).toInt = 0 from by decide, show (1 : Int64).toInt = 1 from by decide, show (2 : Int64).toInt = 2 from by decide, show (3 : Int64).toInt = 3 from by decide, show (4 : Int64).toInt = 4 from by decide, show (5 : Int64).toInt = 5 from by decide, show (7 : Int64).toInt = 7 from by decide, show (9 : Int64).toInt = 9 from by decide, show (10 : Int64).toInt = 10 from by decide, show (15 : Int64).toInt = 15 from by decide, show (60 : Int64).toInt = 60 from by decide, show (1000 : Int64).toInt = 1000 from by decide, show (100000 : Int64).toInt = 100000 from by decide, show (1000000 : Int64).toInt = 1000000 from by decide] at w_6
  refine lv_if_eq (tgt := 46) hx hb dX8_term_9 (by decide) (fun c_9 => ?_) (fun c_9 => ?_)
  · have q_9 := lc_if1 w_6 c_9
    have hop : op_term S w v = (-1, S) := by unfold op_term; rw [lc_ix_no (by omega)]
    refine lv_iconst (v := (-1)) hx hb dX8_term_46 (by decide) ?_
    exact wg_iret F hP hS hr hlk (⟨rfl, by rw [hop], by rw [hop]; exact hM, fun _ _ => rfl⟩) dX8_term_47
  · have q_9 := lc_if2 w_6 c_9
    obtain ⟨k, hk4, rfl⟩ : ∃ k : Nat, k < 4 ∧ w = nI k := by
      obtain ⟨k, hk31, ek⟩ := nI_of (x := w) (by rw [Int32.lt_iff_toInt_lt, lc_t0i]; omega)
      have tk : w.toInt = (k : Int) := by rw [ek, nI_toInt hk31]
      exact ⟨k, by omega, ek⟩
    have hxk := lc_ix_in hk4 (by decide)
    refine lv_iload_n hx hb dX8_term_12 rfl (lv_at hl 2 rfl) ?_
    refine lv_i2l (v := v.toInt64) hx hb dX8_term_13 rfl ?_
    refine lv_iload_n hx hb dX8_term_14 rfl (lv_at hl 1 rfl) ?_
    refine lv_iconst (v := 3) hx hb dX8_term_15 (by decide) ?_
    refine lv_icmp_ne (tgt := 25) hx hb dX8_term_16 (by decide) (fun c_16 => ?_) (fun c_16 => ?_)
    · have h3 : ¬ k = 3 := fun z => c_16 (by rw [z]; rfl)
      refine lv_lconst (v := 1) hx hb dX8_term_25 (by decide) ?_
      refine lv_iload_n hx hb dX8_term_26 rfl (lv_at hl 1 rfl) ?_
      refine lv_iconst (v := 2) hx hb dX8_term_27 (by decide) ?_
      refine lv_icmp_ne (tgt := 37) hx hb dX8_term_28 (by decide) (fun c_28 => ?_) (fun c_28 => ?_)
      · have h2 : ¬ k = 2 := fun z => c_28 (by rw [z]; rfl)
        refine lv_ldc2 (v := 10) hx hb hown (hts _ tb_669) dX8_term_37 ?_
        refine wg_ci hS (wg_rS (As := [.long v.toInt64, .long 1, .long 10]) (rest := []) F hP hS (c_X8_in l E A C _ _ _) ok_X8_in tb_532 rfl rfl ⟨Nat.le_of_ble_eq_true rfl, Nat.le_of_ble_eq_true rfl⟩ rfl hl.1 rfl (Nat.le_of_ble_eq_true rfl) dX8_term_40 ⟨Nat.le_of_ble_eq_true rfl, Nat.le_of_ble_eq_true rfl⟩) (fun r_40 A1 C_40 H locs w_40 hP hS => ?_)
        obtain ⟨w_40, rfl, rfl⟩ := w_40
        simp only [lc_i2l, show (0 : Int64).toInt = 0 from by decide, show (1 : Int64).toInt = 1 from by decide, show (2 : Int64).toInt = 2 from by decide, show (3 : Int64).toInt = 3 from by decide, show (4 : Int64).toInt = 4 from by decide, show (5 : Int64).toInt = 5 from by decide, show (7 : Int64).toInt = 7 from by decide, show (9 : Int64).toInt = 9 from by decide, show (10 : Int64).toInt = 10 from by decide, show (15 : Int64).toInt = 15 from by decide, show (60 : Int64).toInt = 60 from by decide, show (1000 : Int64).toInt = 1000 from by decide, show (100000 : Int64).toInt = 100000 from by decide, show (1000000 : Int64).toInt = 1000000 from by decide] at w_40
        refine lv_if_ne (tgt := 48) hx hb dX8_term_43 (by decide) (fun c_43 => ?_) (fun c_43 => ?_)
        · have q_43 := lc_if2 w_40 c_43
          obtain ⟨v1, hv31, rfl⟩ := nI_of (x := v) (by rw [Int32.lt_iff_toInt_lt, lc_t0i]; omega)
          have hop : op_term S (nI k) (nI v1) = (nI (st_tm S k), up_tm S (va_up (st_tm S) k v1)) := by unfold op_term; rw [hxk]; simp only []; rw [if_neg h3, if_neg h2]; rw [if_pos (by omega), nI_toInt hv31, Int.toNat_natCast]
          refine lv_aload_n hx hb dX8_term_48 rfl (lv_at hl 0 rfl) ?_
          refine wg_get F hP mo rfl iw_X8 9 (by decide) tb_558 rfl rfl dX8_term_49 ?_
          refine lv_iload_n hx hb dX8_term_52 rfl (lv_at hl 1 rfl) ?_
          refine wg_ild F hP m9 (vp_in_nI hk4 (by decide)) dX8_term_53 ?_
          refine wg_topi (y := nI (st_tm S k)) ((by rw [nI_clamp (by omega)]; exact r9 k hk4)) ?_
          refine lv_istore_n (lv' := [(3, .int (nI (st_tm S k))), (0, .ref (A 1000)), (1, .int (nI k)), (2, .int (nI v1))]) hx hb dX8_term_54 rfl hl (by decide) rfl (fun ls hl => ?_)
          refine lv_aload_n hx hb dX8_term_55 rfl (lv_at hl 1 rfl) ?_
          refine wg_get F hP mo rfl iw_X8 9 (by decide) tb_558 rfl rfl dX8_term_56 ?_
          refine lv_iload_n hx hb dX8_term_59 rfl (lv_at hl 2 rfl) ?_
          refine lv_iload_n hx hb dX8_term_60 rfl (lv_at hl 3 rfl) ?_
          refine wg_ist F hP hS m9 (vp_in_nI hk4 (by decide)) dX8_term_61 (fun H locs hP hS => ?_)
          obtain ⟨C_61, hC_61⟩ : ∃ z : wg_C, z = va_up C 1009 (some (.inl (E.2.1 0, 4, .inl (upd g9 (nI k).toNatClampNeg (nI v1))))) := ⟨_, rfl⟩
          have hP : wg_P E A C_61 H := by rw [hC_61]; exact hP
          have mo_c61 : C_61 1000 = some (.inr (8, [.int (nI (lc_ns (st_B S))), .ref (A 1001), .int (nI (lc_nh (st_B S))), .ref (A 1003), .ref (A 1004), .ref (A 1005), .ref (A 1006), .ref (A 1007), .ref (A 1008), .ref (A 1009), .ref (A 1010), .ref (A 1011), .ref (A 1012), .ref (A 1013), .ref (A 1014), .ref (A 1015), .ref (A 1016), .ref (A 1017), .ref (A 1018), .int (nI (st_pa S)), .int (nI (st_pb S)), .long (st_va S), .long (st_vb S), .int (nI (st_ct S)), .ref (A 1024), .ref (A 1025), .ref (A 1026), .ref (A 1027), .ref (A 1028)])) := by rw [hC_61]; rw [va_up_ne _ _ (by decide)]; exact mo
          have m9_c61 : C_61 1009 = some (.inl (E.2.1 0, 4, .inl (upd g9 (nI k).toNatClampNeg (nI v1)))) := by rw [hC_61]; exact va_up_self _ _ _
          have hfr : ∀ r, r ≠ 1009 → C_61 r = C r := fun r h0 => by rw [hC_61, va_up_ne _ _ h0]
          refine lv_iload_n hx hb dX8_term_62 rfl (lv_at hl 0 rfl) ?_
          exact wg_iret F hP hS hr hlk (⟨rfl, by rw [hop], by rw [hop]; exact ⟨(hfr 1000 (by decide)).trans hM.1, hM.2.1.same (hfr 1001 (by decide)), hM.2.2.1.same (hfr 1003 (by decide)), hM.2.2.2.1.same (hfr 1004 (by decide)), hM.2.2.2.2.1.same (hfr 1005 (by decide)), hM.2.2.2.2.2.1.same (hfr 1006 (by decide)), hM.2.2.2.2.2.2.1.same (hfr 1007 (by decide)), hM.2.2.2.2.2.2.2.1.same (hfr 1008 (by decide)), ⟨_, m9_c61, (by rw [nI_clamp (by omega)]; exact lm_upN r9)⟩, hM.2.2.2.2.2.2.2.2.2.1.same (hfr 1010 (by decide)), hM.2.2.2.2.2.2.2.2.2.2.1.same (hfr 1011 (by decide)), hM.2.2.2.2.2.2.2.2.2.2.2.1.same (hfr 1012 (by decide)), hM.2.2.2.2.2.2.2.2.2.2.2.2.1.same (hfr 1013 (by decide)), hM.2.2.2.2.2.2.2.2.2.2.2.2.2.1.same (hfr 1014 (by decide)), hM.2.2.2.2.2.2.2.2.2.2.2.2.2.2.1.same (hfr 1015 (by decide)), hM.2.2.2.2.2.2.2.2.2.2.2.2.2.2.2.1.same (hfr 1016 (by decide)), hM.2.2.2.2.2.2.2.2.2.2.2.2.2.2.2.2.1.same (hfr 1017 (by decide)), hM.2.2.2.2.2.2.2.2.2.2.2.2.2.2.2.2.2.1.same (hfr 1018 (by decide)), hM.2.2.2.2.2.2.2.2.2.2.2.2.2.2.2.2.2.2.1.same (hfr 1024 (by decide)), hM.2.2.2.2.2.2.2.2.2.2.2.2.2.2.2.2.2.2.2.1.same (hfr 1025 (by decide)), hM.2.2.2.2.2.2.2.2.2.2.2.2.2.2.2.2.2.2.2.2.1.same (hfr 1026 (by decide)), hM.2.2.2.2.2.2.2.2.2.2.2.2.2.2.2.2.2.2.2.2.2.1.same (hfr 1027 (by decide)), hM.2.2.2.2.2.2.2.2.2.2.2.2.2.2.2.2.2.2.2.2.2.2.same (hfr 1028 (by decide))⟩, fun q hq => hfr q (by omega)⟩) dX8_term_63
        · have q_43 := lc_if1 w_40 c_43
          have hop : op_term S (nI k) v = (-1, S) := by unfold op_term; rw [hxk]; simp only []; rw [if_neg h3, if_neg h2]; exact if_neg (by omega)
          refine lv_iconst (v := (-1)) hx hb dX8_term_46 (by decide) ?_
          exact wg_iret F hP hS hr hlk (⟨rfl, by rw [hop], by rw [hop]; exact hM, fun _ _ => rfl⟩) dX8_term_47
      · have h2 : k = 2 := by rw [show (2 : Int32) = nI 2 from rfl, nI_eq (by omega) (by decide)] at c_28; exact c_28
        refine lv_ldc2 (v := 1000) hx hb hown (hts _ tb_668) dX8_term_31 ?_
        refine lv_goto (tgt := 40) hx hb dX8_term_34 (by decide) ?_
        refine wg_ci hS (wg_rS (As := [.long v.toInt64, .long 1, .long 1000]) (rest := []) F hP hS (c_X8_in l E A C _ _ _) ok_X8_in tb_532 rfl rfl ⟨Nat.le_of_ble_eq_true rfl, Nat.le_of_ble_eq_true rfl⟩ rfl hl.1 rfl (Nat.le_of_ble_eq_true rfl) dX8_term_40 ⟨Nat.le_of_ble_eq_true rfl, Nat.le_of_ble_eq_true rfl⟩) (fun r_40 A1 C_40 H locs w_40 hP hS => ?_)
        obtain ⟨w_40, rfl, rfl⟩ := w_40
        simp only [lc_i2l, show (0 : Int64).toInt = 0 from by decide, show (1 : Int64).toInt = 1 from by decide, show (2 : Int64).toInt = 2 from by decide, show (3 : Int64).toInt = 3 from by decide, show (4 : Int64).toInt = 4 from by decide, show (5 : Int64).toInt = 5 from by decide, show (7 : Int64).toInt = 7 from by decide, show (9 : Int64).toInt = 9 from by decide, show (10 : Int64).toInt = 10 from by decide, show (15 : Int64).toInt = 15 from by decide, show (60 : Int64).toInt = 60 from by decide, show (1000 : Int64).toInt = 1000 from by decide, show (100000 : Int64).toInt = 100000 from by decide, show (1000000 : Int64).toInt = 1000000 from by decide] at w_40
        refine lv_if_ne (tgt := 48) hx hb dX8_term_43 (by decide) (fun c_43 => ?_) (fun c_43 => ?_)
        · have q_43 := lc_if2 w_40 c_43
          obtain ⟨v1, hv31, rfl⟩ := nI_of (x := v) (by rw [Int32.lt_iff_toInt_lt, lc_t0i]; omega)
          have hop : op_term S (nI k) (nI v1) = (nI (st_tm S k), up_tm S (va_up (st_tm S) k v1)) := by unfold op_term; rw [hxk]; simp only []; rw [if_neg h3, if_pos h2]; rw [if_pos (by omega), nI_toInt hv31, Int.toNat_natCast]
          refine lv_aload_n hx hb dX8_term_48 rfl (lv_at hl 0 rfl) ?_
          refine wg_get F hP mo rfl iw_X8 9 (by decide) tb_558 rfl rfl dX8_term_49 ?_
          refine lv_iload_n hx hb dX8_term_52 rfl (lv_at hl 1 rfl) ?_
          refine wg_ild F hP m9 (vp_in_nI hk4 (by decide)) dX8_term_53 ?_
          refine wg_topi (y := nI (st_tm S k)) ((by rw [nI_clamp (by omega)]; exact r9 k hk4)) ?_
          refine lv_istore_n (lv' := [(3, .int (nI (st_tm S k))), (0, .ref (A 1000)), (1, .int (nI k)), (2, .int (nI v1))]) hx hb dX8_term_54 rfl hl (by decide) rfl (fun ls hl => ?_)
          refine lv_aload_n hx hb dX8_term_55 rfl (lv_at hl 1 rfl) ?_
          refine wg_get F hP mo rfl iw_X8 9 (by decide) tb_558 rfl rfl dX8_term_56 ?_
          refine lv_iload_n hx hb dX8_term_59 rfl (lv_at hl 2 rfl) ?_
          refine lv_iload_n hx hb dX8_term_60 rfl (lv_at hl 3 rfl) ?_
          refine wg_ist F hP hS m9 (vp_in_nI hk4 (by decide)) dX8_term_61 (fun H locs hP hS => ?_)
          obtain ⟨C_61_1, hC_61_1⟩ : ∃ z : wg_C, z = va_up C 1009 (some (.inl (E.2.1 0, 4, .inl (upd g9 (nI k).toNatClampNeg (nI v1))))) := ⟨_, rfl⟩
          have hP : wg_P E A C_61_1 H := by rw [hC_61_1]; exact hP
          have mo_c61_1 : C_61_1 1000 = some (.inr (8, [.int (nI (lc_ns (st_B S))), .ref (A 1001), .int (nI (lc_nh (st_B S))), .ref (A 1003), .ref (A 1004), .ref (A 1005), .ref (A 1006), .ref (A 1007), .ref (A 1008), .ref (A 1009), .ref (A 1010), .ref (A 1011), .ref (A 1012), .ref (A 1013), .ref (A 1014), .ref (A 1015), .ref (A 1016), .ref (A 1017), .ref (A 1018), .int (nI (st_pa S)), .int (nI (st_pb S)), .long (st_va S), .long (st_vb S), .int (nI (st_ct S)), .ref (A 1024), .ref (A 1025), .ref (A 1026), .ref (A 1027), .ref (A 1028)])) := by rw [hC_61_1]; rw [va_up_ne _ _ (by decide)]; exact mo
          have m9_c61_1 : C_61_1 1009 = some (.inl (E.2.1 0, 4, .inl (upd g9 (nI k).toNatClampNeg (nI v1)))) := by rw [hC_61_1]; exact va_up_self _ _ _
          have hfr : ∀ r, r ≠ 1009 → C_61_1 r = C r := fun r h0 => by rw [hC_61_1, va_up_ne _ _ h0]
          refine lv_iload_n hx hb dX8_term_62 rfl (lv_at hl 0 rfl) ?_
          exact wg_iret F hP hS hr hlk (⟨rfl, by rw [hop], by rw [hop]; exact ⟨(hfr 1000 (by decide)).trans hM.1, hM.2.1.same (hfr 1001 (by decide)), hM.2.2.1.same (hfr 1003 (by decide)), hM.2.2.2.1.same (hfr 1004 (by decide)), hM.2.2.2.2.1.same (hfr 1005 (by decide)), hM.2.2.2.2.2.1.same (hfr 1006 (by decide)), hM.2.2.2.2.2.2.1.same (hfr 1007 (by decide)), hM.2.2.2.2.2.2.2.1.same (hfr 1008 (by decide)), ⟨_, m9_c61_1, (by rw [nI_clamp (by omega)]; exact lm_upN r9)⟩, hM.2.2.2.2.2.2.2.2.2.1.same (hfr 1010 (by decide)), hM.2.2.2.2.2.2.2.2.2.2.1.same (hfr 1011 (by decide)), hM.2.2.2.2.2.2.2.2.2.2.2.1.same (hfr 1012 (by decide)), hM.2.2.2.2.2.2.2.2.2.2.2.2.1.same (hfr 1013 (by decide)), hM.2.2.2.2.2.2.2.2.2.2.2.2.2.1.same (hfr 1014 (by decide)), hM.2.2.2.2.2.2.2.2.2.2.2.2.2.2.1.same (hfr 1015 (by decide)), hM.2.2.2.2.2.2.2.2.2.2.2.2.2.2.2.1.same (hfr 1016 (by decide)), hM.2.2.2.2.2.2.2.2.2.2.2.2.2.2.2.2.1.same (hfr 1017 (by decide)), hM.2.2.2.2.2.2.2.2.2.2.2.2.2.2.2.2.2.1.same (hfr 1018 (by decide)), hM.2.2.2.2.2.2.2.2.2.2.2.2.2.2.2.2.2.2.1.same (hfr 1024 (by decide)), hM.2.2.2.2.2.2.2.2.2.2.2.2.2.2.2.2.2.2.2.1.same (hfr 1025 (by decide)), hM.2.2.2.2.2.2.2.2.2.2.2.2.2.2.2.2.2.2.2.2.1.same (hfr 1026 (by decide)), hM.2.2.2.2.2.2.2.2.2.2.2.2.2.2.2.2.2.2.2.2.2.1.same (hfr 1027 (by decide)), hM.2.2.2.2.2.2.2.2.2.2.2.2.2.2.2.2.2.2.2.2.2.2.same (hfr 1028 (by decide))⟩, fun q hq => hfr q (by omega)⟩) dX8_term_63
        · have q_43 := lc_if1 w_40 c_43
          have hop : op_term S (nI k) v = (-1, S) := by unfold op_term; rw [hxk]; simp only []; rw [if_neg h3, if_pos h2]; exact if_neg (by omega)
          refine lv_iconst (v := (-1)) hx hb dX8_term_46 (by decide) ?_
          exact wg_iret F hP hS hr hlk (⟨rfl, by rw [hop], by rw [hop]; exact hM, fun _ _ => rfl⟩) dX8_term_47
    · have h3 : k = 3 := by rw [show (3 : Int32) = nI 3 from rfl, nI_eq (by omega) (by decide)] at c_16; exact c_16
      refine lv_ldc2 (v := 2) hx hb hown (hts _ tb_667) dX8_term_19 ?_
      refine lv_goto (tgt := 26) hx hb dX8_term_22 (by decide) ?_
      refine lv_iload_n hx hb dX8_term_26 rfl (lv_at hl 1 rfl) ?_
      refine lv_iconst (v := 2) hx hb dX8_term_27 (by decide) ?_
      refine lv_icmp_ne (tgt := 37) hx hb dX8_term_28 (by decide) (fun c_28 => ?_) (fun c_28 => ?_)
      · have h2 : ¬ k = 2 := fun z => c_28 (by rw [z]; rfl)
        refine lv_ldc2 (v := 10) hx hb hown (hts _ tb_669) dX8_term_37 ?_
        refine wg_ci hS (wg_rS (As := [.long v.toInt64, .long 2, .long 10]) (rest := []) F hP hS (c_X8_in l E A C _ _ _) ok_X8_in tb_532 rfl rfl ⟨Nat.le_of_ble_eq_true rfl, Nat.le_of_ble_eq_true rfl⟩ rfl hl.1 rfl (Nat.le_of_ble_eq_true rfl) dX8_term_40 ⟨Nat.le_of_ble_eq_true rfl, Nat.le_of_ble_eq_true rfl⟩) (fun r_40 A1 C_40 H locs w_40 hP hS => ?_)
        obtain ⟨w_40, rfl, rfl⟩ := w_40
        simp only [lc_i2l, show (0 : Int64).toInt = 0 from by decide, show (1 : Int64).toInt = 1 from by decide, show (2 : Int64).toInt = 2 from by decide, show (3 : Int64).toInt = 3 from by decide, show (4 : Int64).toInt = 4 from by decide, show (5 : Int64).toInt = 5 from by decide, show (7 : Int64).toInt = 7 from by decide, show (9 : Int64).toInt = 9 from by decide, show (10 : Int64).toInt = 10 from by decide, show (15 : Int64).toInt = 15 from by decide, show (60 : Int64).toInt = 60 from by decide, show (1000 : Int64).toInt = 1000 from by decide, show (100000 : Int64).toInt = 100000 from by decide, show (1000000 : Int64).toInt = 1000000 from by decide] at w_40
        refine lv_if_ne (tgt := 48) hx hb dX8_term_43 (by decide) (fun c_43 => ?_) (fun c_43 => ?_)
        · have q_43 := lc_if2 w_40 c_43
          obtain ⟨v1, hv31, rfl⟩ := nI_of (x := v) (by rw [Int32.lt_iff_toInt_lt, lc_t0i]; omega)
          have hop : op_term S (nI k) (nI v1) = (nI (st_tm S k), up_tm S (va_up (st_tm S) k v1)) := by unfold op_term; rw [hxk]; simp only []; rw [if_pos h3, if_neg h2]; rw [if_pos (by omega), nI_toInt hv31, Int.toNat_natCast]
          refine lv_aload_n hx hb dX8_term_48 rfl (lv_at hl 0 rfl) ?_
          refine wg_get F hP mo rfl iw_X8 9 (by decide) tb_558 rfl rfl dX8_term_49 ?_
          refine lv_iload_n hx hb dX8_term_52 rfl (lv_at hl 1 rfl) ?_
          refine wg_ild F hP m9 (vp_in_nI hk4 (by decide)) dX8_term_53 ?_
          refine wg_topi (y := nI (st_tm S k)) ((by rw [nI_clamp (by omega)]; exact r9 k hk4)) ?_
          refine lv_istore_n (lv' := [(3, .int (nI (st_tm S k))), (0, .ref (A 1000)), (1, .int (nI k)), (2, .int (nI v1))]) hx hb dX8_term_54 rfl hl (by decide) rfl (fun ls hl => ?_)
          refine lv_aload_n hx hb dX8_term_55 rfl (lv_at hl 1 rfl) ?_
          refine wg_get F hP mo rfl iw_X8 9 (by decide) tb_558 rfl rfl dX8_term_56 ?_
          refine lv_iload_n hx hb dX8_term_59 rfl (lv_at hl 2 rfl) ?_
          refine lv_iload_n hx hb dX8_term_60 rfl (lv_at hl 3 rfl) ?_
          refine wg_ist F hP hS m9 (vp_in_nI hk4 (by decide)) dX8_term_61 (fun H locs hP hS => ?_)
          obtain ⟨C_61_2, hC_61_2⟩ : ∃ z : wg_C, z = va_up C 1009 (some (.inl (E.2.1 0, 4, .inl (upd g9 (nI k).toNatClampNeg (nI v1))))) := ⟨_, rfl⟩
          have hP : wg_P E A C_61_2 H := by rw [hC_61_2]; exact hP
          have mo_c61_2 : C_61_2 1000 = some (.inr (8, [.int (nI (lc_ns (st_B S))), .ref (A 1001), .int (nI (lc_nh (st_B S))), .ref (A 1003), .ref (A 1004), .ref (A 1005), .ref (A 1006), .ref (A 1007), .ref (A 1008), .ref (A 1009), .ref (A 1010), .ref (A 1011), .ref (A 1012), .ref (A 1013), .ref (A 1014), .ref (A 1015), .ref (A 1016), .ref (A 1017), .ref (A 1018), .int (nI (st_pa S)), .int (nI (st_pb S)), .long (st_va S), .long (st_vb S), .int (nI (st_ct S)), .ref (A 1024), .ref (A 1025), .ref (A 1026), .ref (A 1027), .ref (A 1028)])) := by rw [hC_61_2]; rw [va_up_ne _ _ (by decide)]; exact mo
          have m9_c61_2 : C_61_2 1009 = some (.inl (E.2.1 0, 4, .inl (upd g9 (nI k).toNatClampNeg (nI v1)))) := by rw [hC_61_2]; exact va_up_self _ _ _
          have hfr : ∀ r, r ≠ 1009 → C_61_2 r = C r := fun r h0 => by rw [hC_61_2, va_up_ne _ _ h0]
          refine lv_iload_n hx hb dX8_term_62 rfl (lv_at hl 0 rfl) ?_
          exact wg_iret F hP hS hr hlk (⟨rfl, by rw [hop], by rw [hop]; exact ⟨(hfr 1000 (by decide)).trans hM.1, hM.2.1.same (hfr 1001 (by decide)), hM.2.2.1.same (hfr 1003 (by decide)), hM.2.2.2.1.same (hfr 1004 (by decide)), hM.2.2.2.2.1.same (hfr 1005 (by decide)), hM.2.2.2.2.2.1.same (hfr 1006 (by decide)), hM.2.2.2.2.2.2.1.same (hfr 1007 (by decide)), hM.2.2.2.2.2.2.2.1.same (hfr 1008 (by decide)), ⟨_, m9_c61_2, (by rw [nI_clamp (by omega)]; exact lm_upN r9)⟩, hM.2.2.2.2.2.2.2.2.2.1.same (hfr 1010 (by decide)), hM.2.2.2.2.2.2.2.2.2.2.1.same (hfr 1011 (by decide)), hM.2.2.2.2.2.2.2.2.2.2.2.1.same (hfr 1012 (by decide)), hM.2.2.2.2.2.2.2.2.2.2.2.2.1.same (hfr 1013 (by decide)), hM.2.2.2.2.2.2.2.2.2.2.2.2.2.1.same (hfr 1014 (by decide)), hM.2.2.2.2.2.2.2.2.2.2.2.2.2.2.1.same (hfr 1015 (by decide)), hM.2.2.2.2.2.2.2.2.2.2.2.2.2.2.2.1.same (hfr 1016 (by decide)), hM.2.2.2.2.2.2.2.2.2.2.2.2.2.2.2.2.1.same (hfr 1017 (by decide)), hM.2.2.2.2.2.2.2.2.2.2.2.2.2.2.2.2.2.1.same (hfr 1018 (by decide)), hM.2.2.2.2.2.2.2.2.2.2.2.2.2.2.2.2.2.2.1.same (hfr 1024 (by decide)), hM.2.2.2.2.2.2.2.2.2.2.2.2.2.2.2.2.2.2.2.1.same (hfr 1025 (by decide)), hM.2.2.2.2.2.2.2.2.2.2.2.2.2.2.2.2.2.2.2.2.1.same (hfr 1026 (by decide)), hM.2.2.2.2.2.2.2.2.2.2.2.2.2.2.2.2.2.2.2.2.2.1.same (hfr 1027 (by decide)), hM.2.2.2.2.2.2.2.2.2.2.2.2.2.2.2.2.2.2.2.2.2.2.same (hfr 1028 (by decide))⟩, fun q hq => hfr q (by omega)⟩) dX8_term_63
        · have q_43 := lc_if1 w_40 c_43
          have hop : op_term S (nI k) v = (-1, S) := by unfold op_term; rw [hxk]; simp only []; rw [if_pos h3, if_neg h2]; exact if_neg (by omega)
          refine lv_iconst (v := (-1)) hx hb dX8_term_46 (by decide) ?_
          exact wg_iret F hP hS hr hlk (⟨rfl, by rw [hop], by rw [hop]; exact hM, fun _ _ => rfl⟩) dX8_term_47
      · have h2 : k = 2 := by rw [show (2 : Int32) = nI 2 from rfl, nI_eq (by omega) (by decide)] at c_28; exact c_28
        refine lv_ldc2 (v := 1000) hx hb hown (hts _ tb_668) dX8_term_31 ?_
        refine lv_goto (tgt := 40) hx hb dX8_term_34 (by decide) ?_
        refine wg_ci hS (wg_rS (As := [.long v.toInt64, .long 2, .long 1000]) (rest := []) F hP hS (c_X8_in l E A C _ _ _) ok_X8_in tb_532 rfl rfl ⟨Nat.le_of_ble_eq_true rfl, Nat.le_of_ble_eq_true rfl⟩ rfl hl.1 rfl (Nat.le_of_ble_eq_true rfl) dX8_term_40 ⟨Nat.le_of_ble_eq_true rfl, Nat.le_of_ble_eq_true rfl⟩) (fun r_40 A1 C_40 H locs w_40 hP hS => ?_)
        obtain ⟨w_40, rfl, rfl⟩ := w_40
        simp only [lc_i2l, show (0 : Int64).toInt = 0 from by decide, show (1 : Int64).toInt = 1 from by decide, show (2 : Int64).toInt = 2 from by decide, show (3 : Int64).toInt = 3 from by decide, show (4 : Int64).toInt = 4 from by decide, show (5 : Int64).toInt = 5 from by decide, show (7 : Int64).toInt = 7 from by decide, show (9 : Int64).toInt = 9 from by decide, show (10 : Int64).toInt = 10 from by decide, show (15 : Int64).toInt = 15 from by decide, show (60 : Int64).toInt = 60 from by decide, show (1000 : Int64).toInt = 1000 from by decide, show (100000 : Int64).toInt = 100000 from by decide, show (1000000 : Int64).toInt = 1000000 from by decide] at w_40
        refine lv_if_ne (tgt := 48) hx hb dX8_term_43 (by decide) (fun c_43 => ?_) (fun c_43 => ?_)
        · have q_43 := lc_if2 w_40 c_43
          obtain ⟨v1, hv31, rfl⟩ := nI_of (x := v) (by rw [Int32.lt_iff_toInt_lt, lc_t0i]; omega)
          have hop : op_term S (nI k) (nI v1) = (nI (st_tm S k), up_tm S (va_up (st_tm S) k v1)) := by unfold op_term; rw [hxk]; simp only []; rw [if_pos h3, if_pos h2]; rw [if_pos (by omega), nI_toInt hv31, Int.toNat_natCast]
          refine lv_aload_n hx hb dX8_term_48 rfl (lv_at hl 0 rfl) ?_
          refine wg_get F hP mo rfl iw_X8 9 (by decide) tb_558 rfl rfl dX8_term_49 ?_
          refine lv_iload_n hx hb dX8_term_52 rfl (lv_at hl 1 rfl) ?_
          refine wg_ild F hP m9 (vp_in_nI hk4 (by decide)) dX8_term_53 ?_
          refine wg_topi (y := nI (st_tm S k)) ((by rw [nI_clamp (by omega)]; exact r9 k hk4)) ?_
          refine lv_istore_n (lv' := [(3, .int (nI (st_tm S k))), (0, .ref (A 1000)), (1, .int (nI k)), (2, .int (nI v1))]) hx hb dX8_term_54 rfl hl (by decide) rfl (fun ls hl => ?_)
          refine lv_aload_n hx hb dX8_term_55 rfl (lv_at hl 1 rfl) ?_
          refine wg_get F hP mo rfl iw_X8 9 (by decide) tb_558 rfl rfl dX8_term_56 ?_
          refine lv_iload_n hx hb dX8_term_59 rfl (lv_at hl 2 rfl) ?_
          refine lv_iload_n hx hb dX8_term_60 rfl (lv_at hl 3 rfl) ?_
          refine wg_ist F hP hS m9 (vp_in_nI hk4 (by decide)) dX8_term_61 (fun H locs hP hS => ?_)
          obtain ⟨C_61_3, hC_61_3⟩ : ∃ z : wg_C, z = va_up C 1009 (some (.inl (E.2.1 0, 4, .inl (upd g9 (nI k).toNatClampNeg (nI v1))))) := ⟨_, rfl⟩
          have hP : wg_P E A C_61_3 H := by rw [hC_61_3]; exact hP
          have mo_c61_3 : C_61_3 1000 = some (.inr (8, [.int (nI (lc_ns (st_B S))), .ref (A 1001), .int (nI (lc_nh (st_B S))), .ref (A 1003), .ref (A 1004), .ref (A 1005), .ref (A 1006), .ref (A 1007), .ref (A 1008), .ref (A 1009), .ref (A 1010), .ref (A 1011), .ref (A 1012), .ref (A 1013), .ref (A 1014), .ref (A 1015), .ref (A 1016), .ref (A 1017), .ref (A 1018), .int (nI (st_pa S)), .int (nI (st_pb S)), .long (st_va S), .long (st_vb S), .int (nI (st_ct S)), .ref (A 1024), .ref (A 1025), .ref (A 1026), .ref (A 1027), .ref (A 1028)])) := by rw [hC_61_3]; rw [va_up_ne _ _ (by decide)]; exact mo
          have m9_c61_3 : C_61_3 1009 = some (.inl (E.2.1 0, 4, .inl (upd g9 (nI k).toNatClampNeg (nI v1)))) := by rw [hC_61_3]; exact va_up_self _ _ _
          have hfr : ∀ r, r ≠ 1009 → C_61_3 r = C r := fun r h0 => by rw [hC_61_3, va_up_ne _ _ h0]
          refine lv_iload_n hx hb dX8_term_62 rfl (lv_at hl 0 rfl) ?_
          exact wg_iret F hP hS hr hlk (⟨rfl, by rw [hop], by rw [hop]; exact ⟨(hfr 1000 (by decide)).trans hM.1, hM.2.1.same (hfr 1001 (by decide)), hM.2.2.1.same (hfr 1003 (by decide)), hM.2.2.2.1.same (hfr 1004 (by decide)), hM.2.2.2.2.1.same (hfr 1005 (by decide)), hM.2.2.2.2.2.1.same (hfr 1006 (by decide)), hM.2.2.2.2.2.2.1.same (hfr 1007 (by decide)), hM.2.2.2.2.2.2.2.1.same (hfr 1008 (by decide)), ⟨_, m9_c61_3, (by rw [nI_clamp (by omega)]; exact lm_upN r9)⟩, hM.2.2.2.2.2.2.2.2.2.1.same (hfr 1010 (by decide)), hM.2.2.2.2.2.2.2.2.2.2.1.same (hfr 1011 (by decide)), hM.2.2.2.2.2.2.2.2.2.2.2.1.same (hfr 1012 (by decide)), hM.2.2.2.2.2.2.2.2.2.2.2.2.1.same (hfr 1013 (by decide)), hM.2.2.2.2.2.2.2.2.2.2.2.2.2.1.same (hfr 1014 (by decide)), hM.2.2.2.2.2.2.2.2.2.2.2.2.2.2.1.same (hfr 1015 (by decide)), hM.2.2.2.2.2.2.2.2.2.2.2.2.2.2.2.1.same (hfr 1016 (by decide)), hM.2.2.2.2.2.2.2.2.2.2.2.2.2.2.2.2.1.same (hfr 1017 (by decide)), hM.2.2.2.2.2.2.2.2.2.2.2.2.2.2.2.2.2.1.same (hfr 1018 (by decide)), hM.2.2.2.2.2.2.2.2.2.2.2.2.2.2.2.2.2.2.1.same (hfr 1024 (by decide)), hM.2.2.2.2.2.2.2.2.2.2.2.2.2.2.2.2.2.2.2.1.same (hfr 1025 (by decide)), hM.2.2.2.2.2.2.2.2.2.2.2.2.2.2.2.2.2.2.2.2.1.same (hfr 1026 (by decide)), hM.2.2.2.2.2.2.2.2.2.2.2.2.2.2.2.2.2.2.2.2.2.1.same (hfr 1027 (by decide)), hM.2.2.2.2.2.2.2.2.2.2.2.2.2.2.2.2.2.2.2.2.2.2.same (hfr 1028 (by decide))⟩, fun q hq => hfr q (by omega)⟩) dX8_term_63
        · have q_43 := lc_if1 w_40 c_43
          have hop : op_term S (nI k) v = (-1, S) := by unfold op_term; rw [hxk]; simp only []; rw [if_pos h3, if_pos h2]; exact if_neg (by omega)
          refine lv_iconst (v := (-1)) hx hb dX8_term_46 (by decide) ?_
          exact wg_iret F hP hS hr hlk (⟨rfl, by rw [hop], by rw [hop]; exact hM, fun _ _ => rfl⟩) dX8_term_47
set_option maxHeartbeats 4000000 in
set_option maxRecDepth 100000 in
theorem c_X8_leaf (l : Launch) (E : wg_E) (A : Nat → Nat) (C : wg_C) (S : lc_S) (k : Int32) (v : Int64) (hM : lm E A C S) (hI : lc_inv S)  : Met l yX8_leaf (wg_ws yX8_leaf cX8_leaf 6 (some .long)) (wg_rm 1 0 0) (wg_Pc E A C [.ref (A 1000), .int k, .long v]) (wg_Ql E (fun r A1 C1 => A = A1 ∧ r = (op_leaf S k v).1 ∧ lm E A C1 (op_leaf S k v).2 ∧ ∀ q, q < 1000 → C1 q = C q)) 0 0 (wg_A E) := by
  refine wg_met (by decide) (Nat.le_of_ble_eq_true rfl) ?_
  intro p e s m below meth c ls F hr hlk hnm hP hS hl
  have F : wg_F p m c cX8_leaf 6 s ([.ref (A 1000), .int k, .long v] : List Value).toArray "LightChecksModel" E := F
  have hx := F.1
  have hb := F.2.1
  have hml := F.2.2.1
  have hown := F.2.2.2.1
  have hts := F.2.2.2.2.1
  have hl : lv_has ls 6 [(0, .ref (A 1000)), (1, .int k), (2, .long v)] := hl
  obtain ⟨mo, ⟨g1, m1, r1⟩, ⟨g3, m3, r3⟩, ⟨g4, m4, r4⟩, ⟨g5, m5, r5⟩, ⟨g6, m6, r6⟩, ⟨g7, m7, r7⟩, ⟨g8, m8, r8⟩, ⟨g9, m9, r9⟩, ⟨g10, m10, r10⟩, ⟨g11, m11, r11⟩, ⟨g12, m12, r12⟩, ⟨g13, m13, r13⟩, ⟨g14, m14, r14⟩, ⟨g15, m15, r15⟩, ⟨g16, m16, r16⟩, ⟨g17, m17, r17⟩, ⟨g18, m18, r18⟩, ⟨g24, m24, r24⟩, ⟨g25, m25, r25⟩, ⟨g26, m26, r26⟩, ⟨g27, m27⟩, ⟨g28, m28, r28⟩⟩ := id hM
  obtain ⟨iok, ⟨itm, itm3a, itm3b⟩, icl, igv, ipa, ipb, ipab⟩ := id hI
  have ins := iok.1
  have inh := iok.2.1
  refine lv_iload_n hx hb dX8_leaf_0 rfl (lv_at hl 1 rfl) ?_
  refine lv_i2l (v := k.toInt64) hx hb dX8_leaf_1 rfl ?_
  refine lv_lconst (v := 0) hx hb dX8_leaf_2 (by decide) ?_
  refine lv_ldc2 (v := 7) hx hb hown (hts _ tb_531) dX8_leaf_3 ?_
  refine wg_ci hS (wg_rS (As := [.long k.toInt64, .long 0, .long 7]) (rest := []) F hP hS (c_X8_in l E A C _ _ _) ok_X8_in tb_532 rfl rfl ⟨Nat.le_of_ble_eq_true rfl, Nat.le_of_ble_eq_true rfl⟩ rfl hl.1 rfl (Nat.le_of_ble_eq_true rfl) dX8_leaf_6 ⟨Nat.le_of_ble_eq_true rfl, Nat.le_of_ble_eq_true rfl⟩) (fun r_6 A1 C_6 H locs w_6 hP hS => ?_)
  obtain ⟨w_6, rfl, rfl⟩ := w_6
  simp only [lc_i2l, show (0 : Int64).toInt = 0 from by decide, show (1 : Int64).toInt = 1 from by decide, show (2 : Int64).toInt = 2 from by decide, show (3 : Int64).toInt = 3 from by decide, show (4 : Int64).toInt = 4 from by decide, show (5 : Int64).toInt = 5 from by decide, show (7 : Int64).toInt = 7 from by decide, show (9 : Int64).toInt = 9 from by decide, show (10 : Int64).toInt = 10 from by decide, show (15 : Int64).toInt = 15 from by decide, show (60 : Int64).toInt = 60 from by decide, show (1000 : Int64).toInt = 1000 from by decide, show (100000 : Int64).toInt = 100000 from by decide, show (1000000 : Int64).toInt = 1000000 from by decide] at w_6
  refine lv_if_ne (tgt := 14) hx hb dX8_leaf_9 (by decide) (fun c_9 => ?_) (fun c_9 => ?_)
  · have q_9 := lc_if2 w_6 c_9
    obtain ⟨j, hj8, rfl⟩ : ∃ j : Nat, j < 8 ∧ k = nI j := by
      obtain ⟨j, hj31, ek⟩ := nI_of (x := k) (by rw [Int32.lt_iff_toInt_lt, lc_t0i]; omega)
      have tk : k.toInt = (j : Int) := by rw [ek, nI_toInt hj31]
      exact ⟨j, by omega, ek⟩
    have hop : op_leaf S (nI j) v = (st_lf S j, up_lf S (vp_updL (st_lf S) j v)) := by unfold op_leaf; rw [lc_ix_in hj8 (by decide)]
    refine lv_aload_n hx hb dX8_leaf_14 rfl (lv_at hl 0 rfl) ?_
    refine wg_get F hP mo rfl iw_X8 17 (by decide) tb_566 rfl rfl dX8_leaf_15 ?_
    refine lv_iload_n hx hb dX8_leaf_18 rfl (lv_at hl 1 rfl) ?_
    refine wg_lld F hP m17 (vp_in_nI hj8 (by decide)) dX8_leaf_19 ?_
    refine wg_topl (y := st_lf S j) ((by rw [nI_clamp (by omega)]; exact r17 j hj8)) ?_
    refine lv_lstore (lv' := [(4, .long (st_lf S j)), (0, .ref (A 1000)), (1, .int (nI j)), (2, .long v)]) hx hb dX8_leaf_20 hl (by decide) rfl (fun ls hl => ?_)
    refine lv_aload_n hx hb dX8_leaf_22 rfl (lv_at hl 1 rfl) ?_
    refine wg_get F hP mo rfl iw_X8 17 (by decide) tb_566 rfl rfl dX8_leaf_23 ?_
    refine lv_iload_n hx hb dX8_leaf_26 rfl (lv_at hl 2 rfl) ?_
    refine lv_lload_n hx hb dX8_leaf_27 rfl (lv_at hl 3 rfl) ?_
    refine wg_lst F hP hS m17 (vp_in_nI hj8 (by decide)) dX8_leaf_28 (fun H locs hP hS => ?_)
    obtain ⟨C_28, hC_28⟩ : ∃ z : wg_C, z = va_up C 1017 (some (.inl (E.2.1 1, 8, .inr (.inl (vp_updL g17 (nI j).toNatClampNeg v))))) := ⟨_, rfl⟩
    have hP : wg_P E A C_28 H := by rw [hC_28]; exact hP
    have mo_c28 : C_28 1000 = some (.inr (8, [.int (nI (lc_ns (st_B S))), .ref (A 1001), .int (nI (lc_nh (st_B S))), .ref (A 1003), .ref (A 1004), .ref (A 1005), .ref (A 1006), .ref (A 1007), .ref (A 1008), .ref (A 1009), .ref (A 1010), .ref (A 1011), .ref (A 1012), .ref (A 1013), .ref (A 1014), .ref (A 1015), .ref (A 1016), .ref (A 1017), .ref (A 1018), .int (nI (st_pa S)), .int (nI (st_pb S)), .long (st_va S), .long (st_vb S), .int (nI (st_ct S)), .ref (A 1024), .ref (A 1025), .ref (A 1026), .ref (A 1027), .ref (A 1028)])) := by rw [hC_28]; rw [va_up_ne _ _ (by decide)]; exact mo
    have m17_c28 : C_28 1017 = some (.inl (E.2.1 1, 8, .inr (.inl (vp_updL g17 (nI j).toNatClampNeg v)))) := by rw [hC_28]; exact va_up_self _ _ _
    have hfr : ∀ r, r ≠ 1017 → C_28 r = C r := fun r h0 => by rw [hC_28, va_up_ne _ _ h0]
    refine lv_lload hx hb dX8_leaf_29 (lv_at hl 0 rfl) ?_
    exact wg_lret F hP hS hr hlk (⟨rfl, by rw [hop], by rw [hop]; exact ⟨(hfr 1000 (by decide)).trans hM.1, hM.2.1.same (hfr 1001 (by decide)), hM.2.2.1.same (hfr 1003 (by decide)), hM.2.2.2.1.same (hfr 1004 (by decide)), hM.2.2.2.2.1.same (hfr 1005 (by decide)), hM.2.2.2.2.2.1.same (hfr 1006 (by decide)), hM.2.2.2.2.2.2.1.same (hfr 1007 (by decide)), hM.2.2.2.2.2.2.2.1.same (hfr 1008 (by decide)), hM.2.2.2.2.2.2.2.2.1.same (hfr 1009 (by decide)), hM.2.2.2.2.2.2.2.2.2.1.same (hfr 1010 (by decide)), hM.2.2.2.2.2.2.2.2.2.2.1.same (hfr 1011 (by decide)), hM.2.2.2.2.2.2.2.2.2.2.2.1.same (hfr 1012 (by decide)), hM.2.2.2.2.2.2.2.2.2.2.2.2.1.same (hfr 1013 (by decide)), hM.2.2.2.2.2.2.2.2.2.2.2.2.2.1.same (hfr 1014 (by decide)), hM.2.2.2.2.2.2.2.2.2.2.2.2.2.2.1.same (hfr 1015 (by decide)), hM.2.2.2.2.2.2.2.2.2.2.2.2.2.2.2.1.same (hfr 1016 (by decide)), ⟨_, m17_c28, (by rw [nI_clamp (by omega)]; exact lm_upL r17)⟩, hM.2.2.2.2.2.2.2.2.2.2.2.2.2.2.2.2.2.1.same (hfr 1018 (by decide)), hM.2.2.2.2.2.2.2.2.2.2.2.2.2.2.2.2.2.2.1.same (hfr 1024 (by decide)), hM.2.2.2.2.2.2.2.2.2.2.2.2.2.2.2.2.2.2.2.1.same (hfr 1025 (by decide)), hM.2.2.2.2.2.2.2.2.2.2.2.2.2.2.2.2.2.2.2.2.1.same (hfr 1026 (by decide)), hM.2.2.2.2.2.2.2.2.2.2.2.2.2.2.2.2.2.2.2.2.2.1.same (hfr 1027 (by decide)), hM.2.2.2.2.2.2.2.2.2.2.2.2.2.2.2.2.2.2.2.2.2.2.same (hfr 1028 (by decide))⟩, fun q hq => hfr q (by omega)⟩) dX8_leaf_31
  · have q_9 := lc_if1 w_6 c_9
    have hop : op_leaf S k v = (0, S) := by unfold op_leaf; rw [lc_ix_no (by omega)]
    refine lv_lconst (v := 0) hx hb dX8_leaf_12 (by decide) ?_
    exact wg_lret F hP hS hr hlk (⟨rfl, by rw [hop], by rw [hop]; exact hM, fun _ _ => rfl⟩) dX8_leaf_13
set_option maxHeartbeats 4000000 in
set_option maxRecDepth 100000 in
theorem c_X8_alter (l : Launch) (E : wg_E) (A : Nat → Nat) (C : wg_C) (S : lc_S) (k : Int32) (v : Int64) (hM : lm E A C S) (hI : lc_inv S)  : Met l yX8_alter (wg_ws yX8_alter cX8_alter 4 (some .int)) (wg_rm 1 0 0) (wg_Pc E A C [.ref (A 1000), .int k, .long v]) (wg_Qi E (fun r A1 C1 => A = A1 ∧ r = (op_alter S k v).1 ∧ lm E A C1 (op_alter S k v).2 ∧ ∀ q, q < 1000 → C1 q = C q)) 0 0 (wg_A E) := by
  refine wg_met (by decide) (Nat.le_of_ble_eq_true rfl) ?_
  intro p e s m below meth c ls F hr hlk hnm hP hS hl
  have F : wg_F p m c cX8_alter 4 s ([.ref (A 1000), .int k, .long v] : List Value).toArray "LightChecksModel" E := F
  have hx := F.1
  have hb := F.2.1
  have hml := F.2.2.1
  have hown := F.2.2.2.1
  have hts := F.2.2.2.2.1
  have hl : lv_has ls 4 [(0, .ref (A 1000)), (1, .int k), (2, .long v)] := hl
  obtain ⟨mo, ⟨g1, m1, r1⟩, ⟨g3, m3, r3⟩, ⟨g4, m4, r4⟩, ⟨g5, m5, r5⟩, ⟨g6, m6, r6⟩, ⟨g7, m7, r7⟩, ⟨g8, m8, r8⟩, ⟨g9, m9, r9⟩, ⟨g10, m10, r10⟩, ⟨g11, m11, r11⟩, ⟨g12, m12, r12⟩, ⟨g13, m13, r13⟩, ⟨g14, m14, r14⟩, ⟨g15, m15, r15⟩, ⟨g16, m16, r16⟩, ⟨g17, m17, r17⟩, ⟨g18, m18, r18⟩, ⟨g24, m24, r24⟩, ⟨g25, m25, r25⟩, ⟨g26, m26, r26⟩, ⟨g27, m27⟩, ⟨g28, m28, r28⟩⟩ := id hM
  obtain ⟨iok, ⟨itm, itm3a, itm3b⟩, icl, igv, ipa, ipb, ipab⟩ := id hI
  have ins := iok.1
  have inh := iok.2.1
  have h4 : st_ct S ≤ 4 := lc_cnt_le _ ipa _ ipb ipab
  refine lv_iload_n hx hb dX8_alter_0 rfl (lv_at hl 1 rfl) ?_
  refine lv_i2l (v := k.toInt64) hx hb dX8_alter_1 rfl ?_
  refine lv_ldc2 (v := 2) hx hb hown (hts _ tb_667) dX8_alter_2 ?_
  refine lv_iconst (v := 3) hx hb dX8_alter_5 (by decide) ?_
  refine lv_aload_n hx hb dX8_alter_6 rfl (lv_at hl 0 rfl) ?_
  refine wg_get F hP mo rfl iw_X8 23 (by decide) tb_572 rfl rfl dX8_alter_7 ?_
  refine lv_iadd hx hb dX8_alter_10 ?_
  refine wg_topi (y := nI (3 + st_ct S)) (by rw [show (3 : Int32) = nI 3 from rfl, nI_add]) ?_
  refine lv_i2l (v := (nI (3 + st_ct S)).toInt64) hx hb dX8_alter_11 rfl ?_
  refine wg_ci hS (wg_rS (As := [.long k.toInt64, .long 2, .long ((nI (3 + st_ct S)).toInt64)]) (rest := []) F hP hS (c_X8_in l E A C _ _ _) ok_X8_in tb_532 rfl rfl ⟨Nat.le_of_ble_eq_true rfl, Nat.le_of_ble_eq_true rfl⟩ rfl hl.1 rfl (Nat.le_of_ble_eq_true rfl) dX8_alter_12 ⟨Nat.le_of_ble_eq_true rfl, Nat.le_of_ble_eq_true rfl⟩) (fun r_12 A1 C_12 H locs w_12 hP hS => ?_)
  obtain ⟨w_12, rfl, rfl⟩ := w_12
  simp only [lc_i2l, show (0 : Int64).toInt = 0 from by decide, show (1 : Int64).toInt = 1 from by decide, show (2 : Int64).toInt = 2 from by decide, show (3 : Int64).toInt = 3 from by decide, show (4 : Int64).toInt = 4 from by decide, show (5 : Int64).toInt = 5 from by decide, show (7 : Int64).toInt = 7 from by decide, show (9 : Int64).toInt = 9 from by decide, show (10 : Int64).toInt = 10 from by decide, show (15 : Int64).toInt = 15 from by decide, show (60 : Int64).toInt = 60 from by decide, show (1000 : Int64).toInt = 1000 from by decide, show (100000 : Int64).toInt = 100000 from by decide, show (1000000 : Int64).toInt = 1000000 from by decide] at w_12
  rw [nI_toInt (by omega)] at w_12
  refine lv_if_ne (tgt := 20) hx hb dX8_alter_15 (by decide) (fun c_15 => ?_) (fun c_15 => ?_)
  · have q_15 := lc_if2 w_12 c_15
    refine lv_iload_n hx hb dX8_alter_20 rfl (lv_at hl 1 rfl) ?_
    refine lv_iconst (v := 2) hx hb dX8_alter_21 (by decide) ?_
    refine lv_icmp_ne (tgt := 33) hx hb dX8_alter_22 (by decide) (fun c_22 => ?_) (fun c_22 => ?_)
    · have d2 : ¬ k.toInt = 2 := by rw [← Int32.toInt_inj, lc_t2i] at c_22; exact c_22
      refine lv_iload_n hx hb dX8_alter_33 rfl (lv_at hl 1 rfl) ?_
      refine lv_iconst (v := 3) hx hb dX8_alter_34 (by decide) ?_
      refine lv_icmp_ne (tgt := 46) hx hb dX8_alter_35 (by decide) (fun c_35 => ?_) (fun c_35 => ?_)
      · have d3 : ¬ k.toInt = 3 := by rw [← Int32.toInt_inj, lc_t3i] at c_35; exact c_35
        obtain ⟨i, hi31, ek, e4, eT, eC⟩ := lc_ge4 (k := k) (by rw [Int32.lt_iff_toInt_lt, lc_t4i]; omega)
        have hop : op_alter S k v = (1, up_pf S (st_pa S) (st_pb S) (st_va S) (st_vb S) (vp_updL (st_pn S) i v)) := by unfold op_alter; rw [if_neg c_22, if_neg c_35, if_pos (by omega), eT, show ((i : Int) + 4).toNat - 4 = i by omega]
        refine lv_aload_n hx hb dX8_alter_46 rfl (lv_at hl 0 rfl) ?_
        refine wg_get F hP mo rfl iw_X8 25 (by decide) tb_574 rfl rfl dX8_alter_47 ?_
        refine lv_iload_n hx hb dX8_alter_50 rfl (lv_at hl 1 rfl) ?_
        refine lv_iconst (v := 4) hx hb dX8_alter_51 (by decide) ?_
        refine lv_isub hx hb dX8_alter_52 ?_
        refine wg_topi (y := nI i) e4 ?_
        refine lv_lload_n hx hb dX8_alter_53 rfl (lv_at hl 2 rfl) ?_
        refine wg_lst F hP hS m25 (vp_in_nI (by omega) (by decide)) dX8_alter_54 (fun H locs hP hS => ?_)
        obtain ⟨C_54, hC_54⟩ : ∃ z : wg_C, z = va_up C 1025 (some (.inl (E.2.1 1, 4, .inr (.inl (vp_updL g25 (nI i).toNatClampNeg v))))) := ⟨_, rfl⟩
        have hP : wg_P E A C_54 H := by rw [hC_54]; exact hP
        have mo_c54 : C_54 1000 = some (.inr (8, [.int (nI (lc_ns (st_B S))), .ref (A 1001), .int (nI (lc_nh (st_B S))), .ref (A 1003), .ref (A 1004), .ref (A 1005), .ref (A 1006), .ref (A 1007), .ref (A 1008), .ref (A 1009), .ref (A 1010), .ref (A 1011), .ref (A 1012), .ref (A 1013), .ref (A 1014), .ref (A 1015), .ref (A 1016), .ref (A 1017), .ref (A 1018), .int (nI (st_pa S)), .int (nI (st_pb S)), .long (st_va S), .long (st_vb S), .int (nI (st_ct S)), .ref (A 1024), .ref (A 1025), .ref (A 1026), .ref (A 1027), .ref (A 1028)])) := by rw [hC_54]; rw [va_up_ne _ _ (by decide)]; exact mo
        have m25_c54 : C_54 1025 = some (.inl (E.2.1 1, 4, .inr (.inl (vp_updL g25 (nI i).toNatClampNeg v)))) := by rw [hC_54]; exact va_up_self _ _ _
        have hfr : ∀ r, r ≠ 1025 → C_54 r = C r := fun r h0 => by rw [hC_54, va_up_ne _ _ h0]
        refine lv_iconst (v := 1) hx hb dX8_alter_55 (by decide) ?_
        exact wg_iret F hP hS hr hlk (⟨rfl, by rw [hop], by rw [hop]; exact ⟨(hfr 1000 (by decide)).trans hM.1, hM.2.1.same (hfr 1001 (by decide)), hM.2.2.1.same (hfr 1003 (by decide)), hM.2.2.2.1.same (hfr 1004 (by decide)), hM.2.2.2.2.1.same (hfr 1005 (by decide)), hM.2.2.2.2.2.1.same (hfr 1006 (by decide)), hM.2.2.2.2.2.2.1.same (hfr 1007 (by decide)), hM.2.2.2.2.2.2.2.1.same (hfr 1008 (by decide)), hM.2.2.2.2.2.2.2.2.1.same (hfr 1009 (by decide)), hM.2.2.2.2.2.2.2.2.2.1.same (hfr 1010 (by decide)), hM.2.2.2.2.2.2.2.2.2.2.1.same (hfr 1011 (by decide)), hM.2.2.2.2.2.2.2.2.2.2.2.1.same (hfr 1012 (by decide)), hM.2.2.2.2.2.2.2.2.2.2.2.2.1.same (hfr 1013 (by decide)), hM.2.2.2.2.2.2.2.2.2.2.2.2.2.1.same (hfr 1014 (by decide)), hM.2.2.2.2.2.2.2.2.2.2.2.2.2.2.1.same (hfr 1015 (by decide)), hM.2.2.2.2.2.2.2.2.2.2.2.2.2.2.2.1.same (hfr 1016 (by decide)), hM.2.2.2.2.2.2.2.2.2.2.2.2.2.2.2.2.1.same (hfr 1017 (by decide)), hM.2.2.2.2.2.2.2.2.2.2.2.2.2.2.2.2.2.1.same (hfr 1018 (by decide)), hM.2.2.2.2.2.2.2.2.2.2.2.2.2.2.2.2.2.2.1.same (hfr 1024 (by decide)), ⟨_, m25_c54, (by rw [nI_clamp (by omega)]; exact lm_upL r25)⟩, hM.2.2.2.2.2.2.2.2.2.2.2.2.2.2.2.2.2.2.2.2.1.same (hfr 1026 (by decide)), hM.2.2.2.2.2.2.2.2.2.2.2.2.2.2.2.2.2.2.2.2.2.1.same (hfr 1027 (by decide)), hM.2.2.2.2.2.2.2.2.2.2.2.2.2.2.2.2.2.2.2.2.2.2.same (hfr 1028 (by decide))⟩, fun q hq => hfr q (by omega)⟩) dX8_alter_56
      · have hop : op_alter S k v = (1, up_pf S (st_pa S) (st_pb S) (st_va S) v (st_pn S)) := by unfold op_alter; rw [if_neg c_22, if_pos c_35]
        refine lv_aload_n hx hb dX8_alter_38 rfl (lv_at hl 0 rfl) ?_
        refine lv_lload_n hx hb dX8_alter_39 rfl (lv_at hl 2 rfl) ?_
        refine wg_put F hP hS mo rfl iw_X8 tyX8_ok nmX8 22 (by decide) tb_571 rfl rfl rfl (Nat.le_of_ble_eq_true rfl) dX8_alter_40 (fun H locs hP hS => ?_)
        obtain ⟨C_40, hC_40⟩ : ∃ z : wg_C, z = va_up C 1000 (some (.inr (8, [.int (nI (lc_ns (st_B S))), .ref (A 1001), .int (nI (lc_nh (st_B S))), .ref (A 1003), .ref (A 1004), .ref (A 1005), .ref (A 1006), .ref (A 1007), .ref (A 1008), .ref (A 1009), .ref (A 1010), .ref (A 1011), .ref (A 1012), .ref (A 1013), .ref (A 1014), .ref (A 1015), .ref (A 1016), .ref (A 1017), .ref (A 1018), .int (nI (st_pa S)), .int (nI (st_pb S)), .long (st_va S), .long v, .int (nI (st_ct S)), .ref (A 1024), .ref (A 1025), .ref (A 1026), .ref (A 1027), .ref (A 1028)]))) := ⟨_, rfl⟩
        have hP : wg_P E A C_40 H := by rw [hC_40]; exact hP
        have mo_c40 : C_40 1000 = some (.inr (8, [.int (nI (lc_ns (st_B S))), .ref (A 1001), .int (nI (lc_nh (st_B S))), .ref (A 1003), .ref (A 1004), .ref (A 1005), .ref (A 1006), .ref (A 1007), .ref (A 1008), .ref (A 1009), .ref (A 1010), .ref (A 1011), .ref (A 1012), .ref (A 1013), .ref (A 1014), .ref (A 1015), .ref (A 1016), .ref (A 1017), .ref (A 1018), .int (nI (st_pa S)), .int (nI (st_pb S)), .long (st_va S), .long v, .int (nI (st_ct S)), .ref (A 1024), .ref (A 1025), .ref (A 1026), .ref (A 1027), .ref (A 1028)])) := by rw [hC_40]; exact va_up_self _ _ _
        have m25_c40 : C_40 1025 = some (.inl (E.2.1 1, 4, .inr (.inl g25))) := by rw [hC_40]; rw [va_up_ne _ _ (by decide)]; exact m25
        refine lv_goto (tgt := 55) hx hb dX8_alter_43 (by decide) ?_
        have hfr : ∀ r, r ≠ 1000 → C_40 r = C r := fun r h0 => by rw [hC_40, va_up_ne _ _ h0]
        refine lv_iconst (v := 1) hx hb dX8_alter_55 (by decide) ?_
        exact wg_iret F hP hS hr hlk (⟨rfl, by rw [hop], by rw [hop]; exact ⟨mo_c40, hM.2.1.same (hfr 1001 (by decide)), hM.2.2.1.same (hfr 1003 (by decide)), hM.2.2.2.1.same (hfr 1004 (by decide)), hM.2.2.2.2.1.same (hfr 1005 (by decide)), hM.2.2.2.2.2.1.same (hfr 1006 (by decide)), hM.2.2.2.2.2.2.1.same (hfr 1007 (by decide)), hM.2.2.2.2.2.2.2.1.same (hfr 1008 (by decide)), hM.2.2.2.2.2.2.2.2.1.same (hfr 1009 (by decide)), hM.2.2.2.2.2.2.2.2.2.1.same (hfr 1010 (by decide)), hM.2.2.2.2.2.2.2.2.2.2.1.same (hfr 1011 (by decide)), hM.2.2.2.2.2.2.2.2.2.2.2.1.same (hfr 1012 (by decide)), hM.2.2.2.2.2.2.2.2.2.2.2.2.1.same (hfr 1013 (by decide)), hM.2.2.2.2.2.2.2.2.2.2.2.2.2.1.same (hfr 1014 (by decide)), hM.2.2.2.2.2.2.2.2.2.2.2.2.2.2.1.same (hfr 1015 (by decide)), hM.2.2.2.2.2.2.2.2.2.2.2.2.2.2.2.1.same (hfr 1016 (by decide)), hM.2.2.2.2.2.2.2.2.2.2.2.2.2.2.2.2.1.same (hfr 1017 (by decide)), hM.2.2.2.2.2.2.2.2.2.2.2.2.2.2.2.2.2.1.same (hfr 1018 (by decide)), hM.2.2.2.2.2.2.2.2.2.2.2.2.2.2.2.2.2.2.1.same (hfr 1024 (by decide)), hM.2.2.2.2.2.2.2.2.2.2.2.2.2.2.2.2.2.2.2.1.same (hfr 1025 (by decide)), hM.2.2.2.2.2.2.2.2.2.2.2.2.2.2.2.2.2.2.2.2.1.same (hfr 1026 (by decide)), hM.2.2.2.2.2.2.2.2.2.2.2.2.2.2.2.2.2.2.2.2.2.1.same (hfr 1027 (by decide)), hM.2.2.2.2.2.2.2.2.2.2.2.2.2.2.2.2.2.2.2.2.2.2.same (hfr 1028 (by decide))⟩, fun q hq => hfr q (by omega)⟩) dX8_alter_56
    · have hop : op_alter S k v = (1, up_pf S (st_pa S) (st_pb S) v (st_vb S) (st_pn S)) := by unfold op_alter; rw [if_pos c_22]
      refine lv_aload_n hx hb dX8_alter_25 rfl (lv_at hl 0 rfl) ?_
      refine lv_lload_n hx hb dX8_alter_26 rfl (lv_at hl 2 rfl) ?_
      refine wg_put F hP hS mo rfl iw_X8 tyX8_ok nmX8 21 (by decide) tb_570 rfl rfl rfl (Nat.le_of_ble_eq_true rfl) dX8_alter_27 (fun H locs hP hS => ?_)
      obtain ⟨C_27, hC_27⟩ : ∃ z : wg_C, z = va_up C 1000 (some (.inr (8, [.int (nI (lc_ns (st_B S))), .ref (A 1001), .int (nI (lc_nh (st_B S))), .ref (A 1003), .ref (A 1004), .ref (A 1005), .ref (A 1006), .ref (A 1007), .ref (A 1008), .ref (A 1009), .ref (A 1010), .ref (A 1011), .ref (A 1012), .ref (A 1013), .ref (A 1014), .ref (A 1015), .ref (A 1016), .ref (A 1017), .ref (A 1018), .int (nI (st_pa S)), .int (nI (st_pb S)), .long v, .long (st_vb S), .int (nI (st_ct S)), .ref (A 1024), .ref (A 1025), .ref (A 1026), .ref (A 1027), .ref (A 1028)]))) := ⟨_, rfl⟩
      have hP : wg_P E A C_27 H := by rw [hC_27]; exact hP
      have mo_c27 : C_27 1000 = some (.inr (8, [.int (nI (lc_ns (st_B S))), .ref (A 1001), .int (nI (lc_nh (st_B S))), .ref (A 1003), .ref (A 1004), .ref (A 1005), .ref (A 1006), .ref (A 1007), .ref (A 1008), .ref (A 1009), .ref (A 1010), .ref (A 1011), .ref (A 1012), .ref (A 1013), .ref (A 1014), .ref (A 1015), .ref (A 1016), .ref (A 1017), .ref (A 1018), .int (nI (st_pa S)), .int (nI (st_pb S)), .long v, .long (st_vb S), .int (nI (st_ct S)), .ref (A 1024), .ref (A 1025), .ref (A 1026), .ref (A 1027), .ref (A 1028)])) := by rw [hC_27]; exact va_up_self _ _ _
      have m25_c27 : C_27 1025 = some (.inl (E.2.1 1, 4, .inr (.inl g25))) := by rw [hC_27]; rw [va_up_ne _ _ (by decide)]; exact m25
      refine lv_goto (tgt := 55) hx hb dX8_alter_30 (by decide) ?_
      have hfr : ∀ r, r ≠ 1000 → C_27 r = C r := fun r h0 => by rw [hC_27, va_up_ne _ _ h0]
      refine lv_iconst (v := 1) hx hb dX8_alter_55 (by decide) ?_
      exact wg_iret F hP hS hr hlk (⟨rfl, by rw [hop], by rw [hop]; exact ⟨mo_c27, hM.2.1.same (hfr 1001 (by decide)), hM.2.2.1.same (hfr 1003 (by decide)), hM.2.2.2.1.same (hfr 1004 (by decide)), hM.2.2.2.2.1.same (hfr 1005 (by decide)), hM.2.2.2.2.2.1.same (hfr 1006 (by decide)), hM.2.2.2.2.2.2.1.same (hfr 1007 (by decide)), hM.2.2.2.2.2.2.2.1.same (hfr 1008 (by decide)), hM.2.2.2.2.2.2.2.2.1.same (hfr 1009 (by decide)), hM.2.2.2.2.2.2.2.2.2.1.same (hfr 1010 (by decide)), hM.2.2.2.2.2.2.2.2.2.2.1.same (hfr 1011 (by decide)), hM.2.2.2.2.2.2.2.2.2.2.2.1.same (hfr 1012 (by decide)), hM.2.2.2.2.2.2.2.2.2.2.2.2.1.same (hfr 1013 (by decide)), hM.2.2.2.2.2.2.2.2.2.2.2.2.2.1.same (hfr 1014 (by decide)), hM.2.2.2.2.2.2.2.2.2.2.2.2.2.2.1.same (hfr 1015 (by decide)), hM.2.2.2.2.2.2.2.2.2.2.2.2.2.2.2.1.same (hfr 1016 (by decide)), hM.2.2.2.2.2.2.2.2.2.2.2.2.2.2.2.2.1.same (hfr 1017 (by decide)), hM.2.2.2.2.2.2.2.2.2.2.2.2.2.2.2.2.2.1.same (hfr 1018 (by decide)), hM.2.2.2.2.2.2.2.2.2.2.2.2.2.2.2.2.2.2.1.same (hfr 1024 (by decide)), hM.2.2.2.2.2.2.2.2.2.2.2.2.2.2.2.2.2.2.2.1.same (hfr 1025 (by decide)), hM.2.2.2.2.2.2.2.2.2.2.2.2.2.2.2.2.2.2.2.2.1.same (hfr 1026 (by decide)), hM.2.2.2.2.2.2.2.2.2.2.2.2.2.2.2.2.2.2.2.2.2.1.same (hfr 1027 (by decide)), hM.2.2.2.2.2.2.2.2.2.2.2.2.2.2.2.2.2.2.2.2.2.2.same (hfr 1028 (by decide))⟩, fun q hq => hfr q (by omega)⟩) dX8_alter_56
  · have q_15 := lc_if1 w_12 c_15
    have hop : op_alter S k v = (-1, S) := by unfold op_alter; rw [if_neg (by rw [← Int32.toInt_inj, lc_t2i]; omega), if_neg (by rw [← Int32.toInt_inj, lc_t3i]; omega), if_neg (by omega)]
    refine lv_iconst (v := (-1)) hx hb dX8_alter_18 (by decide) ?_
    exact wg_iret F hP hS hr hlk (⟨rfl, by rw [hop], by rw [hop]; exact hM, fun _ _ => rfl⟩) dX8_alter_19
set_option maxHeartbeats 4000000 in
set_option maxRecDepth 100000 in
theorem c_X8_give (l : Launch) (E : wg_E) (A : Nat → Nat) (C : wg_C) (S : lc_S) (g0 h : Int32) (hM : lm E A C S) (hI : lc_inv S)  : Met l yX8_give (wg_ws yX8_give cX8_give 5 (some .int)) (wg_rm 2 0 0) (wg_Pc E A C [.ref (A 1000), .int g0, .int h]) (wg_Qi E (fun r A1 C1 => A = A1 ∧ r = (op_give S g0 h).1 ∧ lm E A C1 (op_give S g0 h).2 ∧ ∀ q, q < 1000 → C1 q = C q)) 0 0 (wg_A E) := by
  refine wg_met (by decide) (Nat.le_of_ble_eq_true rfl) ?_
  intro p e s m below meth c ls F hr hlk hnm hP hS hl
  have F : wg_F p m c cX8_give 5 s ([.ref (A 1000), .int g0, .int h] : List Value).toArray "LightChecksModel" E := F
  have hx := F.1
  have hb := F.2.1
  have hml := F.2.2.1
  have hown := F.2.2.2.1
  have hts := F.2.2.2.2.1
  have hl : lv_has ls 5 [(0, .ref (A 1000)), (1, .int g0), (2, .int h)] := hl
  obtain ⟨mo, ⟨g1, m1, r1⟩, ⟨g3, m3, r3⟩, ⟨g4, m4, r4⟩, ⟨g5, m5, r5⟩, ⟨g6, m6, r6⟩, ⟨g7, m7, r7⟩, ⟨g8, m8, r8⟩, ⟨g9, m9, r9⟩, ⟨g10, m10, r10⟩, ⟨g11, m11, r11⟩, ⟨g12, m12, r12⟩, ⟨g13, m13, r13⟩, ⟨g14, m14, r14⟩, ⟨g15, m15, r15⟩, ⟨g16, m16, r16⟩, ⟨g17, m17, r17⟩, ⟨g18, m18, r18⟩, ⟨g24, m24, r24⟩, ⟨g25, m25, r25⟩, ⟨g26, m26, r26⟩, ⟨g27, m27⟩, ⟨g28, m28, r28⟩⟩ := id hM
  obtain ⟨iok, ⟨itm, itm3a, itm3b⟩, icl, igv, ipa, ipb, ipab⟩ := id hI
  have ins := iok.1
  have inh := iok.2.1
  refine lv_iload_n hx hb dX8_give_0 rfl (lv_at hl 1 rfl) ?_
  refine wg_ci hS (wg_rS (As := [.int g0]) (rest := []) F hP hS (c_X8_isFour l E A C g0) ok_X8_isFour tb_702 rfl rfl ⟨Nat.le_of_ble_eq_true rfl, Nat.le_of_ble_eq_true rfl⟩ rfl hl.1 rfl (Nat.le_of_ble_eq_true rfl) dX8_give_1 ⟨Nat.le_of_ble_eq_true rfl, Nat.le_of_ble_eq_true rfl⟩) (fun r_1 A1 C_1 H locs w_1 hP hS => ?_)
  obtain ⟨w_1, rfl, rfl⟩ := w_1
  rcases hx_i : lc_ix g0 4 with _ | i
  · have w2_i : r_1 = 0 := lc_ixr0 w_1 hx_i
    refine lv_if_eq (tgt := 15) hx hb dX8_give_4 (by decide) (fun c_4 => ?_) (fun c_4 => ?_)
    · refine lv_iconst (v := (-1)) hx hb dX8_give_15 (by decide) ?_
      exact wg_iret F hP hS hr hlk (⟨rfl, by unfold op_give; first | (rw [hx_i]; done) | (rw [hx_i]; rfl), by unfold op_give; rw [hx_i]; exact hM, fun _ _ => rfl⟩) dX8_give_16
    · exact absurd w2_i c_4
  · have w2_i : r_1 = 1 := lc_ixr1 w_1 hx_i
    obtain ⟨hi, ei, ti⟩ := lc_ix_some hx_i
    refine lv_if_eq (tgt := 15) hx hb dX8_give_4 (by decide) (fun c_4 => ?_) (fun c_4 => ?_)
    · exact absurd (w2_i.symm.trans c_4) (by decide)
    · refine lv_aload_n hx hb dX8_give_7 rfl (lv_at hl 0 rfl) ?_
      refine lv_iload_n hx hb dX8_give_8 rfl (lv_at hl 2 rfl) ?_
      refine wg_ci hS (wg_rV (As := [.int h]) (rest := []) F hP hS (c_X8_isHead l E A C S h hM hI) ok_X8_isHead tb_658 rfl rfl ⟨Nat.le_of_ble_eq_true rfl, Nat.le_of_ble_eq_true rfl⟩ mo rfl rfl rfl hl.1 rfl (Nat.le_of_ble_eq_true rfl) dX8_give_9 ⟨Nat.le_of_ble_eq_true rfl, Nat.le_of_ble_eq_true rfl⟩) (fun r_9 A1 C_9 H locs w_9 hP hS => ?_)
      obtain ⟨w_9, rfl, rfl⟩ := w_9
      rcases hx_j : lc_ix h (lc_nh (st_B S)) with _ | j
      · have w2_j : r_9 = 0 := lc_ixr0 w_9 hx_j
        refine lv_if_ne (tgt := 17) hx hb dX8_give_12 (by decide) (fun c_12 => ?_) (fun c_12 => ?_)
        · exact absurd w2_j c_12
        · refine lv_iconst (v := (-1)) hx hb dX8_give_15 (by decide) ?_
          exact wg_iret F hP hS hr hlk (⟨rfl, by unfold op_give; first | (rw [hx_i, hx_j]; done) | (rw [hx_i, hx_j]; rfl), by unfold op_give; rw [hx_i, hx_j]; exact hM, fun _ _ => rfl⟩) dX8_give_16
      · have w2_j : r_9 = 1 := lc_ixr1 w_9 hx_j
        obtain ⟨hj, ej, tj⟩ := lc_ix_some hx_j
        refine lv_if_ne (tgt := 17) hx hb dX8_give_12 (by decide) (fun c_12 => ?_) (fun c_12 => ?_)
        · obtain ⟨hg1, hg2, hg3⟩ := igv i hi
          have hq9 := (iok.2.2.2 j hj).1
          refine lv_aload_n hx hb dX8_give_17 rfl (lv_at hl 0 rfl) ?_
          refine lv_iload_n hx hb dX8_give_18 rfl (lv_at hl 1 rfl) ?_
          refine wg_topi (y := nI i) ei ?_
          refine lv_aload_n hx hb dX8_give_19 rfl (lv_at hl 0 rfl) ?_
          refine wg_get F hP mo rfl iw_X8 3 (by decide) tb_552 rfl rfl dX8_give_20 ?_
          refine lv_iload_n hx hb dX8_give_23 rfl (lv_at hl 2 rfl) ?_
          refine wg_topi (y := nI j) ej ?_
          refine wg_ild F hP m3 (vp_in_nI (by omega) (by decide)) dX8_give_24 ?_
          refine wg_topi (y := nI (lc_hh (st_B S) j)) (by rw [nI_clamp (by omega)]; exact r3 j hj) ?_
          refine wg_ci hS (wg_rV (As := [.int (nI i), .int (nI (lc_hh (st_B S) j))]) (rest := []) F hP hS (c_X8_placeOf l E A C S i (lc_hh (st_B S) j) hM hI hi (by omega)) ok_X8_placeOf tb_729 rfl rfl ⟨Nat.le_of_ble_eq_true rfl, Nat.le_of_ble_eq_true rfl⟩ mo rfl rfl rfl hl.1 rfl (Nat.le_of_ble_eq_true rfl) dX8_give_25 ⟨Nat.le_of_ble_eq_true rfl, Nat.le_of_ble_eq_true rfl⟩) (fun r_25 A1 C_25 H locs w_25 hP hS => ?_)
          obtain ⟨w_25, rfl, rfl⟩ := w_25
          rcases hpl : lc_pl (fun k => lc_hh (st_B S) (st_gg S i k)) (lc_hh (st_B S) j) (st_gn S i) with _ | q
          · refine wg_topi (y := (-2)) (by rw [w_25, hpl]; rfl) ?_
            have hroom := lc_room hI hi hj hpl
            have hop : op_give S g0 h = (-2, up_gv S (va_up (st_gn S) i (st_gn S i + 1)) (va_up (st_gg S) i (va_up (st_gg S i) (st_gn S i) j))) := by unfold op_give; rw [hx_i, hx_j]; simp only []; rw [hpl]; rfl
            refine lv_istore_n (lv' := [(3, .int ((-2))), (0, .ref (A 1000)), (1, .int g0), (2, .int h)]) hx hb dX8_give_28 rfl hl (by decide) rfl (fun ls hl => ?_)
            refine lv_iload_n hx hb dX8_give_29 rfl (lv_at hl 0 rfl) ?_
            refine lv_if_lt (tgt := 51) hx hb dX8_give_30 (by decide) (fun c_30 => ?_) (fun c_30 => ?_)
            · refine lv_aload_n hx hb dX8_give_51 rfl (lv_at hl 1 rfl) ?_
              refine wg_get F hP mo rfl iw_X8 16 (by decide) tb_565 rfl rfl dX8_give_52 ?_
              refine lv_bipush (v := 60) hx hb dX8_give_55 (by decide) ?_
              refine lv_iload_n hx hb dX8_give_57 rfl (lv_at hl 2 rfl) ?_
              refine wg_topi (y := nI i) ei ?_
              refine lv_imul hx hb dX8_give_58 ?_
              refine wg_topi (y := nI (60 * i)) (by rw [show (60 : Int32) = nI 60 from rfl, pk_mul]) ?_
              refine lv_aload_n hx hb dX8_give_59 rfl (lv_at hl 1 rfl) ?_
              refine wg_get F hP mo rfl iw_X8 15 (by decide) tb_564 rfl rfl dX8_give_60 ?_
              refine lv_iload_n hx hb dX8_give_63 rfl (lv_at hl 2 rfl) ?_
              refine wg_topi (y := nI i) ei ?_
              refine wg_ild F hP m15 (vp_in_nI hi (by decide)) dX8_give_64 ?_
              refine wg_topi (y := nI (st_gn S i)) ((by rw [nI_clamp (by omega)]; exact r15 i hi)) ?_
              refine lv_iadd hx hb dX8_give_65 ?_
              refine wg_topi (y := nI (60 * i + st_gn S i)) (nI_add _ _) ?_
              refine lv_iload_n hx hb dX8_give_66 rfl (lv_at hl 3 rfl) ?_
              refine wg_topi (y := nI j) ej ?_
              refine wg_ist F hP hS m16 (vp_in_nI (by omega) (by decide)) dX8_give_67 (fun H locs hP hS => ?_)
              obtain ⟨C_67, hC_67⟩ : ∃ z : wg_C, z = va_up C 1016 (some (.inl (E.2.1 0, 240, .inl (upd g16 (nI (60 * i + st_gn S i)).toNatClampNeg (nI j))))) := ⟨_, rfl⟩
              have hP : wg_P E A C_67 H := by rw [hC_67]; exact hP
              have mo_c67 : C_67 1000 = some (.inr (8, [.int (nI (lc_ns (st_B S))), .ref (A 1001), .int (nI (lc_nh (st_B S))), .ref (A 1003), .ref (A 1004), .ref (A 1005), .ref (A 1006), .ref (A 1007), .ref (A 1008), .ref (A 1009), .ref (A 1010), .ref (A 1011), .ref (A 1012), .ref (A 1013), .ref (A 1014), .ref (A 1015), .ref (A 1016), .ref (A 1017), .ref (A 1018), .int (nI (st_pa S)), .int (nI (st_pb S)), .long (st_va S), .long (st_vb S), .int (nI (st_ct S)), .ref (A 1024), .ref (A 1025), .ref (A 1026), .ref (A 1027), .ref (A 1028)])) := by rw [hC_67]; rw [va_up_ne _ _ (by decide)]; exact mo
              have m3_c67 : C_67 1003 = some (.inl (E.2.1 0, 60, .inl g3)) := by rw [hC_67]; rw [va_up_ne _ _ (by decide)]; exact m3
              have m15_c67 : C_67 1015 = some (.inl (E.2.1 0, 4, .inl g15)) := by rw [hC_67]; rw [va_up_ne _ _ (by decide)]; exact m15
              have m16_c67 : C_67 1016 = some (.inl (E.2.1 0, 240, .inl (upd g16 (nI (60 * i + st_gn S i)).toNatClampNeg (nI j)))) := by rw [hC_67]; exact va_up_self _ _ _
              refine lv_aload_n hx hb dX8_give_68 rfl (lv_at hl 1 rfl) ?_
              refine wg_get F hP mo_c67 rfl iw_X8 15 (by decide) tb_564 rfl rfl dX8_give_69 ?_
              refine lv_iload_n hx hb dX8_give_72 rfl (lv_at hl 2 rfl) ?_
              refine wg_topi (y := nI i) ei ?_
              refine lv_dup2_11 hx hb dX8_give_73 rfl rfl ?_
              refine wg_ild F hP m15_c67 (vp_in_nI hi (by decide)) dX8_give_74 ?_
              refine wg_topi (y := nI (st_gn S i)) ((by rw [nI_clamp (by omega)]; exact r15 i hi)) ?_
              refine lv_iconst (v := 1) hx hb dX8_give_75 (by decide) ?_
              refine lv_iadd hx hb dX8_give_76 ?_
              refine wg_topi (y := nI (st_gn S i + 1)) (by rw [nI_1]) ?_
              refine wg_ist F hP hS m15_c67 (vp_in_nI hi (by decide)) dX8_give_77 (fun H locs hP hS => ?_)
              obtain ⟨C_77, hC_77⟩ : ∃ z : wg_C, z = va_up C_67 1015 (some (.inl (E.2.1 0, 4, .inl (upd g15 (nI i).toNatClampNeg (nI (st_gn S i + 1)))))) := ⟨_, rfl⟩
              have hP : wg_P E A C_77 H := by rw [hC_77]; exact hP
              have mo_c77 : C_77 1000 = some (.inr (8, [.int (nI (lc_ns (st_B S))), .ref (A 1001), .int (nI (lc_nh (st_B S))), .ref (A 1003), .ref (A 1004), .ref (A 1005), .ref (A 1006), .ref (A 1007), .ref (A 1008), .ref (A 1009), .ref (A 1010), .ref (A 1011), .ref (A 1012), .ref (A 1013), .ref (A 1014), .ref (A 1015), .ref (A 1016), .ref (A 1017), .ref (A 1018), .int (nI (st_pa S)), .int (nI (st_pb S)), .long (st_va S), .long (st_vb S), .int (nI (st_ct S)), .ref (A 1024), .ref (A 1025), .ref (A 1026), .ref (A 1027), .ref (A 1028)])) := by rw [hC_77]; rw [va_up_ne _ _ (by decide)]; exact mo_c67
              have m3_c77 : C_77 1003 = some (.inl (E.2.1 0, 60, .inl g3)) := by rw [hC_77]; rw [va_up_ne _ _ (by decide)]; exact m3_c67
              have m15_c77 : C_77 1015 = some (.inl (E.2.1 0, 4, .inl (upd g15 (nI i).toNatClampNeg (nI (st_gn S i + 1))))) := by rw [hC_77]; exact va_up_self _ _ _
              have m16_c77 : C_77 1016 = some (.inl (E.2.1 0, 240, .inl (upd g16 (nI (60 * i + st_gn S i)).toNatClampNeg (nI j)))) := by rw [hC_77]; rw [va_up_ne _ _ (by decide)]; exact m16_c67
              have hfr : ∀ r, r ≠ 1016 → r ≠ 1015 → C_77 r = C r := fun r h0 h1 => by rw [hC_77, va_up_ne _ _ h1, hC_67, va_up_ne _ _ h0]
              have n16 : ∀ i2, i2 < 4 → ∀ q2, q2 < va_up (st_gn S) i (st_gn S i + 1) i2 → (upd g16 (nI (60 * i + st_gn S i)).toNatClampNeg (nI j)) (60 * i2 + q2) = nI (va_up (st_gg S) i (va_up (st_gg S i) (st_gn S i) j) i2 q2) := by rw [nI_clamp (by omega)]; exact lm_put2 (W := 60) (fun i2 q hne hq => by omega) (fun i2 hi2 => (igv i2 hi2).1) r16 (fun q h1 h2 => by omega)
              refine lv_bipush (v := (-2)) hx hb dX8_give_78 (by decide) ?_
              exact wg_iret F hP hS hr hlk (⟨rfl, by rw [hop], by rw [hop]; exact ⟨(hfr 1000 (by decide) (by decide)).trans hM.1, hM.2.1.same (hfr 1001 (by decide) (by decide)), hM.2.2.1.same (hfr 1003 (by decide) (by decide)), hM.2.2.2.1.same (hfr 1004 (by decide) (by decide)), hM.2.2.2.2.1.same (hfr 1005 (by decide) (by decide)), hM.2.2.2.2.2.1.same (hfr 1006 (by decide) (by decide)), hM.2.2.2.2.2.2.1.same (hfr 1007 (by decide) (by decide)), hM.2.2.2.2.2.2.2.1.same (hfr 1008 (by decide) (by decide)), hM.2.2.2.2.2.2.2.2.1.same (hfr 1009 (by decide) (by decide)), hM.2.2.2.2.2.2.2.2.2.1.same (hfr 1010 (by decide) (by decide)), hM.2.2.2.2.2.2.2.2.2.2.1.same (hfr 1011 (by decide) (by decide)), hM.2.2.2.2.2.2.2.2.2.2.2.1.same (hfr 1012 (by decide) (by decide)), hM.2.2.2.2.2.2.2.2.2.2.2.2.1.same (hfr 1013 (by decide) (by decide)), hM.2.2.2.2.2.2.2.2.2.2.2.2.2.1.same (hfr 1014 (by decide) (by decide)), ⟨_, m15_c77, (by rw [nI_clamp (by omega)]; exact lm_upN r15)⟩, ⟨_, m16_c77, n16⟩, hM.2.2.2.2.2.2.2.2.2.2.2.2.2.2.2.2.1.same (hfr 1017 (by decide) (by decide)), hM.2.2.2.2.2.2.2.2.2.2.2.2.2.2.2.2.2.1.same (hfr 1018 (by decide) (by decide)), hM.2.2.2.2.2.2.2.2.2.2.2.2.2.2.2.2.2.2.1.same (hfr 1024 (by decide) (by decide)), hM.2.2.2.2.2.2.2.2.2.2.2.2.2.2.2.2.2.2.2.1.same (hfr 1025 (by decide) (by decide)), hM.2.2.2.2.2.2.2.2.2.2.2.2.2.2.2.2.2.2.2.2.1.same (hfr 1026 (by decide) (by decide)), hM.2.2.2.2.2.2.2.2.2.2.2.2.2.2.2.2.2.2.2.2.2.1.same (hfr 1027 (by decide) (by decide)), hM.2.2.2.2.2.2.2.2.2.2.2.2.2.2.2.2.2.2.2.2.2.2.same (hfr 1028 (by decide) (by decide))⟩, fun q hq => hfr q (by omega) (by omega)⟩) dX8_give_80
            · exact absurd (by decide) c_30
          · have hq := (lc_pl_of hpl).1
            refine wg_topi (y := nI (60 * i + q)) (by rw [w_25, hpl]; rfl) ?_
            have hop : op_give S g0 h = (nI (st_gg S i q), up_gv S (va_up (st_gn S) i (st_gn S i)) (va_up (st_gg S) i (va_up (st_gg S i) (q) j))) := by unfold op_give; rw [hx_i, hx_j]; simp only []; rw [hpl]; rfl
            refine lv_istore_n (lv' := [(3, .int (nI (60 * i + q))), (0, .ref (A 1000)), (1, .int g0), (2, .int h)]) hx hb dX8_give_28 rfl hl (by decide) rfl (fun ls hl => ?_)
            refine lv_iload_n hx hb dX8_give_29 rfl (lv_at hl 0 rfl) ?_
            refine lv_if_lt (tgt := 51) hx hb dX8_give_30 (by decide) (fun c_30 => ?_) (fun c_30 => ?_)
            · exact absurd c_30 (nI_pos (by omega))
            · refine lv_aload_n hx hb dX8_give_33 rfl (lv_at hl 1 rfl) ?_
              refine wg_get F hP mo rfl iw_X8 16 (by decide) tb_565 rfl rfl dX8_give_34 ?_
              refine lv_iload_n hx hb dX8_give_37 rfl (lv_at hl 0 rfl) ?_
              refine wg_ild F hP m16 (vp_in_nI (by omega) (by decide)) dX8_give_38 ?_
              refine wg_topi (y := nI (st_gg S i q)) ((by rw [nI_clamp (by omega)]; exact r16 i hi q hq)) ?_
              refine lv_istore (lv' := [(4, .int (nI (st_gg S i q))), (3, .int (nI (60 * i + q))), (0, .ref (A 1000)), (1, .int g0), (2, .int h)]) hx hb dX8_give_39 hl (by decide) rfl (fun ls hl => ?_)
              refine lv_aload_n hx hb dX8_give_41 rfl (lv_at hl 2 rfl) ?_
              refine wg_get F hP mo rfl iw_X8 16 (by decide) tb_565 rfl rfl dX8_give_42 ?_
              refine lv_iload_n hx hb dX8_give_45 rfl (lv_at hl 1 rfl) ?_
              refine lv_iload_n hx hb dX8_give_46 rfl (lv_at hl 4 rfl) ?_
              refine wg_topi (y := nI j) ej ?_
              refine wg_ist F hP hS m16 (vp_in_nI (by omega) (by decide)) dX8_give_47 (fun H locs hP hS => ?_)
              obtain ⟨C_47, hC_47⟩ : ∃ z : wg_C, z = va_up C 1016 (some (.inl (E.2.1 0, 240, .inl (upd g16 (nI (60 * i + q)).toNatClampNeg (nI j))))) := ⟨_, rfl⟩
              have hP : wg_P E A C_47 H := by rw [hC_47]; exact hP
              have mo_c47 : C_47 1000 = some (.inr (8, [.int (nI (lc_ns (st_B S))), .ref (A 1001), .int (nI (lc_nh (st_B S))), .ref (A 1003), .ref (A 1004), .ref (A 1005), .ref (A 1006), .ref (A 1007), .ref (A 1008), .ref (A 1009), .ref (A 1010), .ref (A 1011), .ref (A 1012), .ref (A 1013), .ref (A 1014), .ref (A 1015), .ref (A 1016), .ref (A 1017), .ref (A 1018), .int (nI (st_pa S)), .int (nI (st_pb S)), .long (st_va S), .long (st_vb S), .int (nI (st_ct S)), .ref (A 1024), .ref (A 1025), .ref (A 1026), .ref (A 1027), .ref (A 1028)])) := by rw [hC_47]; rw [va_up_ne _ _ (by decide)]; exact mo
              have m3_c47 : C_47 1003 = some (.inl (E.2.1 0, 60, .inl g3)) := by rw [hC_47]; rw [va_up_ne _ _ (by decide)]; exact m3
              have m15_c47 : C_47 1015 = some (.inl (E.2.1 0, 4, .inl g15)) := by rw [hC_47]; rw [va_up_ne _ _ (by decide)]; exact m15
              have m16_c47 : C_47 1016 = some (.inl (E.2.1 0, 240, .inl (upd g16 (nI (60 * i + q)).toNatClampNeg (nI j)))) := by rw [hC_47]; exact va_up_self _ _ _
              have hfr : ∀ r, r ≠ 1016 → C_47 r = C r := fun r h0 => by rw [hC_47, va_up_ne _ _ h0]
              have n16 : ∀ i2, i2 < 4 → ∀ q2, q2 < va_up (st_gn S) i (st_gn S i) i2 → (upd g16 (nI (60 * i + q)).toNatClampNeg (nI j)) (60 * i2 + q2) = nI (va_up (st_gg S) i (va_up (st_gg S i) q j) i2 q2) := by rw [nI_clamp (by omega)]; exact lm_put2 (W := 60) (fun i2 q hne hq => by omega) (fun i2 hi2 => (igv i2 hi2).1) r16 (fun q h1 h2 => h1)
              refine lv_iload hx hb dX8_give_48 (lv_at hl 0 rfl) ?_
              exact wg_iret F hP hS hr hlk (⟨rfl, by rw [hop], by rw [hop]; exact ⟨(hfr 1000 (by decide)).trans hM.1, hM.2.1.same (hfr 1001 (by decide)), hM.2.2.1.same (hfr 1003 (by decide)), hM.2.2.2.1.same (hfr 1004 (by decide)), hM.2.2.2.2.1.same (hfr 1005 (by decide)), hM.2.2.2.2.2.1.same (hfr 1006 (by decide)), hM.2.2.2.2.2.2.1.same (hfr 1007 (by decide)), hM.2.2.2.2.2.2.2.1.same (hfr 1008 (by decide)), hM.2.2.2.2.2.2.2.2.1.same (hfr 1009 (by decide)), hM.2.2.2.2.2.2.2.2.2.1.same (hfr 1010 (by decide)), hM.2.2.2.2.2.2.2.2.2.2.1.same (hfr 1011 (by decide)), hM.2.2.2.2.2.2.2.2.2.2.2.1.same (hfr 1012 (by decide)), hM.2.2.2.2.2.2.2.2.2.2.2.2.1.same (hfr 1013 (by decide)), hM.2.2.2.2.2.2.2.2.2.2.2.2.2.1.same (hfr 1014 (by decide)), (by rw [lc_vid]; exact hM.2.2.2.2.2.2.2.2.2.2.2.2.2.2.1.same (hfr 1015 (by decide))), ⟨_, m16_c47, n16⟩, hM.2.2.2.2.2.2.2.2.2.2.2.2.2.2.2.2.1.same (hfr 1017 (by decide)), hM.2.2.2.2.2.2.2.2.2.2.2.2.2.2.2.2.2.1.same (hfr 1018 (by decide)), hM.2.2.2.2.2.2.2.2.2.2.2.2.2.2.2.2.2.2.1.same (hfr 1024 (by decide)), hM.2.2.2.2.2.2.2.2.2.2.2.2.2.2.2.2.2.2.2.1.same (hfr 1025 (by decide)), hM.2.2.2.2.2.2.2.2.2.2.2.2.2.2.2.2.2.2.2.2.1.same (hfr 1026 (by decide)), hM.2.2.2.2.2.2.2.2.2.2.2.2.2.2.2.2.2.2.2.2.2.1.same (hfr 1027 (by decide)), hM.2.2.2.2.2.2.2.2.2.2.2.2.2.2.2.2.2.2.2.2.2.2.same (hfr 1028 (by decide))⟩, fun q hq => hfr q (by omega)⟩) dX8_give_50
        · exact absurd (w2_j.symm.trans c_12) (by decide)
set_option maxHeartbeats 4000000 in
set_option maxRecDepth 100000 in
theorem c_X8_grow (l : Launch) (E : wg_E) (A : Nat → Nat) (C : wg_C) (S : lc_S) (hM : lm E A C S) (hI : lc_inv S)  : Met l yX8_grow (wg_ws yX8_grow cX8_grow 2 none) (wg_rm 2 0 0) (wg_Pc E A C [.ref (A 1000)]) (wg_Qv E (fun A1 C1 => A = A1 ∧ (∀ q, q ≠ 1018 → C1 q = C q) ∧ ∃ nd : Nat → Int64, C1 1018 = some (.inl (E.2.1 1, 16, .inr (.inl nd))) ∧ ∀ q, 1 ≤ q → q < 16 → nd q = lc_node (st_lf S) q)) 0 0 (wg_A E) := by
  refine wg_met (by decide) (Nat.le_of_ble_eq_true rfl) ?_
  intro p e s m below meth c ls F hr hlk hnm hP hS hl
  have F : wg_F p m c cX8_grow 2 s ([.ref (A 1000)] : List Value).toArray "LightChecksModel" E := F
  have hx := F.1
  have hb := F.2.1
  have hml := F.2.2.1
  have hown := F.2.2.2.1
  have hts := F.2.2.2.2.1
  have hl : lv_has ls 2 [(0, .ref (A 1000))] := hl
  obtain ⟨mo, ⟨g1, m1, r1⟩, ⟨g3, m3, r3⟩, ⟨g4, m4, r4⟩, ⟨g5, m5, r5⟩, ⟨g6, m6, r6⟩, ⟨g7, m7, r7⟩, ⟨g8, m8, r8⟩, ⟨g9, m9, r9⟩, ⟨g10, m10, r10⟩, ⟨g11, m11, r11⟩, ⟨g12, m12, r12⟩, ⟨g13, m13, r13⟩, ⟨g14, m14, r14⟩, ⟨g15, m15, r15⟩, ⟨g16, m16, r16⟩, ⟨g17, m17, r17⟩, ⟨g18, m18, r18⟩, ⟨g24, m24, r24⟩, ⟨g25, m25, r25⟩, ⟨g26, m26, r26⟩, ⟨g27, m27⟩, ⟨g28, m28, r28⟩⟩ := id hM
  obtain ⟨iok, ⟨itm, itm3a, itm3b⟩, icl, igv, ipa, ipb, ipab⟩ := id hI
  have ins := iok.1
  have inh := iok.2.1
  refine lv_bipush (v := 15) hx hb dX8_grow_0 (by decide) ?_
  refine lv_istore_n (lv' := [(1, .int 15), (0, .ref (A 1000))]) hx hb dX8_grow_2 rfl hl (by decide) rfl (fun ls hl => ?_)
  have loop_3 : ∀ (fuel : Nat) (k : Nat) (y1 : Int32) (fk : Nat → Int64), k < fuel → (k ≤ 15) → (y1 = nI k) → (∀ q, k < q → q < 16 → fk q = lc_node (st_lf S) q) → ∀ (Cw : wg_C) , Cw 1000 = some (.inr (8, [.int (nI (lc_ns (st_B S))), .ref (A 1001), .int (nI (lc_nh (st_B S))), .ref (A 1003), .ref (A 1004), .ref (A 1005), .ref (A 1006), .ref (A 1007), .ref (A 1008), .ref (A 1009), .ref (A 1010), .ref (A 1011), .ref (A 1012), .ref (A 1013), .ref (A 1014), .ref (A 1015), .ref (A 1016), .ref (A 1017), .ref (A 1018), .int (nI (st_pa S)), .int (nI (st_pb S)), .long (st_va S), .long (st_vb S), .int (nI (st_ct S)), .ref (A 1024), .ref (A 1025), .ref (A 1026), .ref (A 1027), .ref (A 1028)])) → Cw 1017 = some (.inl (E.2.1 1, 8, .inr (.inl g17))) → Cw 1018 = some (.inl (E.2.1 1, 16, .inr (.inl fk))) → (∀ r, r ≠ 1018 → Cw r = C r) → ∀ (H : Heap) (locs : List Loc) (ls : Array Slot), wg_P E A Cw H → va_S (wg_A E) s.heap H locs → lv_has ls 2 [(0, .ref (A 1000)), (1, .int y1)] → W p l e (wg_rm 2 0 0) s m ([.ref (A 1000)] : List Value).toArray below meth c H locs 0 0 (MQ below (wg_Qv E (fun A1 C1 => A = A1 ∧ (∀ q, q ≠ 1018 → C1 q = C q) ∧ ∃ nd : Nat → Int64, C1 1018 = some (.inl (E.2.1 1, 16, .inr (.inl nd))) ∧ ∀ q, 1 ≤ q → q < 16 → nd q = lc_node (st_lf S) q)) ([.ref (A 1000)] : List Value).toArray s 0 0 (wg_A E)) (F0 m 3 ls []) := by
    intro fuel
    induction fuel with
    | zero => intro k y1 fk hm; exact absurd hm (Nat.not_lt_zero _)
    | succ fuel ih_loop_3 =>
      intro k y1 fk hm_loop_3 hk ey1 hfk Cw f1000w f1017w f1018w hbase H locs ls hP hS hl
      subst ey1
      refine lv_iload_n hx hb dX8_grow_3 rfl (lv_at hl 1 rfl) ?_
      refine lv_if_le (tgt := 61) hx hb dX8_grow_4 (by decide) (fun c_4 => ?_) (fun c_4 => ?_)
      · have hk0 : k = 0 := by rw [← nI_0, nI_leI (by omega) (by decide)] at c_4; omega
        subst hk0
        exact wg_vret F hP hS hr hlk (⟨rfl, hbase, fk, f1018w, fun q h1 h2 => hfk q (by omega) h2⟩) dX8_grow_61
      · obtain ⟨k, rfl⟩ : ∃ z, k = z + 1 := ⟨k - 1, by rw [← nI_0, nI_leI (by omega) (by decide)] at c_4; omega⟩
        refine lv_aload_n hx hb dX8_grow_7 rfl (lv_at hl 0 rfl) ?_
        refine wg_get F hP f1000w rfl iw_X8 18 (by decide) tb_567 rfl rfl dX8_grow_8 ?_
        refine lv_iload_n hx hb dX8_grow_11 rfl (lv_at hl 1 rfl) ?_
        refine lv_iload_n hx hb dX8_grow_12 rfl (lv_at hl 1 rfl) ?_
        refine lv_bipush (v := 7) hx hb dX8_grow_13 (by decide) ?_
        refine lv_icmp_le (tgt := 33) hx hb dX8_grow_15 (by decide) (fun c_15 => ?_) (fun c_15 => ?_)
        · have h8 : k + 1 < 8 := by rw [show (7 : Int32) = nI 7 from rfl, nI_leI (by omega) (by decide)] at c_15; omega
          refine lv_aload_n hx hb dX8_grow_33 rfl (lv_at hl 0 rfl) ?_
          refine wg_get F hP f1000w rfl iw_X8 18 (by decide) tb_567 rfl rfl dX8_grow_34 ?_
          refine lv_iconst (v := 2) hx hb dX8_grow_37 (by decide) ?_
          refine lv_iload_n hx hb dX8_grow_38 rfl (lv_at hl 1 rfl) ?_
          refine lv_imul hx hb dX8_grow_39 ?_
          refine wg_topi (y := nI (2 * (k + 1))) (by rw [show (2 : Int32) = nI 2 from rfl, pk_mul]) ?_
          refine wg_lld F hP f1018w (vp_in_nI (by omega) (by decide)) dX8_grow_40 ?_
          refine wg_topl (y := lc_node (st_lf S) (2 * (k + 1))) ((by rw [nI_clamp (by omega)]; exact hfk _ (by omega) (by omega))) ?_
          refine lv_aload_n hx hb dX8_grow_41 rfl (lv_at hl 0 rfl) ?_
          refine wg_get F hP f1000w rfl iw_X8 18 (by decide) tb_567 rfl rfl dX8_grow_42 ?_
          refine lv_iconst (v := 2) hx hb dX8_grow_45 (by decide) ?_
          refine lv_iload_n hx hb dX8_grow_46 rfl (lv_at hl 1 rfl) ?_
          refine lv_imul hx hb dX8_grow_47 ?_
          refine wg_topi (y := nI (2 * (k + 1))) (by rw [show (2 : Int32) = nI 2 from rfl, pk_mul]) ?_
          refine lv_iconst (v := 1) hx hb dX8_grow_48 (by decide) ?_
          refine lv_iadd hx hb dX8_grow_49 ?_
          refine wg_topi (y := nI (2 * (k + 1) + 1)) (by rw [nI_1]) ?_
          refine wg_lld F hP f1018w (vp_in_nI (by omega) (by decide)) dX8_grow_50 ?_
          refine wg_topl (y := lc_node (st_lf S) (2 * (k + 1) + 1)) ((by rw [nI_clamp (by omega)]; exact hfk _ (by omega) (by omega))) ?_
          refine wg_cl_ hS (wg_rS (As := [.long (lc_node (st_lf S) (2 * (k + 1))), .long (lc_node (st_lf S) (2 * (k + 1) + 1))]) (rest := [.int (nI (k + 1)), .ref (A 1018)]) F hP hS (c_X8_pair l E A Cw _ _) ok_X8_pair tb_544 rfl rfl ⟨Nat.le_of_ble_eq_true rfl, Nat.le_of_ble_eq_true rfl⟩ rfl hl.1 rfl (Nat.le_of_ble_eq_true rfl) dX8_grow_51 ⟨Nat.le_of_ble_eq_true rfl, Nat.le_of_ble_eq_true rfl⟩) (fun r_51 A1 C_51 H locs w_51 hP hS => ?_)
          obtain ⟨w_51, rfl, rfl⟩ := w_51
          refine wg_topl (y := lc_node (st_lf S) (k + 1)) (by rw [w_51, lc_node_lo (by omega) h8]) ?_
          refine wg_lst F hP hS f1018w (vp_in_nI (by omega) (by decide)) dX8_grow_54 (fun H locs hP hS => ?_)
          obtain ⟨C_54, hC_54⟩ : ∃ z : wg_C, z = va_up Cw 1018 (some (.inl (E.2.1 1, 16, .inr (.inl (vp_updL fk (nI (k + 1)).toNatClampNeg (lc_node (st_lf S) (k + 1))))))) := ⟨_, rfl⟩
          have hP : wg_P E A C_54 H := by rw [hC_54]; exact hP
          have f1000w_c54 : C_54 1000 = some (.inr (8, [.int (nI (lc_ns (st_B S))), .ref (A 1001), .int (nI (lc_nh (st_B S))), .ref (A 1003), .ref (A 1004), .ref (A 1005), .ref (A 1006), .ref (A 1007), .ref (A 1008), .ref (A 1009), .ref (A 1010), .ref (A 1011), .ref (A 1012), .ref (A 1013), .ref (A 1014), .ref (A 1015), .ref (A 1016), .ref (A 1017), .ref (A 1018), .int (nI (st_pa S)), .int (nI (st_pb S)), .long (st_va S), .long (st_vb S), .int (nI (st_ct S)), .ref (A 1024), .ref (A 1025), .ref (A 1026), .ref (A 1027), .ref (A 1028)])) := by rw [hC_54]; rw [va_up_ne _ _ (by decide)]; exact f1000w
          have f1017w_c54 : C_54 1017 = some (.inl (E.2.1 1, 8, .inr (.inl g17))) := by rw [hC_54]; rw [va_up_ne _ _ (by decide)]; exact f1017w
          have f1018w_c54 : C_54 1018 = some (.inl (E.2.1 1, 16, .inr (.inl (vp_updL fk (nI (k + 1)).toNatClampNeg (lc_node (st_lf S) (k + 1)))))) := by rw [hC_54]; exact va_up_self _ _ _
          have hfn : ∀ q, k < q → q < 16 → (vp_updL fk (nI (k + 1)).toNatClampNeg (lc_node (st_lf S) (k + 1))) q = lc_node (st_lf S) q := by
            intro q h1 h2
            rw [nI_clamp (by omega)]
            by_cases z : q = k + 1
            · subst z; rw [lm_uLs]
            · rw [lm_uLn _ _ z]; exact hfk q (by omega) h2
          obtain ⟨x_55, ex_55⟩ : ∃ y : Int32, y = nI (k + 1) + (-1) := ⟨_, rfl⟩
          refine lv_iinc (v := x_55) (lv' := [(1, .int x_55), (0, .ref (A 1000))]) hx hb dX8_grow_55 hl (k := 1) rfl (by rw [ex_55]; rfl) (by decide) rfl (fun ls hl => ?_)
          refine lv_goto (tgt := 3) hx hb dX8_grow_58 (by decide) ?_
          exact ih_loop_3 k x_55 (vp_updL fk (nI (k + 1)).toNatClampNeg (lc_node (st_lf S) (k + 1))) (by omega) (by omega) (by rw [ex_55]; exact pk_m1 k) hfn C_54 f1000w_c54 f1017w_c54 f1018w_c54 ((fun r h1 => by rw [hC_54, va_up_ne _ _ h1]; exact hbase r h1)) _ _ _ hP hS (lv_sub hl [1, 0] rfl)
        · have h8 : 8 ≤ k + 1 := by rw [show (7 : Int32) = nI 7 from rfl, nI_leI (by omega) (by decide)] at c_15; omega
          refine lv_aload_n hx hb dX8_grow_18 rfl (lv_at hl 0 rfl) ?_
          refine wg_get F hP f1000w rfl iw_X8 17 (by decide) tb_566 rfl rfl dX8_grow_19 ?_
          refine lv_iload_n hx hb dX8_grow_22 rfl (lv_at hl 1 rfl) ?_
          refine lv_bipush (v := 8) hx hb dX8_grow_23 (by decide) ?_
          refine lv_isub hx hb dX8_grow_25 ?_
          refine wg_topi (y := nI (k + 1 - 8)) (by rw [show (8 : Int32) = nI 8 from rfl, pk_sub (by omega)]) ?_
          refine wg_lld F hP f1017w (vp_in_nI (by omega) (by decide)) dX8_grow_26 ?_
          refine wg_topl (y := st_lf S (k + 1 - 8)) ((by rw [nI_clamp (by omega)]; exact r17 _ (by omega))) ?_
          refine wg_cl_ hS (wg_rS (As := [.long (st_lf S (k + 1 - 8))]) (rest := [.int (nI (k + 1)), .ref (A 1018)]) F hP hS (c_X8_mix l E A Cw _) ok_X8_mix tb_539 rfl rfl ⟨Nat.le_of_ble_eq_true rfl, Nat.le_of_ble_eq_true rfl⟩ rfl hl.1 rfl (Nat.le_of_ble_eq_true rfl) dX8_grow_27 ⟨Nat.le_of_ble_eq_true rfl, Nat.le_of_ble_eq_true rfl⟩) (fun r_27 A1 C_27 H locs w_27 hP hS => ?_)
          obtain ⟨w_27, rfl, rfl⟩ := w_27
          refine wg_topl (y := lc_node (st_lf S) (k + 1)) (by rw [w_27, lc_node_hi h8]) ?_
          refine lv_goto (tgt := 54) hx hb dX8_grow_30 (by decide) ?_
          refine wg_topl (y := lc_node (st_lf S) (k + 1)) rfl ?_
          refine wg_lst F hP hS f1018w (vp_in_nI (by omega) (by decide)) dX8_grow_54 (fun H locs hP hS => ?_)
          obtain ⟨C_54_1, hC_54_1⟩ : ∃ z : wg_C, z = va_up Cw 1018 (some (.inl (E.2.1 1, 16, .inr (.inl (vp_updL fk (nI (k + 1)).toNatClampNeg (lc_node (st_lf S) (k + 1))))))) := ⟨_, rfl⟩
          have hP : wg_P E A C_54_1 H := by rw [hC_54_1]; exact hP
          have f1000w_c54_1 : C_54_1 1000 = some (.inr (8, [.int (nI (lc_ns (st_B S))), .ref (A 1001), .int (nI (lc_nh (st_B S))), .ref (A 1003), .ref (A 1004), .ref (A 1005), .ref (A 1006), .ref (A 1007), .ref (A 1008), .ref (A 1009), .ref (A 1010), .ref (A 1011), .ref (A 1012), .ref (A 1013), .ref (A 1014), .ref (A 1015), .ref (A 1016), .ref (A 1017), .ref (A 1018), .int (nI (st_pa S)), .int (nI (st_pb S)), .long (st_va S), .long (st_vb S), .int (nI (st_ct S)), .ref (A 1024), .ref (A 1025), .ref (A 1026), .ref (A 1027), .ref (A 1028)])) := by rw [hC_54_1]; rw [va_up_ne _ _ (by decide)]; exact f1000w
          have f1017w_c54_1 : C_54_1 1017 = some (.inl (E.2.1 1, 8, .inr (.inl g17))) := by rw [hC_54_1]; rw [va_up_ne _ _ (by decide)]; exact f1017w
          have f1018w_c54_1 : C_54_1 1018 = some (.inl (E.2.1 1, 16, .inr (.inl (vp_updL fk (nI (k + 1)).toNatClampNeg (lc_node (st_lf S) (k + 1)))))) := by rw [hC_54_1]; exact va_up_self _ _ _
          have hfn : ∀ q, k < q → q < 16 → (vp_updL fk (nI (k + 1)).toNatClampNeg (lc_node (st_lf S) (k + 1))) q = lc_node (st_lf S) q := by
            intro q h1 h2
            rw [nI_clamp (by omega)]
            by_cases z : q = k + 1
            · subst z; rw [lm_uLs]
            · rw [lm_uLn _ _ z]; exact hfk q (by omega) h2
          obtain ⟨x_55, ex_55⟩ : ∃ y : Int32, y = nI (k + 1) + (-1) := ⟨_, rfl⟩
          refine lv_iinc (v := x_55) (lv' := [(1, .int x_55), (0, .ref (A 1000))]) hx hb dX8_grow_55 hl (k := 1) rfl (by rw [ex_55]; rfl) (by decide) rfl (fun ls hl => ?_)
          refine lv_goto (tgt := 3) hx hb dX8_grow_58 (by decide) ?_
          exact ih_loop_3 k x_55 (vp_updL fk (nI (k + 1)).toNatClampNeg (lc_node (st_lf S) (k + 1))) (by omega) (by omega) (by rw [ex_55]; exact pk_m1 k) hfn C_54_1 f1000w_c54_1 f1017w_c54_1 f1018w_c54_1 ((fun r h1 => by rw [hC_54_1, va_up_ne _ _ h1]; exact hbase r h1)) _ _ _ hP hS (lv_sub hl [1, 0] rfl)
  exact loop_3 _ 15 15 g18 (Nat.lt_succ_self _) (by omega) rfl (fun q h1 h2 => by omega) C mo m17 m18 (fun r _ => rfl) _ _ _ hP hS (lv_sub hl [1, 0] rfl)
set_option maxHeartbeats 4000000 in
set_option maxRecDepth 100000 in
theorem c_X8_tree (l : Launch) (E : wg_E) (A : Nat → Nat) (C : wg_C) (S : lc_S) (k : Int32) (hM : lm E A C S) (hI : lc_inv S)  : Met l yX8_tree (wg_ws yX8_tree cX8_tree 2 (some .long)) (wg_rm 3 0 0) (wg_Pc E A C [.ref (A 1000), .int k]) (wg_Ql E (fun r A1 C1 => A = A1 ∧ r = op_tree S k ∧ lm E A C1 S ∧ ∀ q, q < 1000 → C1 q = C q)) 0 0 (wg_A E) := by
  refine wg_met (by decide) (Nat.le_of_ble_eq_true rfl) ?_
  intro p e s m below meth c ls F hr hlk hnm hP hS hl
  have F : wg_F p m c cX8_tree 2 s ([.ref (A 1000), .int k] : List Value).toArray "LightChecksModel" E := F
  have hx := F.1
  have hb := F.2.1
  have hml := F.2.2.1
  have hown := F.2.2.2.1
  have hts := F.2.2.2.2.1
  have hl : lv_has ls 2 [(0, .ref (A 1000)), (1, .int k)] := hl
  obtain ⟨mo, ⟨g1, m1, r1⟩, ⟨g3, m3, r3⟩, ⟨g4, m4, r4⟩, ⟨g5, m5, r5⟩, ⟨g6, m6, r6⟩, ⟨g7, m7, r7⟩, ⟨g8, m8, r8⟩, ⟨g9, m9, r9⟩, ⟨g10, m10, r10⟩, ⟨g11, m11, r11⟩, ⟨g12, m12, r12⟩, ⟨g13, m13, r13⟩, ⟨g14, m14, r14⟩, ⟨g15, m15, r15⟩, ⟨g16, m16, r16⟩, ⟨g17, m17, r17⟩, ⟨g18, m18, r18⟩, ⟨g24, m24, r24⟩, ⟨g25, m25, r25⟩, ⟨g26, m26, r26⟩, ⟨g27, m27⟩, ⟨g28, m28, r28⟩⟩ := id hM
  obtain ⟨iok, ⟨itm, itm3a, itm3b⟩, icl, igv, ipa, ipb, ipab⟩ := id hI
  have ins := iok.1
  have inh := iok.2.1
  refine lv_aload_n hx hb dX8_tree_0 rfl (lv_at hl 0 rfl) ?_
  refine wg_cv hS (wg_rV (As := []) (rest := []) F hP hS (c_X8_grow l E A C S hM hI) ok_X8_grow tb_535 rfl rfl ⟨Nat.le_of_ble_eq_true rfl, Nat.le_of_ble_eq_true rfl⟩ mo rfl rfl rfl hl.1 rfl (Nat.le_of_ble_eq_true rfl) dX8_tree_1 ⟨Nat.le_of_ble_eq_true rfl, Nat.le_of_ble_eq_true rfl⟩) (fun A1 C_1 H locs w_1 hP hS => ?_)
  obtain ⟨rfl, hfr_1, nd, hnd, hn⟩ := w_1
  have mo_c1 : C_1 1000 = some (.inr (8, [.int (nI (lc_ns (st_B S))), .ref (A 1001), .int (nI (lc_nh (st_B S))), .ref (A 1003), .ref (A 1004), .ref (A 1005), .ref (A 1006), .ref (A 1007), .ref (A 1008), .ref (A 1009), .ref (A 1010), .ref (A 1011), .ref (A 1012), .ref (A 1013), .ref (A 1014), .ref (A 1015), .ref (A 1016), .ref (A 1017), .ref (A 1018), .int (nI (st_pa S)), .int (nI (st_pb S)), .long (st_va S), .long (st_vb S), .int (nI (st_ct S)), .ref (A 1024), .ref (A 1025), .ref (A 1026), .ref (A 1027), .ref (A 1028)])) := by rw [hfr_1 1000 (by decide)]; exact mo
  have f1018_c1 : C_1 1018 = some (.inl (E.2.1 1, 16, .inr (.inl nd))) := hnd
  refine lv_iload_n hx hb dX8_tree_4 rfl (lv_at hl 1 rfl) ?_
  refine lv_i2l (v := k.toInt64) hx hb dX8_tree_5 rfl ?_
  refine lv_lconst (v := 1) hx hb dX8_tree_6 (by decide) ?_
  refine lv_ldc2 (v := 15) hx hb hown (hts _ tb_766) dX8_tree_7 ?_
  refine wg_ci hS (wg_rS (As := [.long k.toInt64, .long 1, .long 15]) (rest := []) F hP hS (c_X8_in l E A C_1 _ _ _) ok_X8_in tb_532 rfl rfl ⟨Nat.le_of_ble_eq_true rfl, Nat.le_of_ble_eq_true rfl⟩ rfl hl.1 rfl (Nat.le_of_ble_eq_true rfl) dX8_tree_10 ⟨Nat.le_of_ble_eq_true rfl, Nat.le_of_ble_eq_true rfl⟩) (fun r_10 A1 C_10 H locs w_10 hP hS => ?_)
  obtain ⟨w_10, rfl, rfl⟩ := w_10
  simp only [lc_i2l, show (0 : Int64).toInt = 0 from by decide, show (1 : Int64).toInt = 1 from by decide, show (2 : Int64).toInt = 2 from by decide, show (3 : Int64).toInt = 3 from by decide, show (4 : Int64).toInt = 4 from by decide, show (5 : Int64).toInt = 5 from by decide, show (7 : Int64).toInt = 7 from by decide, show (9 : Int64).toInt = 9 from by decide, show (10 : Int64).toInt = 10 from by decide, show (15 : Int64).toInt = 15 from by decide, show (60 : Int64).toInt = 60 from by decide, show (1000 : Int64).toInt = 1000 from by decide, show (100000 : Int64).toInt = 100000 from by decide, show (1000000 : Int64).toInt = 1000000 from by decide] at w_10
  refine lv_if_eq (tgt := 25) hx hb dX8_tree_13 (by decide) (fun c_13 => ?_) (fun c_13 => ?_)
  · have q_13 := lc_if1 w_10 c_13
    refine lv_lconst (v := 0) hx hb dX8_tree_25 (by decide) ?_
    exact wg_lret F hP hS hr hlk (⟨rfl, by unfold op_tree; rw [if_neg (by omega)], ⟨(hfr_1 1000 (by decide)).trans hM.1, hM.2.1.same (hfr_1 1001 (by decide)), hM.2.2.1.same (hfr_1 1003 (by decide)), hM.2.2.2.1.same (hfr_1 1004 (by decide)), hM.2.2.2.2.1.same (hfr_1 1005 (by decide)), hM.2.2.2.2.2.1.same (hfr_1 1006 (by decide)), hM.2.2.2.2.2.2.1.same (hfr_1 1007 (by decide)), hM.2.2.2.2.2.2.2.1.same (hfr_1 1008 (by decide)), hM.2.2.2.2.2.2.2.2.1.same (hfr_1 1009 (by decide)), hM.2.2.2.2.2.2.2.2.2.1.same (hfr_1 1010 (by decide)), hM.2.2.2.2.2.2.2.2.2.2.1.same (hfr_1 1011 (by decide)), hM.2.2.2.2.2.2.2.2.2.2.2.1.same (hfr_1 1012 (by decide)), hM.2.2.2.2.2.2.2.2.2.2.2.2.1.same (hfr_1 1013 (by decide)), hM.2.2.2.2.2.2.2.2.2.2.2.2.2.1.same (hfr_1 1014 (by decide)), hM.2.2.2.2.2.2.2.2.2.2.2.2.2.2.1.same (hfr_1 1015 (by decide)), hM.2.2.2.2.2.2.2.2.2.2.2.2.2.2.2.1.same (hfr_1 1016 (by decide)), hM.2.2.2.2.2.2.2.2.2.2.2.2.2.2.2.2.1.same (hfr_1 1017 (by decide)), ⟨nd, hnd, trivial⟩, hM.2.2.2.2.2.2.2.2.2.2.2.2.2.2.2.2.2.2.1.same (hfr_1 1024 (by decide)), hM.2.2.2.2.2.2.2.2.2.2.2.2.2.2.2.2.2.2.2.1.same (hfr_1 1025 (by decide)), hM.2.2.2.2.2.2.2.2.2.2.2.2.2.2.2.2.2.2.2.2.1.same (hfr_1 1026 (by decide)), hM.2.2.2.2.2.2.2.2.2.2.2.2.2.2.2.2.2.2.2.2.2.1.same (hfr_1 1027 (by decide)), hM.2.2.2.2.2.2.2.2.2.2.2.2.2.2.2.2.2.2.2.2.2.2.same (hfr_1 1028 (by decide))⟩, fun q hq => hfr_1 q (by omega)⟩) dX8_tree_26
  · have q_13 := lc_if2 w_10 c_13
    obtain ⟨j, hj1, hj16, rfl⟩ : ∃ j : Nat, 1 ≤ j ∧ j < 16 ∧ k = nI j := by
      obtain ⟨j, hj31, ek⟩ := nI_of (x := k) (by rw [Int32.lt_iff_toInt_lt, lc_t0i]; omega)
      have tk : k.toInt = (j : Int) := by rw [ek, nI_toInt hj31]
      exact ⟨j, by omega, by omega, ek⟩
    refine lv_aload_n hx hb dX8_tree_16 rfl (lv_at hl 0 rfl) ?_
    refine wg_get F hP mo_c1 rfl iw_X8 18 (by decide) tb_567 rfl rfl dX8_tree_17 ?_
    refine lv_iload_n hx hb dX8_tree_20 rfl (lv_at hl 1 rfl) ?_
    refine wg_lld F hP f1018_c1 (vp_in_nI (by omega) (by decide)) dX8_tree_21 ?_
    refine wg_topl (y := lc_node (st_lf S) j) ((by rw [nI_clamp (by omega)]; exact hn j hj1 hj16)) ?_
    refine lv_goto (tgt := 26) hx hb dX8_tree_22 (by decide) ?_
    exact wg_lret F hP hS hr hlk (⟨rfl, by unfold op_tree; rw [nI_toInt (by omega), if_pos (by omega), Int.toNat_natCast], ⟨(hfr_1 1000 (by decide)).trans hM.1, hM.2.1.same (hfr_1 1001 (by decide)), hM.2.2.1.same (hfr_1 1003 (by decide)), hM.2.2.2.1.same (hfr_1 1004 (by decide)), hM.2.2.2.2.1.same (hfr_1 1005 (by decide)), hM.2.2.2.2.2.1.same (hfr_1 1006 (by decide)), hM.2.2.2.2.2.2.1.same (hfr_1 1007 (by decide)), hM.2.2.2.2.2.2.2.1.same (hfr_1 1008 (by decide)), hM.2.2.2.2.2.2.2.2.1.same (hfr_1 1009 (by decide)), hM.2.2.2.2.2.2.2.2.2.1.same (hfr_1 1010 (by decide)), hM.2.2.2.2.2.2.2.2.2.2.1.same (hfr_1 1011 (by decide)), hM.2.2.2.2.2.2.2.2.2.2.2.1.same (hfr_1 1012 (by decide)), hM.2.2.2.2.2.2.2.2.2.2.2.2.1.same (hfr_1 1013 (by decide)), hM.2.2.2.2.2.2.2.2.2.2.2.2.2.1.same (hfr_1 1014 (by decide)), hM.2.2.2.2.2.2.2.2.2.2.2.2.2.2.1.same (hfr_1 1015 (by decide)), hM.2.2.2.2.2.2.2.2.2.2.2.2.2.2.2.1.same (hfr_1 1016 (by decide)), hM.2.2.2.2.2.2.2.2.2.2.2.2.2.2.2.2.1.same (hfr_1 1017 (by decide)), ⟨nd, hnd, trivial⟩, hM.2.2.2.2.2.2.2.2.2.2.2.2.2.2.2.2.2.2.1.same (hfr_1 1024 (by decide)), hM.2.2.2.2.2.2.2.2.2.2.2.2.2.2.2.2.2.2.2.1.same (hfr_1 1025 (by decide)), hM.2.2.2.2.2.2.2.2.2.2.2.2.2.2.2.2.2.2.2.2.1.same (hfr_1 1026 (by decide)), hM.2.2.2.2.2.2.2.2.2.2.2.2.2.2.2.2.2.2.2.2.2.1.same (hfr_1 1027 (by decide)), hM.2.2.2.2.2.2.2.2.2.2.2.2.2.2.2.2.2.2.2.2.2.2.same (hfr_1 1028 (by decide))⟩, fun q hq => hfr_1 q (by omega)⟩) dX8_tree_26
