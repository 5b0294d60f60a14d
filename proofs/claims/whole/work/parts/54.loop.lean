theorem lw_and31 (x : Int32) : ∃ k : Nat, k < 32 ∧ x &&& 31 = nI k := ⟨x.toBitVec.toNat % 2 ^ 5, Nat.mod_lt _ (by decide), pk_and x (m := 31) 5 (by decide)⟩
set_option maxHeartbeats 4000000 in
set_option maxRecDepth 100000 in
/-- THE LAW'S LOOP: at its head both systems stand for one state -/
theorem law_loop {p : Program} {l : Launch} {e : Env} {s : State} {m : MethodId} {below : List Frame} {meth : Method} {c : Code} {E : wg_E} {b L : Nat} {xs : Nat → Int32} (hL : L ≤ 4096) (C0 : lw_At p s m meth c b L xs) (hE : E.2.2.1 = s.heap.size) (F : wg_F p m c cL_law 4 s #[Value.ref b] R_law E) :
    ∀ (n i : Nat), i ≤ L → L < i + n → ∀ (A : Nat → Nat) (C : wg_C) (S : lc_S) (H : Heap) (locs : List Loc) (ls : Array Slot), lx E A C S → lm E A C S → lc_inv S → wg_P E A C H → va_S (wg_A E) s.heap H locs → lv_has ls 4 [(0, .ref b), (1, .ref (A 0)), (2, .ref (A 1000)), (3, .int (nI i))] →
      W p l e room_1 s m #[Value.ref b] below meth c H locs (i + 100) (i + 3000) (lw_Z below #[Value.ref b] s) (F0 m 18 ls []) := by
  have C1 := C0
  obtain ⟨hx, hb, hr, hml, hown, hts, hsc, hbl, hlocks, hgv⟩ := C0
  have hbA : ¬ wg_A E b := by show ¬ E.2.2.1 ≤ b; rw [hE]; exact Nat.not_le.mpr hbl
  intro n
  induction n with
  | zero => intro i h1 h2; exact absurd h2 (by omega)
  | succ n ih =>
    intro i hiL hin A C S H locs ls hX hM hI hP hS hl
    refine lv_iload_n hx hb dL_law_18 rfl (lv_at hl 3 rfl) ?_
    refine lv_aload_n hx hb dL_law_19 rfl (lv_at hl 0 rfl) ?_
    refine va_slen hx hb hsc hbl hbA hS dL_law_20 ?_
    refine lv_bipush (v := 8) hx hb dL_law_21 (by decide) ?_
    refine lv_isub hx hb dL_law_23 ?_
    have hcmp : nI L - 8 < nI i ↔ L < i + 8 := by
      rw [Int32.lt_iff_toInt_lt, show (8 : Int32) = nI 8 from rfl, pk_sub_toInt (by omega) (by omega), nI_toInt (by omega)]
      omega
    refine lv_icmp_gt (tgt := 1201) hx hb dL_law_24 (by decide) (fun c_24 => ?_) (fun c_24 => ?_)
    · refine lv_iconst (v := 1) hx hb dL_law_1201 (by decide) ?_
      refine va_forget (fun q hq => by have h := hS.2.2 q hq; rw [← hE]; exact h) ?_
      refine W.widen (k := 600000) (n := 7302250) (by omega) (by omega) ?_
      exact lw_ret hx hb hr hlocks dL_law_1202
    · have hi : i + 8 ≤ L := by
        have : ¬ L < i + 8 := fun q => c_24 (hcmp.mpr q)
        omega
      have hkk : lw_kk p l e s m below meth c E b i := by
        intro A C S H locs ls hX hM hI hP hS hl
        refine lv_iinc (v := nI (i + 8)) (lv' := [(3, .int (nI (i + 8))), (0, .ref b), (1, .ref (A 0)), (2, .ref (A 1000))]) hx hb dL_law_1195 hl (k := 3) rfl (by rw [← nI_add]; rfl) (by decide) rfl (fun ls hl => ?_)
        refine lv_goto (tgt := 18) hx hb dL_law_1198 (by decide) ?_
        exact ih (i + 8) hi (by omega) A C S H locs ls hX hM hI hP hS (lv_sub hl [1, 2, 3, 0] rfl)
      refine lv_aload_n hx hb dL_law_27 rfl (lv_at hl 0 rfl) ?_
      refine lv_iload_n hx hb dL_law_28 rfl (lv_at hl 3 rfl) ?_
      refine va_sld hx hb hsc hbl hbA hS (vp_in_nI (n := i) (by omega) (by omega)) dL_law_29 ?_
      refine lv_bipush (v := 31) hx hb dL_law_30 (by decide) ?_
      refine lv_iand hx hb dL_law_32 ?_
      obtain ⟨k, hk, ek⟩ := lw_and31 (xs (nI i).toNatClampNeg)
      refine wg_topi (y := nI k) ek ?_
      clear ek
      rcases (show k = 0 ∨ k = 1 ∨ k = 2 ∨ k = 3 ∨ k = 4 ∨ k = 5 ∨ k = 6 ∨ k = 7 ∨ k = 8 ∨ k = 9 ∨ k = 10 ∨ k = 11 ∨ k = 12 ∨ k = 13 ∨ k = 14 ∨ k = 15 ∨ k = 16 ∨ k = 17 ∨ k = 18 ∨ k = 19 ∨ k = 20 ∨ k = 21 ∨ k = 22 ∨ k = 23 ∨ 24 ≤ k by omega) with rfl | rfl | rfl | rfl | rfl | rfl | rfl | rfl | rfl | rfl | rfl | rfl | rfl | rfl | rfl | rfl | rfl | rfl | rfl | rfl | rfl | rfl | rfl | rfl | hk24
      · refine lv_tableIn (off := 111) (tgt := 144) hx hb dL_law_33 (by decide) (by decide) (by decide) (by decide) ?_
        exact law_set hL C1 hE F A C S i H locs ls hX hM hI hi hP hS hl hkk
      · refine lv_tableIn (off := 204) (tgt := 237) hx hb dL_law_33 (by decide) (by decide) (by decide) (by decide) ?_
        exact law_head hL C1 hE F A C S i H locs ls hX hM hI hi hP hS hl hkk
      · refine lv_tableIn (off := 331) (tgt := 364) hx hb dL_law_33 (by decide) (by decide) (by decide) (by decide) ?_
        exact law_sign hL C1 hE F A C S i H locs ls hX hM hI hi hP hS hl hkk
      · refine lv_tableIn (off := 364) (tgt := 397) hx hb dL_law_33 (by decide) (by decide) (by decide) (by decide) ?_
        exact law_term hL C1 hE F A C S i H locs ls hX hM hI hi hP hS hl hkk
      · refine lv_tableIn (off := 397) (tgt := 430) hx hb dL_law_33 (by decide) (by decide) (by decide) (by decide) ?_
        exact law_digest hL C1 hE F A C S i H locs ls hX hM hI hi hP hS hl hkk
      · refine lv_tableIn (off := 421) (tgt := 454) hx hb dL_law_33 (by decide) (by decide) (by decide) (by decide) ?_
        exact law_certified hL C1 hE F A C S i H locs ls hX hM hI hi hP hS hl hkk
      · refine lv_tableIn (off := 444) (tgt := 477) hx hb dL_law_33 (by decide) (by decide) (by decide) (by decide) ?_
        exact law_overlaps hL C1 hE F A C S i H locs ls hX hM hI hi hP hS hl hkk
      · refine lv_tableIn (off := 477) (tgt := 510) hx hb dL_law_33 (by decide) (by decide) (by decide) (by decide) ?_
        exact law_start hL C1 hE F A C S i H locs ls hX hM hI hi hP hS hl hkk
      · refine lv_tableIn (off := 510) (tgt := 543) hx hb dL_law_33 (by decide) (by decide) (by decide) (by decide) ?_
        exact law_follow hL C1 hE F A C S i H locs ls hX hM hI hi hP hS hl hkk
      · refine lv_tableIn (off := 543) (tgt := 576) hx hb dL_law_33 (by decide) (by decide) (by decide) (by decide) ?_
        exact law_give hL C1 hE F A C S i H locs ls hX hM hI hi hP hS hl hkk
      · refine lv_tableIn (off := 576) (tgt := 609) hx hb dL_law_33 (by decide) (by decide) (by decide) (by decide) ?_
        exact law_seek hL C1 hE F A C S i H locs ls hX hM hI hi hP hS hl hkk
      · refine lv_tableIn (off := 619) (tgt := 652) hx hb dL_law_33 (by decide) (by decide) (by decide) (by decide) ?_
        exact law_stored hL C1 hE F A C S i H locs ls hX hM hI hi hP hS hl hkk
      · refine lv_tableIn (off := 652) (tgt := 685) hx hb dL_law_33 (by decide) (by decide) (by decide) (by decide) ?_
        exact law_client hL C1 hE F A C S i H locs ls hX hM hI hi hP hS hl hkk
      · refine lv_tableIn (off := 685) (tgt := 718) hx hb dL_law_33 (by decide) (by decide) (by decide) (by decide) ?_
        exact law_compare hL C1 hE F A C S i H locs ls hX hM hI hi hP hS hl hkk
      · refine lv_tableIn (off := 718) (tgt := 751) hx hb dL_law_33 (by decide) (by decide) (by decide) (by decide) ?_
        exact law_blame hL C1 hE F A C S i H locs ls hX hM hI hi hP hS hl hkk
      · refine lv_tableIn (off := 761) (tgt := 794) hx hb dL_law_33 (by decide) (by decide) (by decide) (by decide) ?_
        exact law_leaf hL C1 hE F A C S i H locs ls hX hM hI hi hP hS hl hkk
      · refine lv_tableIn (off := 825) (tgt := 858) hx hb dL_law_33 (by decide) (by decide) (by decide) (by decide) ?_
        exact law_tree hL C1 hE F A C S i H locs ls hX hM hI hi hP hS hl hkk
      · refine lv_tableIn (off := 849) (tgt := 882) hx hb dL_law_33 (by decide) (by decide) (by decide) (by decide) ?_
        exact law_prove hL C1 hE F A C S i H locs ls hX hM hI hi hP hS hl hkk
      · refine lv_tableIn (off := 882) (tgt := 915) hx hb dL_law_33 (by decide) (by decide) (by decide) (by decide) ?_
        exact law_proof hL C1 hE F A C S i H locs ls hX hM hI hi hP hS hl hkk
      · refine lv_tableIn (off := 906) (tgt := 939) hx hb dL_law_33 (by decide) (by decide) (by decide) (by decide) ?_
        exact law_alter hL C1 hE F A C S i H locs ls hX hM hI hi hP hS hl hkk
      · refine lv_tableIn (off := 969) (tgt := 1002) hx hb dL_law_33 (by decide) (by decide) (by decide) (by decide) ?_
        exact law_fraud hL C1 hE F A C S i H locs ls hX hM hI hi hP hS hl hkk
      · refine lv_tableIn (off := 1042) (tgt := 1075) hx hb dL_law_33 (by decide) (by decide) (by decide) (by decide) ?_
        exact law_chance hL C1 hE F A C S i H locs ls hX hM hI hi hP hS hl hkk
      · refine lv_tableIn (off := 1096) (tgt := 1129) hx hb dL_law_33 (by decide) (by decide) (by decide) (by decide) ?_
        exact law_samples hL C1 hE F A C S i H locs ls hX hM hI hi hP hS hl hkk
      · refine lv_tableIn (off := 1139) (tgt := 1172) hx hb dL_law_33 (by decide) (by decide) (by decide) (by decide) ?_
        exact law_told hL C1 hE F A C S i H locs ls hX hM hI hi hP hS hl hkk
      · refine lv_tableOut (tgt := 1195) hx hb dL_law_33 (Or.inr (by rw [nI_toInt (by omega)]; omega)) (by decide) ?_
        refine W.widen (k := i + 8 + 100) (n := i + 8 + 3000) (by omega) (by omega) ?_
        exact hkk A C S H locs ls hX hM hI hP hS hl
set_option maxHeartbeats 4000000 in
set_option maxRecDepth 100000 in
/-- THE LAW, from its entry -/
theorem whole_start {p : Program} {e : Env} {s : State} {m : MethodId} {below : List Frame} {meth : Method} {c : Code} (l : Launch) {b L : Nat} {xs : Nat → Int32} (hL : L ≤ 4096) (C0 : lw_At p s m meth c b L xs) : W p l e room_1 s m #[Value.ref b] below meth c s.heap [] 0 0 (lw_Z below #[Value.ref b] s) (entryFrame m ([Value.ref b] : List Value).toArray 4) := by
  obtain ⟨E, hE, F, hP0⟩ := lw_world C0
  obtain ⟨A, C, hP⟩ : ∃ (A : Nat → Nat) (C : wg_C), wg_P E A C s.heap := ⟨_, _, hP0⟩
  have hx := F.1
  have hb := F.2.1
  have hml := F.2.2.1
  have hown := F.2.2.2.1
  have hts := F.2.2.2.2.1
  have hS : va_S (wg_A E) s.heap s.heap [] := va_S.rf
  have hl := lv_entry ([.ref b]) (n := 4) (Nat.le_of_ble_eq_true rfl)
  rw [lg_entry_eq]
  generalize (lg_sl ([.ref b]) ++ List.replicate (4 - (lg_sl ([.ref b])).length) Slot.unset).toArray = ls at hl ⊢
  have hl : lv_has ls 4 [(0, .ref b)] := hl
  refine wg_newF (ci := 7) F hP hS 0 [.null, .int 0, .null, .null, .null, .null, .null, .null, .null] rfl iw_X7 tyX7_ok tb_11 tb_12 tb_1 (fun j hj => by rcases (show j = 0 ∨ j = 1 ∨ j = 2 ∨ j = 3 ∨ j = 4 ∨ j = 5 ∨ j = 6 ∨ j = 7 ∨ j = 8 by omega) with rfl | rfl | rfl | rfl | rfl | rfl | rfl | rfl | rfl <;> rfl) (Nat.le_of_ble_eq_true rfl) (Nat.le_of_ble_eq_true rfl) dL_law_0 (fun q_0 H hP hS => ?_)
  obtain ⟨A_0, hA_0⟩ : ∃ z : Nat → Nat, z = va_up A 0 q_0 := ⟨_, rfl⟩
  obtain ⟨C_0, hC_0⟩ : ∃ z : wg_C, z = va_up C 0 (some (.inr (7, [.null, .int 0, .null, .null, .null, .null, .null, .null, .null]))) := ⟨_, rfl⟩
  have hP : wg_P E A_0 C_0 H := by rw [hA_0, hC_0]; exact hP
  have an_0 : q_0 = A_0 0 := by rw [hA_0]; exact (va_up_self _ _ _).symm
  have f0_c0 : C_0 0 = some (.inr (7, [.null, .int 0, .null, .null, .null, .null, .null, .null, .null])) := by rw [hC_0]; exact va_up_self _ _ _
  have hl : lv_has ls 4 [(0, .ref b)] := by exact hl
  refine W.eq (g2 := F0 m 3 ls [.ref (A_0 0)]) (by rw [← an_0]) ?_
  clear an_0
  refine lv_dup hx hb dL_law_3 rfl ?_
  refine wg_cv hS (wg_rI (As := []) (rest := [.ref (A_0 0)]) F hP hS (c_X7_init l E A_0 C_0 f0_c0) ok_X7_init tb_13 rfl rfl ⟨Nat.le_of_ble_eq_true rfl, Nat.le_of_ble_eq_true rfl⟩ rfl hl.1 rfl (Nat.le_of_ble_eq_true rfl) dL_law_4 ⟨Nat.le_of_ble_eq_true rfl, Nat.le_of_ble_eq_true rfl⟩) (fun A9 C_4 H locs w_4 hP hS => ?_)
  obtain ⟨hA1, hk1, hX1⟩ := w_4
  refine W.eq (g2 := F0 m 7 ls [.ref (A9 0)]) (by rw [hA1 0 (Or.inl rfl)]) ?_
  refine lv_astore_n (lv' := [(1, .ref (A9 0)), (0, .ref b)]) hx hb dL_law_7 rfl hl (by decide) rfl (fun ls hl => ?_)
  refine wg_newF (ci := 8) F hP hS 1000 [.int 0, .null, .int 0, .null, .null, .null, .null, .null, .null, .null, .null, .null, .null, .null, .null, .null, .null, .null, .null, .int 0, .int 0, .long 0, .long 0, .int 0, .null, .null, .null, .null, .null] rfl iw_X8 tyX8_ok tb_521 tb_522 tb_8 (fun j hj => by rcases (show j = 0 ∨ j = 1 ∨ j = 2 ∨ j = 3 ∨ j = 4 ∨ j = 5 ∨ j = 6 ∨ j = 7 ∨ j = 8 ∨ j = 9 ∨ j = 10 ∨ j = 11 ∨ j = 12 ∨ j = 13 ∨ j = 14 ∨ j = 15 ∨ j = 16 ∨ j = 17 ∨ j = 18 ∨ j = 19 ∨ j = 20 ∨ j = 21 ∨ j = 22 ∨ j = 23 ∨ j = 24 ∨ j = 25 ∨ j = 26 ∨ j = 27 ∨ j = 28 by omega) with rfl | rfl | rfl | rfl | rfl | rfl | rfl | rfl | rfl | rfl | rfl | rfl | rfl | rfl | rfl | rfl | rfl | rfl | rfl | rfl | rfl | rfl | rfl | rfl | rfl | rfl | rfl | rfl | rfl <;> rfl) (Nat.le_of_ble_eq_true rfl) (Nat.le_of_ble_eq_true rfl) dL_law_8 (fun q_8 H hP hS => ?_)
  obtain ⟨A_8, hA_8⟩ : ∃ z : Nat → Nat, z = va_up A9 1000 q_8 := ⟨_, rfl⟩
  obtain ⟨C_8, hC_8⟩ : ∃ z : wg_C, z = va_up C_4 1000 (some (.inr (8, [.int 0, .null, .int 0, .null, .null, .null, .null, .null, .null, .null, .null, .null, .null, .null, .null, .null, .null, .null, .null, .int 0, .int 0, .long 0, .long 0, .int 0, .null, .null, .null, .null, .null]))) := ⟨_, rfl⟩
  have hP : wg_P E A_8 C_8 H := by rw [hA_8, hC_8]; exact hP
  have an_8 : q_8 = A_8 1000 := by rw [hA_8]; exact (va_up_self _ _ _).symm
  have am_8_0 : A_8 0 = A9 0 := by rw [hA_8]; rw [va_up_ne _ _ (by decide)]
  have f1000_c8 : C_8 1000 = some (.inr (8, [.int 0, .null, .int 0, .null, .null, .null, .null, .null, .null, .null, .null, .null, .null, .null, .null, .null, .null, .null, .null, .int 0, .int 0, .long 0, .long 0, .int 0, .null, .null, .null, .null, .null])) := by rw [hC_8]; exact va_up_self _ _ _
  have hl : lv_has ls 4 [(1, .ref (A_8 0)), (0, .ref b)] := by rw [am_8_0]; exact hl
  refine W.eq (g2 := F0 m 11 ls [.ref (A_8 1000)]) (by rw [← an_8]) ?_
  clear am_8_0 an_8
  have hX2 : lx E A_8 C_8 st_0 := lx_at (lx_move hX1 st_0_inv (fun r hr => by rw [hA_8]; exact va_up_ne _ _ (by have z1 : lc_ns (st_B st_0) = 0 := rfl; have z2 : lc_nh (st_B st_0) = 0 := rfl; omega))) (fun q hq => by rw [hC_8]; exact va_up_ne _ _ (by omega))
  refine lv_dup hx hb dL_law_11 rfl ?_
  refine wg_cv hS (wg_rI (As := []) (rest := [.ref (A_8 1000)]) F hP hS (c_X8_init l E A_8 C_8 f1000_c8) ok_X8_init tb_523 rfl rfl ⟨Nat.le_of_ble_eq_true rfl, Nat.le_of_ble_eq_true rfl⟩ rfl hl.1 rfl (Nat.le_of_ble_eq_true rfl) dL_law_12 ⟨Nat.le_of_ble_eq_true rfl, Nat.le_of_ble_eq_true rfl⟩) (fun A10 C_12 H locs w_12 hP hS => ?_)
  obtain ⟨hA2, hk2, hM2⟩ := w_12
  refine W.eq (g2 := F0 m 15 ls [.ref (A10 1000)]) (by rw [hA2 1000 (by decide)]) ?_
  have hl : lv_has ls 4 [(1, .ref (A10 0)), (0, .ref b)] := by rw [hA2 0 (by decide)]; exact hl
  have hX3 : lx E A10 C_12 st_0 := lx_at (lx_move hX2 st_0_inv (fun r hr => hA2 r (by have z1 : lc_ns (st_B st_0) = 0 := rfl; have z2 : lc_nh (st_B st_0) = 0 := rfl; omega))) hk2
  refine lv_astore_n (lv' := [(2, .ref (A10 1000)), (1, .ref (A10 0)), (0, .ref b)]) hx hb dL_law_15 rfl hl (by decide) rfl (fun ls hl => ?_)
  refine lv_iconst (v := 0) hx hb dL_law_16 (by decide) ?_
  refine wg_topi (y := nI 0) rfl ?_
  refine lv_istore_n (lv' := [(3, .int (nI 0)), (2, .ref (A10 1000)), (1, .ref (A10 0)), (0, .ref b)]) hx hb dL_law_17 rfl hl (by decide) rfl (fun ls hl => ?_)
  refine W.widen (k := 0 + 100) (n := 0 + 3000) (Nat.le_of_ble_eq_true rfl) (Nat.le_of_ble_eq_true rfl) ?_
  exact law_loop hL C0 hE F (L + 1) 0 (Nat.zero_le _) (by omega) A10 C_12 st_0 _ _ _ hX3 hM2 st_0_inv hP hS (lv_sub hl [3, 2, 1, 0] rfl)
