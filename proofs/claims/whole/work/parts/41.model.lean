/-! the reference's cells for a state: the object has role 1000, its array of field k role 1000 + k -/
def lm_o (A : Nat → Nat) (C : wg_C) (ns nh a b ct : Nat) (va vb : Int64) : Prop := C 1000 = some (.inr (8, [.int (nI ns), .ref (A 1001), .int (nI nh), .ref (A 1003), .ref (A 1004), .ref (A 1005), .ref (A 1006), .ref (A 1007), .ref (A 1008), .ref (A 1009), .ref (A 1010), .ref (A 1011), .ref (A 1012), .ref (A 1013), .ref (A 1014), .ref (A 1015), .ref (A 1016), .ref (A 1017), .ref (A 1018), .int (nI a), .int (nI b), .long va, .long vb, .int (nI ct), .ref (A 1024), .ref (A 1025), .ref (A 1026), .ref (A 1027), .ref (A 1028)]))
def lm_i (E : wg_E) (C : wg_C) (r N : Nat) (P : (Nat → Int32) → Prop) : Prop := ∃ f : Nat → Int32, C r = some (.inl (E.2.1 0, N, .inl f)) ∧ P f
def lm_l (E : wg_E) (C : wg_C) (r N : Nat) (P : (Nat → Int64) → Prop) : Prop := ∃ f : Nat → Int64, C r = some (.inl (E.2.1 1, N, .inr (.inl f))) ∧ P f
def lm_z (E : wg_E) (C : wg_C) (r N : Nat) : Prop := ∃ f : Nat → Int32, C r = some (.inl (E.2.1 2, N, .inl f))
theorem lm_i.same {E : wg_E} {C C1 : wg_C} {r N : Nat} {P : (Nat → Int32) → Prop} (h : lm_i E C r N P) (hC : C1 r = C r) : lm_i E C1 r N P := by
  obtain ⟨f, h1, h2⟩ := h
  exact ⟨f, hC.trans h1, h2⟩
theorem lm_l.same {E : wg_E} {C C1 : wg_C} {r N : Nat} {P : (Nat → Int64) → Prop} (h : lm_l E C r N P) (hC : C1 r = C r) : lm_l E C1 r N P := by
  obtain ⟨f, h1, h2⟩ := h
  exact ⟨f, hC.trans h1, h2⟩
theorem lm_z.same {E : wg_E} {C C1 : wg_C} {r N : Nat} (h : lm_z E C r N) (hC : C1 r = C r) : lm_z E C1 r N := by
  obtain ⟨f, h1⟩ := h
  exact ⟨f, hC.trans h1⟩
def lm (E : wg_E) (A : Nat → Nat) (C : wg_C) (S : lc_S) : Prop :=
  lm_o A C (lc_ns (st_B S)) (lc_nh (st_B S)) (st_pa S) (st_pb S) (st_ct S) (st_va S) (st_vb S) ∧
  lm_i E C 1001 160 (fun f => ∀ k, k < lc_ns (st_B S) → ∀ j, j < 10 → f (10 * k + j) = nI (lc_w (lc_sa (st_B S) k) (lc_sb (st_B S) k) j)) ∧
  lm_i E C 1003 60 (fun f => ∀ k, k < lc_nh (st_B S) → f k = nI (lc_hh (st_B S) k)) ∧
  lm_l E C 1004 60 (fun f => ∀ k, k < lc_nh (st_B S) → f k = lc_hp (st_B S) k) ∧
  lm_i E C 1005 60 (fun f => ∀ k, k < lc_nh (st_B S) → f k = nI (lc_ho (st_B S) k)) ∧
  lm_i E C 1006 60 (fun f => ∀ k, k < lc_nh (st_B S) → f k = nI (lc_hx (st_B S) k)) ∧
  lm_l E C 1007 60 (fun f => ∀ k, k < lc_nh (st_B S) → f k = lc_hr (st_B S) k) ∧
  lm_i E C 1008 60 (fun f => ∀ k, k < lc_nh (st_B S) → f k = nI (lc_sg (st_B S) k)) ∧
  lm_i E C 1009 4 (fun f => ∀ k, k < 4 → f k = nI (st_tm S k)) ∧
  lm_i E C 1010 4 (fun f => ∀ i, i < 4 → f i = nI (st_cn S i)) ∧
  lm_i E C 1011 44 (fun f => ∀ i, i < 4 → ∀ j, j < st_cn S i → f (11 * i + j) = nI (st_cg S i j)) ∧
  lm_i E C 1012 4 (fun f => ∀ i, i < 4 → f i = st_co S i) ∧
  lm_i E C 1013 4 (fun f => ∀ i, i < 4 → f i = st_rb S i) ∧
  lm_i E C 1014 4 (fun f => ∀ i, i < 4 → f i = st_ra S i) ∧
  lm_i E C 1015 4 (fun f => ∀ i, i < 4 → f i = nI (st_gn S i)) ∧
  lm_i E C 1016 240 (fun f => ∀ i, i < 4 → ∀ j, j < st_gn S i → f (60 * i + j) = nI (st_gg S i j)) ∧
  lm_l E C 1017 8 (fun f => ∀ k, k < 8 → f k = st_lf S k) ∧
  lm_l E C 1018 16 (fun _ => True) ∧
  lm_i E C 1024 4 (fun f => ∀ i, i < st_ct S → f i = nI (lc_nth (st_pa S) (st_pb S) i)) ∧
  lm_l E C 1025 4 (fun f => ∀ i, i < st_ct S → f i = st_pn S i) ∧
  lm_i E C 1026 64 (fun _ => True) ∧ lm_z E C 1027 16 ∧ lm_l E C 1028 16 (fun _ => True)
theorem lc_cnt1 {n : Nat} (h : n < 2 ^ 30) : (nI n - 1).toInt64.toInt = (n : Int) - 1 := by
  rw [lc_i2l, show (1 : Int32) = nI 1 from rfl, pk_sub_toInt h (by decide)]
  rfl
theorem lc_ixr1 {k : Int32} {n j : Nat} {r : Int32} (w : r = if 0 ≤ k.toInt ∧ k.toInt < (n : Int) then 1 else 0) (h : lc_ix k n = some j) : r = 1 := by
  rw [w, if_pos]
  refine Decidable.byContradiction (fun q => ?_)
  rw [lc_ix_no q] at h
  cases h
theorem lc_ixr0 {k : Int32} {n : Nat} {r : Int32} (w : r = if 0 ≤ k.toInt ∧ k.toInt < (n : Int) then 1 else 0) (h : lc_ix k n = none) : r = 0 := by
  rw [w, if_neg (lc_ix_none h)]
theorem lc_in_lt {k : Int32} {n : Int} : (0 ≤ k.toInt ∧ k.toInt ≤ n - 1) ↔ (0 ≤ k.toInt ∧ k.toInt < n) := by omega
theorem lc_wix {k j : Nat} (hk : k < 16) (hj : j < 10) : (10 : Int32) * nI k + nI j = nI (10 * k + j) := by rw [show (10 : Int32) = nI 10 from rfl, pk_mul, nI_add]
theorem lc_ifc {P Q : Prop} {d1 : Decidable P} {d2 : Decidable Q} (h : P ↔ Q) : (@ite Int32 P d1 1 0) = @ite Int32 Q d2 1 0 := by
  by_cases q : P
  · rw [if_pos q, if_pos (h.mp q)]
  · rw [if_neg q, if_neg (fun z => q (h.mpr z))]
