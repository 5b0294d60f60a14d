theorem lx_move {E : wg_E} {A A1 : Nat → Nat} {C : wg_C} {S : lc_S} (h : lx E A C S) (hI : lc_inv S) (hA : ∀ r, r < 100 ∨ (100 ≤ r ∧ r < 100 + lc_ns (st_B S)) ∨ (200 ≤ r ∧ r < 200 + lc_nh (st_B S)) → A1 r = A r) : lx E A1 C S := by
  obtain ⟨x0, ⟨f1, x1, x1f⟩, x2, ⟨f3, x3, x3f⟩, x4, ⟨f5, x5, x5f⟩, ⟨f6, x6, x6f⟩, x7, ⟨x8, x9, nd, x10, hnd⟩, ⟨x11, x12, rk, x13⟩, xc, xg, hDB⟩ := h
  have s1 : ∀ n, n < 100 → A1 n = A n := fun n hn => hA n (Or.inl hn)
  refine ⟨?_, ⟨f1, x1, fun j hj => ?_⟩, ?_, ⟨f3, x3, fun j hj => ?_⟩, x4, ⟨f5, x5, fun j hj => ?_⟩, ⟨f6, x6, fun j hj => ?_⟩, x7, ⟨?_, x9, nd, x10, hnd⟩, ⟨?_, x12, rk, x13⟩, fun i hi => ?_, fun i hi => ?_, hDB.1, fun k hk => ?_, hDB.2.2⟩
  · unfold lx_0
    rw [s1 1 (by decide), s1 2 (by decide), s1 4 (by decide), s1 5 (by decide), s1 6 (by decide), s1 7 (by decide), s1 8 (by decide), s1 11 (by decide)]
    exact x0
  · rw [hA _ (Or.inr (Or.inl ⟨by omega, by omega⟩))]; exact x1f j hj
  · unfold lx_2
    rw [s1 3 (by decide)]
    exact x2
  · rw [hA _ (Or.inr (Or.inr ⟨by omega, by omega⟩))]; exact x3f j hj
  · rw [s1 _ (by omega)]; exact x5f j hj
  · rw [s1 _ (by omega)]; exact x6f j hj
  · rw [s1 9 (by decide), s1 10 (by decide)]; exact x8
  · rw [s1 12 (by decide), s1 13 (by decide)]; exact x11
  · obtain ⟨f, h1, h2, h3, h4⟩ := xc i hi
    refine ⟨f, ?_, ?_, h3, fun j hj => ?_⟩
    · rw [s1 _ (by omega)]; exact h1
    · rw [s1 _ (by omega)]; exact h2
    · have := (hI.2.2.1 i hi).2 j hj
      rw [hA _ (Or.inr (Or.inr ⟨by omega, by omega⟩))]; exact h4 j hj
  · obtain ⟨f, h1, h2, h3, h4⟩ := xg i hi
    refine ⟨f, ?_, ?_, h3, fun j hj => ?_⟩
    · rw [s1 _ (by omega)]; exact h1
    · rw [s1 _ (by omega)]; exact h2
    · have := (hI.2.2.2.1 i hi).2.1 j hj
      rw [hA _ (Or.inr (Or.inr ⟨by omega, by omega⟩))]; exact h4 j hj
  · have hq := hI.1.2.2.2 k hk
    have h1 := hDB.2.1 k hk
    unfold lc_hd at h1 ⊢
    rw [hA (100 + lc_ho (st_B S) k) (Or.inr (Or.inl ⟨by omega, by omega⟩)), hA (100 + lc_hx (st_B S) k) (Or.inr (Or.inl ⟨by omega, by omega⟩))]
    exact h1
theorem lc_DB.addset {A : Nat → Nat} {C C1 : wg_C} {B : lc_B} {x y : Nat} (h : lc_DB A C B) (hn : lc_ns B < 16) (hx : lc_well x) (hy : lc_well y) (hC : ∀ r, 100 ≤ r → r < 300 → r ≠ 100 + lc_ns B → C1 r = C r) (h1 : C1 (100 + lc_ns B) = some (lc_st (up_set B x y) (lc_ns B))) : lc_DB A C1 (up_set B x y) := by
  obtain ⟨d1, d2, d3, d4, d5, d6⟩ := h
  have hnh : lc_nh B ≤ 60 := d4
  refine ⟨fun k hk => ?_, fun k hk => (hC (200 + k) (by omega) (by have : k < lc_nh B := hk; omega) (by omega)).trans (d2 k hk), ?_, d4, fun k hk => ?_, fun k hk => ?_⟩
  · have hk' : k < lc_ns B + 1 := hk
    by_cases e : k = lc_ns B
    · rw [e]; exact h1
    · rw [hC (100 + k) (by omega) (by omega) (by omega), d1 k (by omega)]
      unfold lc_st
      rw [show lc_sa (up_set B x y) k = lc_sa B k from va_up_ne _ _ e, show lc_sb (up_set B x y) k = lc_sb B k from va_up_ne _ _ e]
  · show lc_ns B + 1 ≤ 16; omega
  · have hk' : k < lc_ns B + 1 := hk
    show lc_well (va_up (lc_sa B) (lc_ns B) x k) ∧ lc_well (va_up (lc_sb B) (lc_ns B) y k)
    by_cases e : k = lc_ns B
    · rw [e, va_up_self, va_up_self]; exact ⟨hx, hy⟩
    · rw [va_up_ne _ _ e, va_up_ne _ _ e]; exact d5 k (by omega)
  · obtain ⟨q1, q2, q3, q4⟩ := d6 k hk
    exact ⟨q1, Nat.lt_succ_of_lt q2, Nat.lt_succ_of_lt q3, q4⟩
theorem lc_DB.addhead {A : Nat → Nat} {C C1 : wg_C} {B : lc_B} {ht o x : Nat} {pa rt : Int64} (h : lc_DB A C B) (hn : lc_nh B < 60) (hh : ht ≤ 100000) (ho : o < lc_ns B) (hx : x < lc_ns B) (hC : ∀ r, 100 ≤ r → r < 300 → r ≠ 200 + lc_nh B → C1 r = C r) (h1 : C1 (200 + lc_nh B) = some (lc_hd A (up_hd B ht pa o x rt) (lc_nh B))) : lc_DB A C1 (up_hd B ht pa o x rt) := by
  obtain ⟨d1, d2, d3, d4, d5, d6⟩ := h
  have hns : lc_ns B ≤ 16 := d3
  refine ⟨fun k hk => (hC (100 + k) (by omega) (by have : k < lc_ns B := hk; omega) (by have : k < lc_ns B := hk; omega)).trans (d1 k hk), fun k hk => ?_, d3, ?_, d5, fun k hk => ?_⟩
  · have hk' : k < lc_nh B + 1 := hk
    by_cases e : k = lc_nh B
    · rw [e]; exact h1
    · rw [hC (200 + k) (by omega) (by omega) (by omega), d2 k (by omega)]
      unfold lc_hd lc_dig
      rw [show lc_hh (up_hd B ht pa o x rt) k = lc_hh B k from va_up_ne _ _ e, show lc_hp (up_hd B ht pa o x rt) k = lc_hp B k from va_up_ne _ _ e, show lc_ho (up_hd B ht pa o x rt) k = lc_ho B k from va_up_ne _ _ e, show lc_hx (up_hd B ht pa o x rt) k = lc_hx B k from va_up_ne _ _ e, show lc_hr (up_hd B ht pa o x rt) k = lc_hr B k from va_up_ne _ _ e, show lc_sg (up_hd B ht pa o x rt) k = lc_sg B k from va_up_ne _ _ e]
  · show lc_nh B + 1 ≤ 60; omega
  · have hk' : k < lc_nh B + 1 := hk
    show va_up _ _ _ k ≤ 100000 ∧ va_up _ _ _ k < lc_ns B ∧ va_up _ _ _ k < lc_ns B ∧ va_up _ _ _ k < 1024
    by_cases e : k = lc_nh B
    · rw [e, va_up_self, va_up_self, va_up_self, va_up_self]; exact ⟨hh, ho, hx, by decide⟩
    · rw [va_up_ne _ _ e, va_up_ne _ _ e, va_up_ne _ _ e, va_up_ne _ _ e]; exact d6 k (by omega)
theorem lc_hd_new (A : Nat → Nat) (B : lc_B) (ht o x : Nat) (pa rt : Int64) : lc_hd A (up_hd B ht pa o x rt) (lc_nh B) = .inr (2, [.int (nI (lc_nh B)), .int (nI ht), .long pa, .ref (A (100 + o)), .ref (A (100 + x)), .long rt, .long (lc_pair (lc_pair (lc_pair (nI ht).toInt64 pa) (lc_pair (nI o).toInt64 (nI x).toInt64)) rt), .int 0]) := by
  unfold lc_hd lc_dig
  rw [show lc_hh (up_hd B ht pa o x rt) (lc_nh B) = ht from va_up_self _ _ _, show lc_hp (up_hd B ht pa o x rt) (lc_nh B) = pa from va_up_self _ _ _, show lc_ho (up_hd B ht pa o x rt) (lc_nh B) = o from va_up_self _ _ _, show lc_hx (up_hd B ht pa o x rt) (lc_nh B) = x from va_up_self _ _ _, show lc_hr (up_hd B ht pa o x rt) (lc_nh B) = rt from va_up_self _ _ _, show lc_sg (up_hd B ht pa o x rt) (lc_nh B) = 0 from va_up_self _ _ _]
  rfl
theorem lc_st_new (B : lc_B) (x y : Nat) : lc_st (up_set B x y) (lc_ns B) = .inr (6, [.int (nI (lc_ns B)), .long (lN x), .long (lN y), .int (nI (lc_tot x y))]) := by
  unfold lc_st
  rw [show lc_sa (up_set B x y) (lc_ns B) = x from va_up_self _ _ _, show lc_sb (up_set B x y) (lc_ns B) = y from va_up_self _ _ _]
theorem lc_wellr {x : Nat} {r : Int32} (h : (lc_well x ∧ r = 1) ∨ (¬ lc_well x ∧ r = 0)) : lc_wellb x = true ↔ ¬ r = 0 := by
  rw [lc_wellb_iff]
  rcases h with ⟨h1, h2⟩ | ⟨h1, h2⟩
  · exact ⟨fun _ => by rw [h2]; decide, fun _ => h1⟩
  · exact ⟨fun q => absurd q h1, fun q => absurd h2 q⟩
theorem lc_arr1 {A A1 : Nat → Nat} {f : Nat → Option Nat} {n N o q : Nat} (hA : A1 = va_up A (o + n) q) (hf : ∀ j, j < n → f j = some (A (o + j))) (_ : n < N) : ∀ j, j < n + 1 → va_up f n (some (A1 (o + n))) j = some (A1 (o + j)) := by
  intro j hj
  by_cases e : j = n
  · rw [e, va_up_self]
  · rw [va_up_ne _ _ e, hf j (by omega), hA, va_up_ne _ _ (by omega)]
theorem lc_arr2 {A A1 : Nat → Nat} {f : Nat → Option Nat} {n N o q : Nat} (hA : A1 = va_up A (o + n) q) (hf : ∀ j, j < n → f j = some (A (o + j))) (hn : n < N) (hN : N < 2 ^ 31) : ∀ j, j < n + 1 → va_up f (nI n).toNatClampNeg (some (A1 (o + n))) j = some (A1 (o + j)) := by
  rw [nI_clamp (by omega)]
  exact lc_arr1 hA hf hn
theorem lc_max0 {n : Nat} (h : n < 2 ^ 31) : (if (0 : Int32) < nI n then nI n else 0) = nI n := by
  by_cases q : (0 : Int32) < nI n
  · rw [if_pos q]
  · rw [if_neg q]
    rw [← nI_0, nI_ltI (by decide) h] at q
    rw [show n = 0 by omega, nI_0]
