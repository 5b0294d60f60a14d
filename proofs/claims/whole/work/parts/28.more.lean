theorem lc_DB.sign {A : Nat → Nat} {C C1 : wg_C} {B : lc_B} {j v : Nat} (h : lc_DB A C B) (hj : j < lc_nh B) (hv : v < 1024) (hC : ∀ r, r ≠ 200 + j → C1 r = C r) (h1 : C1 (200 + j) = some (lc_hd A (up_sg B j v) j)) : lc_DB A C1 (up_sg B j v) := by
  obtain ⟨d1, d2, d3, d4, d5, d6⟩ := h
  have hnh : lc_nh B ≤ 60 := d4
  have hns : lc_ns B ≤ 16 := d3
  refine ⟨fun k hk => (hC (100 + k) (by have : k < lc_ns B := hk; omega)).trans (d1 k hk), fun k hk => ?_, d3, d4, d5, fun k hk => ?_⟩
  · by_cases e : k = j
    · subst e; exact h1
    · rw [hC (200 + k) (by omega), d2 k hk]
      unfold lc_hd
      show some _ = some _
      rw [show lc_sg (up_sg B j v) k = lc_sg B k from va_up_ne _ _ e]
      rfl
  · obtain ⟨q1, q2, q3, q4⟩ := d6 k hk
    refine ⟨q1, q2, q3, ?_⟩
    by_cases e : k = j
    · subst e; show va_up _ _ _ _ < 1024; rw [va_up_self]; exact hv
    · show va_up _ _ _ _ < 1024; rw [va_up_ne _ _ e]; exact q4
theorem lc_inv_tm {S : lc_S} {k v : Nat} (h : lc_inv S) (hk : k < 4) (h1 : (if k = 3 then 2 else 1) ≤ v) (h2 : v ≤ (if k = 2 then 1000 else 10)) : lc_inv (up_tm S (va_up (st_tm S) k v)) := by
  obtain ⟨a, ⟨b1, b2, b3⟩, c⟩ := h
  refine ⟨a, ⟨fun j hj => ?_, ?_, ?_⟩, c⟩
  · show va_up _ _ _ _ ≤ 1000
    by_cases e : j = k
    · rw [e, va_up_self]; split at h2 <;> omega
    · rw [va_up_ne _ _ e]; exact b1 j hj
  · show 2 ≤ va_up _ _ _ _
    by_cases e : 3 = k
    · rw [e, va_up_self]; rw [if_pos e.symm] at h1; exact h1
    · rw [va_up_ne _ _ e]; exact b2
  · show va_up _ _ _ _ ≤ 10
    by_cases e : 3 = k
    · rw [e, va_up_self]
      rw [if_neg (by omega)] at h2
      exact h2
    · rw [va_up_ne _ _ e]; exact b3
theorem lc_t4i : (4 : Int32).toInt = 4 := by decide
theorem lc_t10i : (10 : Int32).toInt = 10 := by decide
theorem lc_ite32a {k : Nat} : (if k = 3 then (2 : Int32) else 1).toInt = (if k = 3 then 2 else 1 : Int) := by split <;> decide
theorem lc_ite32b {k : Nat} : (if k = 2 then (1000 : Int32) else 10).toInt = (if k = 2 then 1000 else 10 : Int) := by split <;> decide
theorem lc_vid {α : Type} (f : Nat → α) (k : Nat) : va_up f k (f k) = f := by
  funext j
  by_cases h : j = k
  · subst h; rw [va_up_self]
  · rw [va_up_ne _ _ h]
theorem lx_cup {E : wg_E} {A : Nat → Nat} {C C1 : wg_C} {S : lc_S} {i n : Nat} {g : Nat → Nat} {co rb ra : Int32} (h : ∀ i, i < 4 → lx_c E A C i (st_cn S i) (st_cg S i) (st_co S i) (st_rb S i) (st_ra S i)) (hfr : ∀ r, r ≠ 20 + i → r ≠ 24 + i → r ≠ 28 + i → C1 r = C r) (hi : i < 4) (hn : lx_c E A C1 i n g co rb ra) :
    ∀ i2, i2 < 4 → lx_c E A C1 i2 (va_up (st_cn S) i n i2) (va_up (st_cg S) i g i2) (va_up (st_co S) i co i2) (va_up (st_rb S) i rb i2) (va_up (st_ra S) i ra i2) := by
  intro i2 hi2
  by_cases e : i2 = i
  · subst e
    rw [va_up_self, va_up_self, va_up_self, va_up_self, va_up_self]
    exact hn
  · rw [va_up_ne _ _ e, va_up_ne _ _ e, va_up_ne _ _ e, va_up_ne _ _ e, va_up_ne _ _ e]
    exact (h i2 hi2).same (fun r hr => hfr r (by omega) (by omega) (by omega))
theorem lx_gup {E : wg_E} {A : Nat → Nat} {C C1 : wg_C} {S : lc_S} {i n : Nat} {g : Nat → Nat} (h : ∀ i, i < 4 → lx_g E A C i (st_gn S i) (st_gg S i)) (hfr : ∀ r, r ≠ 36 + i → r ≠ 40 + i → C1 r = C r) (hi : i < 4) (hn : lx_g E A C1 i n g) :
    ∀ i2, i2 < 4 → lx_g E A C1 i2 (va_up (st_gn S) i n i2) (va_up (st_gg S) i g i2) := by
  intro i2 hi2
  by_cases e : i2 = i
  · subst e
    rw [va_up_self, va_up_self]
    exact hn
  · rw [va_up_ne _ _ e, va_up_ne _ _ e]
    exact (h i2 hi2).same (fun r hr => hfr r (by omega) (by omega))
theorem lc_why_le (B : lc_B) (tm : Nat → Nat) (t h : Nat) : lc_why B tm t h ≤ 6 := by
  unfold lc_why
  repeat' split
  all_goals decide
theorem lc_pigeon : ∀ (N n : Nat) (g : Nat → Nat), (∀ k, k < n → g k < N) → (∀ a b, a < n → b < n → g a = g b → a = b) → n ≤ N
  | 0, n, g, h, _ => by
    rcases n with _ | n
    · exact Nat.le_refl _
    · exact absurd (h 0 (by omega)) (Nat.not_lt_zero _)
  | N + 1, n, g, h, inj => by
    by_cases e : ∃ k, k < n ∧ g k = N
    · obtain ⟨k0, hk0, e⟩ := e
      have := lc_pigeon N (n - 1) (fun k => if k = k0 then g (n - 1) else g k) (fun k hk => by
          have h1 : ∀ q, q < n → q ≠ k0 → g q < N := fun q hq hne => by
            have a := h q hq
            have b : g q ≠ N := fun z => hne (inj q k0 hq hk0 (z.trans e.symm))
            omega
          by_cases q : k = k0
          · simp only [q, if_true]; exact h1 _ (by omega) (by omega)
          · simp only [q, if_false]; exact h1 _ (by omega) q) (fun a b ha hb hab => by
          by_cases qa : a = k0
          · by_cases qb : b = k0
            · omega
            · simp only [qa, if_true, qb, if_false] at hab
              have := inj _ _ (by omega) (by omega) hab
              omega
          · by_cases qb : b = k0
            · simp only [qa, if_false, qb, if_true] at hab
              have := inj _ _ (by omega) (by omega) hab
              omega
            · simp only [qa, if_false, qb] at hab
              exact inj _ _ (by omega) (by omega) hab)
      omega
    · have := lc_pigeon N n g (fun k hk => by
        have a := h k hk
        have b : g k ≠ N := fun q => e ⟨k, hk, q⟩
        omega) inj
      omega
theorem lc_room {S : lc_S} {i j : Nat} (hI : lc_inv S) (hi : i < 4) (hj : j < lc_nh (st_B S)) (h : lc_pl (fun k => lc_hh (st_B S) (st_gg S i k)) (lc_hh (st_B S) j) (st_gn S i) = none) : st_gn S i < 60 := by
  obtain ⟨h1, h2, h3⟩ := hI.2.2.2.1 i hi
  have hno := lc_pl_no h
  have hnh := hI.1.2.1
  have := lc_pigeon (lc_nh (st_B S)) (st_gn S i + 1) (va_up (st_gg S i) (st_gn S i) j) (lc_upg h2 hj) (fun a b ha hb hab => by
    by_cases qa : a = st_gn S i
    · by_cases qb : b = st_gn S i
      · omega
      · rw [qa, va_up_self, va_up_ne _ _ qb] at hab
        exact absurd (by show lc_hh (st_B S) (st_gg S i b) = _; rw [← hab]) (hno b (by omega))
    · by_cases qb : b = st_gn S i
      · rw [qb, va_up_self, va_up_ne _ _ qa] at hab
        exact absurd (by show lc_hh (st_B S) (st_gg S i a) = _; rw [hab]) (hno a (by omega))
      · rw [va_up_ne _ _ qa, va_up_ne _ _ qb] at hab
        exact h3 a b (by omega) (by omega) (by rw [hab]))
  omega
theorem lc_t3i : (3 : Int32).toInt = 3 := by decide
theorem lc_z64 : (0 : Int64).toInt = 0 := by decide
