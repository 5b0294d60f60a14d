/-! chances: binomials as both systems reckon them, the greatest common divisor -/
def lc_ch (n : Nat) : Nat → Nat
  | 0 => 1
  | i + 1 => lc_ch n i * (n - i) / (i + 1)
/-- the reference's way, with d = n - k -/
def lc_rc (d : Nat) : Nat → Nat
  | 0 => 1
  | i + 1 => lc_rc d i / ((i + 1) / Nat.gcd (d + (i + 1)) (i + 1)) * ((d + (i + 1)) / Nat.gcd (d + (i + 1)) (i + 1))
theorem lc_all2 {n m : Nat} {p : Nat → Nat → Bool} (h : (List.range n).all (fun a => (List.range m).all (fun b => p a b)) = true) {a b : Nat} (ha : a < n) (hb : b < m) : p a b = true :=
  List.all_eq_true.mp (List.all_eq_true.mp h a (List.mem_range.mpr ha)) b (List.mem_range.mpr hb)
theorem lc_ch_b : (List.range 61).all (fun n => (List.range 61).all (fun i => decide (i ≤ n → lc_ch n i * (n - i) < 2 ^ 63 ∧ 1 ≤ lc_ch n i ∧ lc_ch n i < 2 ^ 62))) = true := by decide +kernel
theorem lc_rc_b : (List.range 61).all (fun d => (List.range 61).all (fun i => decide (d + i ≤ 60 → lc_rc d i = lc_ch (d + i) i))) = true := by decide +kernel
theorem lc_ch_ok {n i : Nat} (hn : n ≤ 60) (hi : i ≤ n) : lc_ch n i * (n - i) < 2 ^ 63 ∧ 1 ≤ lc_ch n i ∧ lc_ch n i < 2 ^ 62 := of_decide_eq_true (lc_all2 lc_ch_b (show n < 61 by omega) (show i < 61 by omega)) hi
theorem lc_rc_ok {d i : Nat} (h : d + i ≤ 60) : lc_rc d i = lc_ch (d + i) i := of_decide_eq_true (lc_all2 lc_rc_b (show d < 61 by omega) (show i < 61 by omega)) h
/-- C(n, k) -/
def lc_C (n k : Nat) : Nat := if n < k then 0 else lc_ch n k
theorem lc_C_lt {n k : Nat} (hn : n ≤ 60) : lc_C n k < 2 ^ 62 := by
  unfold lc_C
  split
  · decide
  · exact (lc_ch_ok hn (by omega)).2.2
theorem lc_C_pos {n k : Nat} (hn : n ≤ 60) (hk : k ≤ n) : 1 ≤ lc_C n k := by
  unfold lc_C
  rw [if_neg (by omega)]
  exact (lc_ch_ok hn hk).2.1
theorem lc_gcd_step (x y : Nat) : Nat.gcd y (x % y) = Nat.gcd x y := by
  rw [Nat.gcd_comm y, ← Nat.gcd_rec, Nat.gcd_comm]
theorem lc_half {x y : Nat} (hy : 0 < y) (h : y ≤ x) : 2 * (y * (x % y)) ≤ x * y := by
  have h1 : x % y < y := Nat.mod_lt _ hy
  have h2 := Nat.div_add_mod x y
  have h3 : 1 ≤ x / y := Nat.div_pos h hy
  have h4 : y * 1 ≤ y * (x / y) := Nat.mul_le_mul (Nat.le_refl y) h3
  have h5 : 2 * (x % y) ≤ x := by omega
  calc 2 * (y * (x % y)) = (2 * (x % y)) * y := by rw [Nat.mul_comm y, ← Nat.mul_assoc]
    _ ≤ x * y := Nat.mul_le_mul h5 (Nat.le_refl y)
/-- what holds at the head of the class's division loop -/
def lc_E (x y i a b : Nat) : Prop := Nat.gcd a b = Nat.gcd x y ∧ a < 2 ^ 62 ∧ b < 2 ^ 62 ∧ a * b < 2 ^ (200 - i) ∧ (i = 0 ∧ a * b < 2 ^ 124 ∨ 1 ≤ i ∧ b ≤ a)
theorem lc_E_step {x y i a b : Nat} (h : lc_E x y i a b) (hb : 0 < b) (hi : i < 200) : lc_E x y (i + 1) b (a % b) := by
  obtain ⟨h1, h2, h3, h4, h5⟩ := h
  have hm : a % b < b := Nat.mod_lt _ hb
  refine ⟨(lc_gcd_step a b).trans h1, h3, by omega, ?_, Or.inr ⟨by omega, by omega⟩⟩
  rcases h5 with ⟨rfl, h5⟩ | ⟨h6, h5⟩
  · rcases Nat.lt_or_ge a b with q | q
    · rw [Nat.mod_eq_of_lt q, Nat.mul_comm]
      exact Nat.lt_of_lt_of_le h5 (Nat.pow_le_pow_right (by decide) (by decide))
    · have h8 := lc_half hb q
      have h9 : (2 : Nat) ^ 124 ≤ 2 ^ (200 - (0 + 1)) := Nat.pow_le_pow_right (by decide) (by decide)
      omega
  · have h8 := lc_half hb h5
    have h9 : 2 ^ (200 - i) = 2 * 2 ^ (200 - (i + 1)) := by
      rw [show 200 - i = (200 - (i + 1)) + 1 by omega, Nat.pow_succ, Nat.mul_comm]
    omega
theorem lc_E_end {x y i a b : Nat} (h : lc_E x y i a b) (hi : i = 200 ∨ b = 0) : a = Nat.gcd x y := by
  obtain ⟨h1, h2, h3, h4, h5⟩ := h
  have hb : b = 0 := by
    rcases hi with rfl | q
    · rcases h5 with ⟨q, _⟩ | ⟨_, q⟩
      · omega
      · have h6 : a * b = 0 := by
          have : a * b < 1 := h4
          omega
        rcases Nat.mul_eq_zero.mp h6 with z | z <;> omega
    · exact q
  rw [hb, Nat.gcd_zero_right] at h1
  exact h1
theorem lc_E_0 {x y : Nat} (hx : x < 2 ^ 62) (hy : y < 2 ^ 62) : lc_E x y 0 x y := by
  have h : x * y < 2 ^ 62 * 2 ^ 62 := Nat.mul_lt_mul'' hx hy
  have e : (2 : Nat) ^ 62 * 2 ^ 62 = 2 ^ 124 := by decide
  rw [e] at h
  exact ⟨rfl, hx, hy, Nat.lt_of_lt_of_le h (Nat.pow_le_pow_right (by decide) (by decide)), Or.inl ⟨rfl, h⟩⟩
/-- the chance's two sides, and the least number of samples -/
def lc_side (n m s d : Nat) : Nat := (if d = 0 then lc_C (n - m) s else lc_C n s) / Nat.gcd (lc_C (n - m) s) (lc_C n s)
def lc_chance (n m s d : Int32) : Int64 := if (1 ≤ n.toInt ∧ n.toInt ≤ 60) ∧ (0 ≤ m.toInt ∧ m.toInt ≤ n.toInt) ∧ (0 ≤ s.toInt ∧ s.toInt ≤ n.toInt) ∧ (0 ≤ d.toInt ∧ d.toInt ≤ 1) then lN (lc_side n.toInt.toNat m.toInt.toNat s.toInt.toNat d.toInt.toNat) else -1
def lc_sm (n m w : Nat) : Nat → Nat → Option Nat
  | 0, _ => none
  | q + 1, s => if lc_C (n - m) s ≤ lc_C n s / w then some s else lc_sm n m w q (s + 1)
def lc_samples (n m w : Int32) : Int32 := if (1 ≤ n.toInt ∧ n.toInt ≤ 60) ∧ (0 ≤ m.toInt ∧ m.toInt ≤ n.toInt) ∧ (1 ≤ w.toInt ∧ w.toInt ≤ 1000000) then lc_I (lc_sm n.toInt.toNat m.toInt.toNat w.toInt.toNat (n.toInt.toNat + 1) 0) else -1
theorem lc_t0i : (0 : Int32).toInt = 0 := by decide
theorem lc_t1i : (1 : Int32).toInt = 1 := by decide
theorem lc_t2i : (2 : Int32).toInt = 2 := by decide
theorem lc_t60i : (60 : Int32).toInt = 60 := by decide
theorem lc_tMi : (1000000 : Int32).toInt = 1000000 := by decide
theorem lc_i2l (x : Int32) : x.toInt64.toInt = x.toInt := Int32.toInt_toInt64 x
theorem lc_if1 {P : Prop} {d : Decidable P} {r : Int32} (w : r = @ite Int32 P d 1 0) (c : r = 0) : ¬ P := fun q => by
  rw [w, if_pos q] at c
  exact absurd c (by decide)
theorem lc_if2 {P : Prop} {d : Decidable P} {r : Int32} (w : r = @ite Int32 P d 1 0) (c : ¬ r = 0) : P := Decidable.byContradiction (fun q => c (by rw [w, if_neg q]))
