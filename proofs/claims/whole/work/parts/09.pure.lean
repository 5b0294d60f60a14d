/-! weights, sums, bits -/
def lc_sum (f : Nat → Nat) : Nat → Nat
  | 0 => 0
  | n + 1 => lc_sum f n + f n
def lc_bit (s k : Nat) : Nat := s / 2 ^ k % 2
/-- the weight at a place of a packed long -/
def lc_wt (x i : Nat) : Nat := x / 2 ^ (7 * i) % 128
/-- the weight of a node in a set of two packed longs -/
def lc_w (a b k : Nat) : Nat := if k < 5 then lc_wt a k else lc_wt b (k - 5)
def lc_tot (a b : Nat) : Nat := lc_sum (lc_w a b) 10
def lc_wof (a b s : Nat) : Nat := lc_sum (fun k => lc_bit s k * lc_w a b k) 10
def lc_well (x : Nat) : Prop := (∀ i, i < 5 → lc_wt x i ≤ 100) ∧ x < 2 ^ 35
theorem lc_sum_le {f : Nat → Nat} {c : Nat} (h : ∀ k, f k ≤ c) : ∀ n, lc_sum f n ≤ c * n
  | 0 => Nat.zero_le _
  | n + 1 => by
    have h1 := lc_sum_le h n
    have h2 := h n
    show lc_sum f n + f n ≤ c * (n + 1)
    rw [Nat.mul_succ]
    omega
theorem lc_sum_eq {f g : Nat → Nat} : ∀ n, (∀ k, k < n → f k = g k) → lc_sum f n = lc_sum g n
  | 0, _ => rfl
  | n + 1, h => by
    show lc_sum f n + f n = lc_sum g n + g n
    rw [lc_sum_eq n (fun k hk => h k (by omega)), h n (by omega)]
theorem lc_wt_lt (x i : Nat) : lc_wt x i ≤ 127 := by
  have : x / 2 ^ (7 * i) % 128 < 128 := Nat.mod_lt _ (by decide)
  unfold lc_wt
  omega
theorem lc_w_lt (a b k : Nat) : lc_w a b k ≤ 127 := by
  unfold lc_w
  split
  · exact lc_wt_lt _ _
  · exact lc_wt_lt _ _
theorem lc_bit_lt (s k : Nat) : lc_bit s k ≤ 1 := by
  have : s / 2 ^ k % 2 < 2 := Nat.mod_lt _ (by decide)
  unfold lc_bit
  omega
theorem lc_tot_lt (a b : Nat) : lc_tot a b ≤ 1270 := by
  have := lc_sum_le (lc_w_lt a b) 10
  unfold lc_tot
  omega
theorem lc_bw_lt (a b s k : Nat) : lc_bit s k * lc_w a b k ≤ 127 := by
  have h1 := lc_bit_lt s k
  have h2 := lc_w_lt a b k
  rcases (show lc_bit s k = 0 ∨ lc_bit s k = 1 by omega) with h | h
  · rw [h, Nat.zero_mul]; omega
  · rw [h, Nat.one_mul]; exact h2
theorem lc_wof_lt (a b s : Nat) : lc_wof a b s ≤ 1270 := by
  have := lc_sum_le (lc_bw_lt a b s) 10
  unfold lc_wof
  omega
theorem lc_andbit : ∀ s, s < 1024 → ∀ k, k < 10 → (nI s &&& ((1 : Int32) <<< (nI k &&& 31)) = 0 ↔ lc_bit s k = 0) := by decide +kernel
theorem lc_shrbit : ∀ s, s < 1024 → ∀ k, k < 10 → (nI s >>> (nI k &&& 31)) &&& 1 = nI (lc_bit s k) := by decide +kernel
theorem lc_bit1023 : ∀ k, k < 10 → lc_bit 1023 k = 1 := by decide +kernel
theorem lc_wof_all (a b : Nat) : lc_wof a b 1023 = lc_tot a b := by
  unfold lc_wof lc_tot
  refine lc_sum_eq 10 (fun k hk => ?_)
  rw [lc_bit1023 k hk, Nat.one_mul]
/-- the class's way of adding: both halves side by side -/
def lc_two (f : Nat → Nat) (i : Nat) : Nat := lc_sum f i + lc_sum (fun k => f (k + 5)) i
theorem lc_two_5 (f : Nat → Nat) : lc_two f 5 = lc_sum f 10 := by
  show ((((((0 + f 0) + f 1) + f 2) + f 3) + f 4) + (((((0 + f 5) + f 6) + f 7) + f 8) + f 9)) = ((((((((((0 + f 0) + f 1) + f 2) + f 3) + f 4) + f 5) + f 6) + f 7) + f 8) + f 9)
  omega
theorem lc_two_s (f : Nat → Nat) (i : Nat) : lc_two f (i + 1) = lc_two f i + f i + f (i + 5) := by
  simp only [lc_two, lc_sum]
  omega
theorem lc_two_le {f : Nat → Nat} (h : ∀ k, f k ≤ 127) {i : Nat} (hi : i ≤ 5) : lc_two f i ≤ 1270 := by
  have h1 := lc_sum_le h i
  have h2 := lc_sum_le (f := fun k => f (k + 5)) (fun k => h (k + 5)) i
  unfold lc_two
  omega
theorem lc_l2i (y : Nat) : (lN y).toInt32 = nI y := lN_i y
theorem lc_and127 (y : Nat) : nI y &&& 127 = nI (y % 128) := by
  rw [pk_and (nI y) (m := 127) 7 (by decide)]
  congr 1
  have h : (nI y).toBitVec.toNat = y % 2 ^ 32 := BitVec.toNat_ofNat y 32
  rw [h]
  omega
theorem lc_wIn {x i : Nat} (hx : x < 2 ^ 64) (hi : i < 5) : ((lN x).toUInt64 >>> ((7 * nI i).toInt64.toUInt64 &&& Int64.toUInt64 63)).toInt64.toInt32 &&& 127 = nI (lc_wt x i) := by
  have e : (7 : Int32) * nI i = nI (7 * i) := by rw [← pk_mul]; rfl
  rw [e, wb_shr hx (by omega), lc_l2i, lc_and127]
  rfl
theorem lc_ush35 {x : Nat} (hx : x < 2 ^ 64) : ((lN x).toUInt64 >>> ((35 : Int32).toInt64.toUInt64 &&& Int64.toUInt64 63)).toInt64 = 0 ↔ x < 2 ^ 35 := by
  have e := wb_shr (k := 35) hx (by decide)
  rw [show ((35 : Int32)) = nI 35 from rfl, e, show (0 : Int64) = lN 0 from rfl, pk_lEQ (by omega) (by decide)]
  omega
theorem lc_w_lo {a b i : Nat} (h : i < 5) : lc_w a b i = lc_wt a i := if_pos h
theorem lc_w_hi {a b i : Nat} : lc_w a b (i + 5) = lc_wt b i := by
  unfold lc_w
  rw [if_neg (by omega), Nat.add_sub_cancel]
theorem lc_ones {s k : Nat} (h : ¬ lc_bit s k = 0) : lc_bit s k = 1 := by
  have := lc_bit_lt s k
  omega
theorem lc_pieces {a b : Int32} (h1 : ¬ a < 1) (h2 : ¬ 60 < a) (h3 : ¬ b < 0) (h4 : ¬ a < b) : ∃ n m : Nat, 1 ≤ n ∧ n ≤ 60 ∧ m ≤ n ∧ a = nI n ∧ b = nI m := by
  rw [Int32.lt_iff_toInt_lt] at h1 h2 h4
  have e1 : (1 : Int32).toInt = 1 := by decide
  have e2 : (60 : Int32).toInt = 60 := by decide
  have h0 : ¬ a < 0 := by
    rw [Int32.lt_iff_toInt_lt]
    have e0 : (0 : Int32).toInt = 0 := by decide
    omega
  obtain ⟨n, hn, rfl⟩ := nI_of h0
  obtain ⟨m, hm, rfl⟩ := nI_of h3
  rw [nI_toInt hn] at h1 h2 h4
  rw [nI_toInt hm] at h4
  exact ⟨n, m, by omega, by omega, by omega, rfl, rfl⟩
