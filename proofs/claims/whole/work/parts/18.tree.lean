/-! THE TREE: its nodes out of its leaves, level by level -/
def lc_n3 (lf : Nat → Int64) (k : Nat) : Int64 := lc_mix (lf (k - 8))
def lc_n2 (lf : Nat → Int64) (k : Nat) : Int64 := lc_pair (lc_n3 lf (2 * k)) (lc_n3 lf (2 * k + 1))
def lc_n1 (lf : Nat → Int64) (k : Nat) : Int64 := lc_pair (lc_n2 lf (2 * k)) (lc_n2 lf (2 * k + 1))
def lc_n0 (lf : Nat → Int64) (k : Nat) : Int64 := lc_pair (lc_n1 lf (2 * k)) (lc_n1 lf (2 * k + 1))
def lc_node (lf : Nat → Int64) (k : Nat) : Int64 := if 8 ≤ k then lc_n3 lf k else if 4 ≤ k then lc_n2 lf k else if 2 ≤ k then lc_n1 lf k else lc_n0 lf k
theorem lc_node_hi {lf : Nat → Int64} {k : Nat} (h : 8 ≤ k) : lc_node lf k = lc_mix (lf (k - 8)) := if_pos h
theorem lc_node_lo {lf : Nat → Int64} {k : Nat} (h1 : 1 ≤ k) (h8 : k < 8) : lc_node lf k = lc_pair (lc_node lf (2 * k)) (lc_node lf (2 * k + 1)) := by
  rcases (show k = 1 ∨ k = 2 ∨ k = 3 ∨ k = 4 ∨ k = 5 ∨ k = 6 ∨ k = 7 by omega) with rfl | rfl | rfl | rfl | rfl | rfl | rfl <;> rfl
/-! THE PROOF of two leaves: which nodes are on their ways, which beside; how many beside stand above a number; the i-th of them -/
def lc_on (a b k : Nat) : Bool := (8 + a == k || (8 + a) / 2 == k || (8 + a) / 4 == k || (8 + a) / 8 == k) || (8 + b == k || (8 + b) / 2 == k || (8 + b) / 4 == k || (8 + b) / 8 == k)
def lc_sib (k : Nat) : Nat := if k % 2 = 0 then k + 1 else k - 1
def lc_bs (a b k : Nat) : Bool := !lc_on a b k && lc_on a b (lc_sib k)
def lc_ct (a b : Nat) : Nat → Nat
  | 0 => 0
  | m + 1 => lc_ct a b m + (if lc_bs a b (15 - m) = true then 1 else 0)
/-- how many nodes beside have numbers above k -/
def lc_cnt (a b k : Nat) : Nat := lc_ct a b (15 - k)
def lc_nth (a b i : Nat) : Nat := (((List.range 14).map (fun m => 15 - m)).filter (lc_bs a b)).getD i 0
theorem lc_cnt_s (a b : Nat) {k : Nat} (h : k < 15) : lc_cnt a b k = lc_cnt a b (k + 1) + (if lc_bs a b (k + 1) = true then 1 else 0) := by
  unfold lc_cnt
  rw [show 15 - k = (15 - (k + 1)) + 1 by omega]
  simp only [lc_ct]
  rw [show 15 - (15 - (k + 1)) = k + 1 by omega]
theorem lc_all3 {n m q : Nat} {p : Nat → Nat → Nat → Bool} (h : (List.range n).all (fun a => (List.range m).all (fun b => (List.range q).all (fun k => p a b k))) = true) {a b k : Nat} (ha : a < n) (hb : b < m) (hk : k < q) : p a b k = true :=
  List.all_eq_true.mp (List.all_eq_true.mp (List.all_eq_true.mp h a (List.mem_range.mpr ha)) b (List.mem_range.mpr hb)) k (List.mem_range.mpr hk)
theorem lc_cnt_le : ∀ a, a < 8 → ∀ b, b < 8 → a ≠ b → lc_cnt a b 1 ≤ 4 := by decide +kernel
theorem lc_cnt_lt0 : (List.range 8).all (fun a => (List.range 8).all (fun b => (List.range 16).all (fun k => decide (a ≠ b ∧ 2 ≤ k ∧ lc_bs a b k = true → lc_cnt a b k < lc_cnt a b 1 ∧ lc_nth a b (lc_cnt a b k) = k)))) = true := by decide +kernel
theorem lc_cnt_lt {a b k : Nat} (ha : a < 8) (hb : b < 8) (hab : a ≠ b) (hk : k < 16) (h2 : 2 ≤ k) (h : lc_bs a b k = true) : lc_cnt a b k < lc_cnt a b 1 ∧ lc_nth a b (lc_cnt a b k) = k := of_decide_eq_true (lc_all3 lc_cnt_lt0 ha hb hk) ⟨hab, h2, h⟩
theorem lc_nth_ok0 : (List.range 8).all (fun a => (List.range 8).all (fun b => (List.range 4).all (fun i => decide (a ≠ b ∧ i < lc_cnt a b 1 → lc_bs a b (lc_nth a b i) = true ∧ lc_cnt a b (lc_nth a b i) = i ∧ lc_nth a b i < 16 ∧ 2 ≤ lc_nth a b i)))) = true := by decide +kernel
theorem lc_nth_ok {a b i : Nat} (ha : a < 8) (hb : b < 8) (hab : a ≠ b) (hi : i < lc_cnt a b 1) : lc_bs a b (lc_nth a b i) = true ∧ lc_cnt a b (lc_nth a b i) = i ∧ lc_nth a b i < 16 ∧ 2 ≤ lc_nth a b i := of_decide_eq_true (lc_all3 lc_nth_ok0 ha hb (show i < 4 by have := lc_cnt_le a ha b hb hab; omega)) ⟨hab, hi⟩
theorem lc_on_kids0 : (List.range 8).all (fun a => (List.range 8).all (fun b => (List.range 8).all (fun k => decide (1 ≤ k ∧ lc_on a b k = true → (lc_on a b (2 * k) = true ∨ lc_bs a b (2 * k) = true) ∧ (lc_on a b (2 * k + 1) = true ∨ lc_bs a b (2 * k + 1) = true))))) = true := by decide +kernel
theorem lc_on_kids {a b k : Nat} (ha : a < 8) (hb : b < 8) (hk : k < 8) (h1 : 1 ≤ k) (h : lc_on a b k = true) : (lc_on a b (2 * k) = true ∨ lc_bs a b (2 * k) = true) ∧ (lc_on a b (2 * k + 1) = true ∨ lc_bs a b (2 * k + 1) = true) := of_decide_eq_true (lc_all3 lc_on_kids0 ha hb hk) ⟨h1, h⟩
theorem lc_on_1 : ∀ a, a < 8 → ∀ b, b < 8 → lc_on a b 1 = true := by decide +kernel
theorem lc_on_hi : ∀ a, a < 8 → ∀ b, b < 8 → ∀ k, k < 16 → 8 ≤ k → (lc_on a b k = true ↔ k = 8 + a ∨ k = 8 + b) := by decide +kernel
theorem lc_on_iff : ∀ a, a < 8 → ∀ b, b < 8 → ∀ k, k < 17 → (lc_on a b k = true ↔ ∃ u, u < 4 ∧ ((8 + a) / 2 ^ u = k ∨ (8 + b) / 2 ^ u = k)) := by decide +kernel
theorem lc_wayshift : ∀ a, a < 8 → ∀ u, u < 4 → ((8 + nI a).toUInt32 >>> ((nI u).toUInt32 &&& Int32.toUInt32 31)).toInt32 = nI ((8 + a) / 2 ^ u) := by decide +kernel
theorem lc_xor1 : ∀ k, k < 16 → nI k ^^^ 1 = nI (lc_sib k) ∧ lc_sib k < 16 := by decide +kernel
/-- the value of a node, reckoned out of a proof: leaves x and y, its nodes pn -/
def lc_t3 (a b : Nat) (x y : Int64) (pn : Nat → Int64) (k : Nat) : Int64 := if lc_on a b k = true then lc_mix (if k = 8 + a then x else y) else pn (lc_cnt a b k)
def lc_t2 (a b : Nat) (x y : Int64) (pn : Nat → Int64) (k : Nat) : Int64 := if lc_on a b k = true then lc_pair (lc_t3 a b x y pn (2 * k)) (lc_t3 a b x y pn (2 * k + 1)) else pn (lc_cnt a b k)
def lc_t1 (a b : Nat) (x y : Int64) (pn : Nat → Int64) (k : Nat) : Int64 := if lc_on a b k = true then lc_pair (lc_t2 a b x y pn (2 * k)) (lc_t2 a b x y pn (2 * k + 1)) else pn (lc_cnt a b k)
def lc_t0 (a b : Nat) (x y : Int64) (pn : Nat → Int64) (k : Nat) : Int64 := if lc_on a b k = true then lc_pair (lc_t1 a b x y pn (2 * k)) (lc_t1 a b x y pn (2 * k + 1)) else pn (lc_cnt a b k)
def lc_tv (a b : Nat) (x y : Int64) (pn : Nat → Int64) (k : Nat) : Int64 := if 8 ≤ k then lc_t3 a b x y pn k else if 4 ≤ k then lc_t2 a b x y pn k else if 2 ≤ k then lc_t1 a b x y pn k else lc_t0 a b x y pn k
def lc_top (a b : Nat) (x y : Int64) (pn : Nat → Int64) : Int64 := lc_tv a b x y pn 1
theorem lc_tv_bs {a b : Nat} {x y : Int64} {pn : Nat → Int64} {k : Nat} (h : lc_on a b k = false) : lc_tv a b x y pn k = pn (lc_cnt a b k) := by
  have hn : ¬ lc_on a b k = true := by rw [h]; decide
  unfold lc_tv lc_t3 lc_t2 lc_t1 lc_t0
  rw [if_neg hn, if_neg hn, if_neg hn, if_neg hn]
  split
  · rfl
  · split
    · rfl
    · split <;> rfl
theorem lc_tv_hi {a b : Nat} {x y : Int64} {pn : Nat → Int64} {k : Nat} (h : lc_on a b k = true) (h8 : 8 ≤ k) : lc_tv a b x y pn k = lc_mix (if k = 8 + a then x else y) := by
  unfold lc_tv lc_t3
  rw [if_pos h8, if_pos h]
theorem lc_tv_lo {a b : Nat} {x y : Int64} {pn : Nat → Int64} {k : Nat} (h : lc_on a b k = true) (h1 : 1 ≤ k) (h8 : k < 8) : lc_tv a b x y pn k = lc_pair (lc_tv a b x y pn (2 * k)) (lc_tv a b x y pn (2 * k + 1)) := by
  rcases (show k = 1 ∨ k = 2 ∨ k = 3 ∨ k = 4 ∨ k = 5 ∨ k = 6 ∨ k = 7 by omega) with rfl | rfl | rfl | rfl | rfl | rfl | rfl <;> exact if_pos h
theorem lc_bs_off {a b k : Nat} (h : lc_bs a b k = true) : lc_on a b k = false := by
  unfold lc_bs at h
  cases q : lc_on a b k
  · rfl
  · rw [q] at h; cases h
theorem lc_dec {x : Int32} {k : Nat} (h : x = nI (k + 1) + (-1)) : x = nI k := by rw [h]; exact pk_m1 k
theorem lc_isin {j n : Nat} (hj : j < n) (hn : n < 2 ^ 31) : ¬ (nI j < 0 ∨ nI n ≤ nI j) := by
  rintro (h | h)
  · exact nI_pos (by omega) h
  · rw [nI_leI hn (by omega)] at h; omega
theorem lc_range {k : Int32} (h1 : ¬ k < 1) (h2 : ¬ nI 16 ≤ k) : ∃ j : Nat, 1 ≤ j ∧ j < 16 ∧ k = nI j := by
  have e1 : (1 : Int32).toInt = 1 := by decide
  rw [Int32.lt_iff_toInt_lt, e1] at h1
  obtain ⟨j, hj, rfl⟩ := nI_of (x := k) (by rw [Int32.lt_iff_toInt_lt, show (0 : Int32).toInt = 0 from by decide]; omega)
  rw [nI_toInt hj] at h1
  rw [nI_leI (by decide) hj] at h2
  exact ⟨j, by omega, by omega, rfl⟩
