theorem lc_tm1i : (-1 : Int32).toInt = -1 := by decide
theorem lc_t6i : (6 : Int32).toInt = 6 := by decide
theorem lc_at_ix2 {n : Nat} {f : Nat → Option Nat} {k : Int32} {A : Nat → Nat} {g : Nat → Nat} (hn : n < 2 ^ 31) (hf : ∀ j, j < n → f j = some (A (200 + g j))) : lc_at n f k = (lc_ix k n).map (fun j => A (200 + g j)) := lc_at_ix hn hf
theorem lc_treeR {k : Int32} {r : Int64} {S : lc_S} (h : (∃ j : Nat, 1 ≤ j ∧ j < 16 ∧ k = nI j ∧ r = lc_node (st_lf S) j) ∨ ((k < 1 ∨ nI 16 ≤ k) ∧ r = 0)) : r = op_tree S k := by
  unfold op_tree
  rcases h with ⟨j, h1, h2, h3, h4⟩ | ⟨h1, h2⟩
  · have t : k.toInt = (j : Int) := by rw [h3, nI_toInt (by omega)]
    rw [if_pos (by omega), t, Int.toNat_natCast]
    exact h4
  · simp only [Int32.lt_iff_toInt_lt, Int32.le_iff_toInt_le, lc_t1i, nI_toInt (show 16 < 2 ^ 31 by decide)] at h1
    rw [if_neg (by omega)]
    exact h2
