theorem lc_headAt {q : Nat → Nat} {n x : Nat} {f : Nat → Option Nat} {adr : Nat → Nat} (hn : n ≤ 60) (hf : ∀ j, j < n → f j = some (adr j)) : lc_at n f (lc_I (lc_pl q x n)) = (lc_pl q x n).map adr := by
  cases h : lc_pl q x n with
  | none => exact lc_at_out (Or.inl (by decide)) (by omega)
  | some i =>
    have hi := (lc_pl_of h).1
    exact (lc_at_in hi (by omega)).trans (hf i hi)
theorem lc_nI_ne2 {b : Nat} (h : b < 2 ^ 31) : nI b ≠ -2 := by
  intro q
  have h1 := congrArg Int32.toInt q
  rw [nI_toInt h, show (-2 : Int32).toInt = -2 from by decide] at h1
  omega
theorem lc_lu_le {B : lc_B} {g : Nat → Nat} {n2 : Nat} {g2 : Nat → Nat} : ∀ {i : Nat}, (∀ k, k < i → lc_hh B (g k) ≤ 100000) → ∀ b, lc_lu B g n2 g2 i = some b → b ≤ 100000
  | 0, _, b, h => by cases h
  | i + 1, hb, b, h => by
    have hi := hb i (by omega)
    have ih := lc_lu_le (B := B) (g := g) (n2 := n2) (g2 := g2) (i := i) (fun k hk => hb k (by omega))
    simp only [lc_lu] at h
    split at h
    · split at h
      · cases h; exact hi
      · split at h
        · cases h; exact hi
        · cases h; exact ih _ (by assumption)
    · exact ih b h
theorem lc_unl_none {B : lc_B} {n : Nat} {g : Nat → Nat} {h : Nat} (e : lc_pl (fun k => lc_hh B (g k)) (lc_hh B h) n = none) : lc_unl B n g h = false := by
  unfold lc_unl
  rw [e]
theorem lc_unl_some {B : lc_B} {n : Nat} {g : Nat → Nat} {h j : Nat} (e : lc_pl (fun k => lc_hh B (g k)) (lc_hh B h) n = some j) : lc_unl B n g h = !(decide (lc_dig B (g j) = lc_dig B h)) := by
  unfold lc_unl
  rw [e]
