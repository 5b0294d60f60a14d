/-- a new object -/
def st_tm0 : Nat → Nat := va_up (va_up (va_up (va_up (fun _ => 0) 0 1) 1 3) 2 50) 3 4
def st_0 : lc_S := (((0, fun _ => 0, fun _ => 0), (0, fun _ => 0, fun _ => 0, fun _ => 0, fun _ => 0, fun _ => 0, fun _ => 0)), st_tm0, (fun _ => 0, fun _ _ => 0, fun _ => 0, fun _ => -2, fun _ => -2), (fun _ => 0, fun _ _ => 0), fun _ => 0, (0, 1, 0, 0, lc_tk 0 1 (fun _ => 0) (fun _ => 0) 1))
theorem st_0_inv : lc_inv st_0 := by
  refine ⟨⟨by decide, by decide, fun k hk => absurd hk (Nat.not_lt_zero _), fun k hk => absurd hk (Nat.not_lt_zero _)⟩, ⟨fun k hk => ?_, by decide, by decide⟩, fun i hi => ⟨Nat.zero_le 10, fun j hj => absurd hj (Nat.not_lt_zero _)⟩, fun i hi => ⟨Nat.zero_le 60, fun j hj => absurd hj (Nat.not_lt_zero _), fun j k hj => absurd hj (Nat.not_lt_zero _)⟩, by decide, by decide, by decide⟩
  rcases (show k = 0 ∨ k = 1 ∨ k = 2 ∨ k = 3 by omega) with rfl | rfl | rfl | rfl <;> decide
theorem lc_terms0 : upd (upd (upd (upd (fun _ => (0 : Int32)) 0 1) 1 3) 2 50) 3 4 = fun k => nI (st_tm0 k) := by
  have e : (fun _ : Nat => (0 : Int32)) = fun j => nI ((fun _ : Nat => 0) j) := rfl
  rw [e, show (1 : Int32) = nI 1 from rfl, show (3 : Int32) = nI 3 from rfl, show (50 : Int32) = nI 50 from rfl, show (4 : Int32) = nI 4 from rfl, lc_updN, lc_updN, lc_updN, lc_updN]
  rfl
theorem lc_four {f : Nat → Option Nat} {g : Nat → Nat} (h0 : f 0 = some (g 0)) (h1 : f 1 = some (g 1)) (h2 : f 2 = some (g 2)) (h3 : f 3 = some (g 3)) : ∀ j, j < 4 → f j = some (g j) := by
  intro j hj
  rcases (show j = 0 ∨ j = 1 ∨ j = 2 ∨ j = 3 by omega) with rfl | rfl | rfl | rfl <;> assumption
theorem lc_each {P : Nat → Prop} (h0 : P 0) (h1 : P 1) (h2 : P 2) (h3 : P 3) : ∀ j, j < 4 → P j := by
  intro j hj
  rcases (show j = 0 ∨ j = 1 ∨ j = 2 ∨ j = 3 by omega) with rfl | rfl | rfl | rfl <;> assumption
theorem lc_big {q k : Nat} (h : 1000 ≤ q) (hk : k < 1000) : q ≠ k := by omega
