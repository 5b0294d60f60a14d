/-! SETS AND HEADS: what they are, apart from any cell. B: (number of sets, their two packed longs), (number of heads, height, parent, set, next, root, signers) -/
abbrev lc_B : Type := (Nat × (Nat → Nat) × (Nat → Nat)) × (Nat × (Nat → Nat) × (Nat → Int64) × (Nat → Nat) × (Nat → Nat) × (Nat → Int64) × (Nat → Nat))
abbrev lc_ns (B : lc_B) : Nat := B.1.1
abbrev lc_sa (B : lc_B) : Nat → Nat := B.1.2.1
abbrev lc_sb (B : lc_B) : Nat → Nat := B.1.2.2
abbrev lc_nh (B : lc_B) : Nat := B.2.1
abbrev lc_hh (B : lc_B) : Nat → Nat := B.2.2.1
abbrev lc_hp (B : lc_B) : Nat → Int64 := B.2.2.2.1
abbrev lc_ho (B : lc_B) : Nat → Nat := B.2.2.2.2.1
abbrev lc_hx (B : lc_B) : Nat → Nat := B.2.2.2.2.2.1
abbrev lc_hr (B : lc_B) : Nat → Int64 := B.2.2.2.2.2.2.1
abbrev lc_sg (B : lc_B) : Nat → Nat := B.2.2.2.2.2.2.2
def lc_dig (B : lc_B) (k : Nat) : Int64 := lc_pair (lc_pair (lc_pair (nI (lc_hh B k)).toInt64 (lc_hp B k)) (lc_pair (nI (lc_ho B k)).toInt64 (nI (lc_hx B k)).toInt64)) (lc_hr B k)
abbrev lc_cert (B : lc_B) (h : Nat) : Prop := 2 * lc_tot (lc_sa B (lc_ho B h)) (lc_sb B (lc_ho B h)) < 3 * lc_wof (lc_sa B (lc_ho B h)) (lc_sb B (lc_ho B h)) (lc_sg B h)
abbrev lc_over (B : lc_B) (tm : Nat → Nat) (h w : Nat) : Prop := tm 0 * lc_tot (lc_sa B w) (lc_sb B w) < tm 1 * lc_wof (lc_sa B w) (lc_sb B w) (lc_sg B h)
/-- what a head is refused by behind a trusted one; 0: nothing -/
def lc_why (B : lc_B) (tm : Nat → Nat) (t h : Nat) : Nat :=
  if lc_hh B h ≤ lc_hh B t then 1
  else if lc_hh B h = lc_hh B t + 1 then (if lc_hp B h = lc_dig B t then (if lc_ho B h = lc_hx B t then (if lc_cert B h then 0 else 4) else 3) else 2)
  else if tm 2 < lc_hh B h - lc_hh B t then 5 else if lc_cert B h then (if lc_over B tm h (lc_hx B t) then 0 else 6) else 4
def lc_ok (B : lc_B) : Prop := lc_ns B ≤ 16 ∧ lc_nh B ≤ 60 ∧ (∀ k, k < lc_ns B → lc_well (lc_sa B k) ∧ lc_well (lc_sb B k)) ∧ ∀ k, k < lc_nh B → lc_hh B k ≤ 100000 ∧ lc_ho B k < lc_ns B ∧ lc_hx B k < lc_ns B ∧ lc_sg B k < 1024
/-- the cells of the class that hold them: set k has role 100 + k, head k has role 200 + k -/
def lc_st (B : lc_B) (k : Nat) : va_E := .inr (6, [.int (nI k), .long (lN (lc_sa B k)), .long (lN (lc_sb B k)), .int (nI (lc_tot (lc_sa B k) (lc_sb B k)))])
def lc_hd (A : Nat → Nat) (B : lc_B) (k : Nat) : va_E := .inr (2, [.int (nI k), .int (nI (lc_hh B k)), .long (lc_hp B k), .ref (A (100 + lc_ho B k)), .ref (A (100 + lc_hx B k)), .long (lc_hr B k), .long (lc_dig B k), .int (nI (lc_sg B k))])
def lc_DB (A : Nat → Nat) (C : wg_C) (B : lc_B) : Prop := (∀ k, k < lc_ns B → C (100 + k) = some (lc_st B k)) ∧ (∀ k, k < lc_nh B → C (200 + k) = some (lc_hd A B k)) ∧ lc_ok B
theorem lc_DB.same {A : Nat → Nat} {C C1 : wg_C} {B : lc_B} (h : lc_DB A C B) (hC : ∀ r, 100 ≤ r → r < 300 → C1 r = C r) : lc_DB A C1 B :=
  ⟨fun k hk => by rw [hC _ (by omega) (by have := h.2.2.1; omega)]; exact h.1 k hk, fun k hk => by rw [hC _ (by omega) (by have := h.2.2.2.1; omega)]; exact h.2.1 k hk, h.2.2⟩
theorem lc_well.lt {x : Nat} (h : lc_well x) : x < 2 ^ 64 := Nat.lt_trans h.2 (by decide)
/-- the first place below n with a number -/
def lc_pl (q : Nat → Nat) (x : Nat) : Nat → Option Nat
  | 0 => none
  | n + 1 => match lc_pl q x n with
    | some i => some i
    | none => if q n = x then some n else none
theorem lc_pl_none {q : Nat → Nat} {x : Nat} : ∀ {n : Nat}, (∀ i, i < n → q i ≠ x) → lc_pl q x n = none
  | 0, _ => rfl
  | n + 1, h => by
    simp only [lc_pl]
    rw [lc_pl_none (fun i hi => h i (by omega))]
    exact if_neg (h n (by omega))
theorem lc_pl_some {q : Nat → Nat} {x i : Nat} (h1 : q i = x) (h2 : ∀ j, j < i → q j ≠ x) : ∀ {n : Nat}, i < n → lc_pl q x n = some i
  | 0, h => absurd h (Nat.not_lt_zero _)
  | n + 1, h => by
    simp only [lc_pl]
    rcases (show i < n ∨ i = n by omega) with h3 | h3
    · rw [lc_pl_some h1 h2 h3]
    · subst h3
      rw [lc_pl_none h2]
      exact if_pos h1
theorem lc_pl_of {q : Nat → Nat} {x : Nat} : ∀ {n i : Nat}, lc_pl q x n = some i → i < n ∧ q i = x
  | 0, i, h => by cases h
  | n + 1, i, h => by
    simp only [lc_pl] at h
    cases h1 : lc_pl q x n with
    | some j =>
      rw [h1] at h
      cases h
      have := lc_pl_of h1
      exact ⟨by omega, this.2⟩
    | none =>
      rw [h1] at h
      by_cases h2 : q n = x
      · simp only [h2, if_true] at h
        cases h
        exact ⟨by omega, h2⟩
      · simp only [h2, if_false] at h
        cases h
theorem lc_pl_no {q : Nat → Nat} {x : Nat} : ∀ {n : Nat}, lc_pl q x n = none → ∀ i, i < n → q i ≠ x
  | 0, _ => fun i h => absurd h (Nat.not_lt_zero _)
  | n + 1, h => by
    simp only [lc_pl] at h
    cases h1 : lc_pl q x n with
    | some j => rw [h1] at h; cases h
    | none =>
      rw [h1] at h
      intro i hi
      rcases (show i < n ∨ i = n by omega) with h3 | h3
      · exact lc_pl_no h1 i h3
      · subst h3
        intro h2
        simp only [h2, if_true] at h
        cases h
/-- a place, or NONE -/
def lc_I (o : Option Nat) : Int32 := match o with
  | some i => nI i
  | none => -2
/-- whether a head is unlike the one that a giver (n heads, g) has at its height -/
def lc_unl (B : lc_B) (n : Nat) (g : Nat → Nat) (h : Nat) : Bool := match lc_pl (fun k => lc_hh B (g k)) (lc_hh B h) n with
  | some j => !(decide (lc_dig B (g j) = lc_dig B h))
  | none => false
/-- the least height of unlike ones among the first i heads of one giver -/
def lc_lu (B : lc_B) (g : Nat → Nat) (n2 : Nat) (g2 : Nat → Nat) : Nat → Option Nat
  | 0 => none
  | i + 1 => if lc_unl B n2 g2 (g i) = true then (match lc_lu B g n2 g2 i with
      | none => some (lc_hh B (g i))
      | some b => if lc_hh B (g i) < b then some (lc_hh B (g i)) else some b) else lc_lu B g n2 g2 i
/-- the last of the first n stored heads that is below a height -/
def lc_lb (B : lc_B) (g : Nat → Nat) (x : Nat) : Nat → Option Nat
  | 0 => none
  | n + 1 => if lc_hh B (g n) < x then some n else lc_lb B g x n
theorem nI_m1 (n : Nat) : nI (n + 1) - 1 = nI n := nI_pred n
theorem lc_rise {a b : Nat} (ha : a < 2 ^ 30) (hb : b < 2 ^ 30) : (1 : Int32) ≤ nI a - nI b ↔ b < a := by
  rw [Int32.le_iff_toInt_le, pk_sub_toInt ha hb, show (1 : Int32).toInt = 1 from by decide]
  omega
theorem lc_rise1 {a b : Nat} (ha : a < 2 ^ 30) (hb : b < 2 ^ 30) : nI a - nI b = 1 ↔ a = b + 1 := by
  rw [← Int32.toInt_inj, pk_sub_toInt ha hb, show (1 : Int32).toInt = 1 from by decide]
  omega
