section WGS
variable {p : Program} {l : Launch} {e : Env} {R : Room} {s : State} {m : MethodId} {args : Array Value} {below : List Frame} {meth : Method} {c : Code} {H : Heap} {locs : List Loc} {cells slots : Nat} {Q : State → Prop} {pc : Nat} {ls : Array Slot} {rest : List Value}
theorem wg_some {r : Option Nat} {x : Nat} (h : r = some x) (k : W p l e R s m args below meth c H locs cells slots Q (F0 m pc ls (.ref x :: rest))) : W p l e R s m args below meth c H locs cells slots Q (F0 m pc ls (va_rf r :: rest)) := by subst h; exact k
theorem wg_none {r : Option Nat} (h : r = none) (k : W p l e R s m args below meth c H locs cells slots Q (F0 m pc ls (.null :: rest))) : W p l e R s m args below meth c H locs cells slots Q (F0 m pc ls (va_rf r :: rest)) := by subst h; exact k
theorem wg_topi {x y : Int32} (h : x = y) (k : W p l e R s m args below meth c H locs cells slots Q (F0 m pc ls (.int y :: rest))) : W p l e R s m args below meth c H locs cells slots Q (F0 m pc ls (.int x :: rest)) := by subst h; exact k
theorem wg_topl {x y : Int64} (h : x = y) (k : W p l e R s m args below meth c H locs cells slots Q (F0 m pc ls (.long y :: rest))) : W p l e R s m args below meth c H locs cells slots Q (F0 m pc ls (.long x :: rest)) := by subst h; exact k
end WGS
/-! what the two systems reckon alike -/
def lc_u (x : Int64) (k : Int32) : Int64 := (x.toUInt64 >>> (k.toInt64.toUInt64 &&& Int64.toUInt64 63)).toInt64
def lc_m1 (x : Int64) : Int64 := (x ^^^ lc_u x 30) * (-4658895280553007687)
def lc_m2 (x : Int64) : Int64 := (x ^^^ lc_u x 27) * (-7723592293110705685)
def lc_mix (x : Int64) : Int64 := lc_m2 (lc_m1 x) ^^^ lc_u (lc_m2 (lc_m1 x)) 31
def lc_pair (a b : Int64) : Int64 := lc_mix (lc_mix a + 3 * lc_mix b + (-7046029254386353131))
/-- the head that a row has at a place -/
def lc_at (n : Nat) (f : Nat → Option Nat) (k : Int32) : Option Nat := if 0 ≤ k.toInt ∧ k.toInt < n then f k.toNatClampNeg else none
theorem lc_at_in {n : Nat} {f : Nat → Option Nat} {j : Nat} (h : j < n) (hn : n < 2 ^ 31) : lc_at n f (nI j) = f j := by
  unfold lc_at
  rw [nI_toInt (by omega), nI_clamp (by omega), if_pos (by omega)]
theorem lc_at_out {n : Nat} {f : Nat → Option Nat} {k : Int32} (h : k < 0 ∨ nI n ≤ k) (hn : n < 2 ^ 31) : lc_at n f k = none := by
  unfold lc_at
  rw [if_neg]
  rintro ⟨h1, h2⟩
  rcases h with h | h
  · rw [Int32.lt_iff_toInt_lt] at h
    have : (0 : Int32).toInt = 0 := by decide
    omega
  · rw [Int32.le_iff_toInt_le, nI_toInt hn] at h
    omega
theorem lc_cut {n k : Nat} (hk : k ≤ n) (hn : n < 2 ^ 31) : (if (if (0 : Int32) < nI k then nI k else 0) < nI n then (if (0 : Int32) < nI k then nI k else 0) else nI n) = nI k := by
  have h0 : (if (0 : Int32) < nI k then nI k else 0) = nI k := by
    by_cases h : (0 : Int32) < nI k
    · rw [if_pos h]
    · rw [if_neg h]
      rw [← nI_0, nI_ltI (by omega) (by omega)] at h
      rw [show k = 0 by omega, nI_0]
  rw [h0]
  by_cases h : nI k < nI n
  · rw [if_pos h]
  · rw [if_neg h]
    rw [nI_ltI (by omega) (by omega)] at h
    rw [show n = k by omega]
