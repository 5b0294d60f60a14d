/-- how many heads a client stores behind one more, with at most mo rows, and which -/
def lc_kn (n mo : Nat) : Nat := if n + 1 ≤ mo then n + 1 else mo
def lc_kg (n mo : Nat) (g : Nat → Nat) (h : Nat) : Nat → Nat := fun k => if n + 1 ≤ mo then va_up g n h k else if k = 0 then va_up g n h 0 else va_up g n h (k + (n + 1 - mo))
theorem lc_upf {A : Nat → Nat} {f : Nat → Option Nat} {g : Nat → Nat} {n h : Nat} (hf : ∀ j, j < n → f j = some (A (200 + g j))) : ∀ j, j < n + 1 → va_up f n (some (A (200 + h))) j = some (A (200 + va_up g n h j)) := by
  intro j hj
  by_cases e : j = n
  · subst e; rw [va_up_self, va_up_self]
  · rw [va_up_ne _ _ e, va_up_ne _ _ e]; exact hf j (by omega)
theorem lc_upg {g : Nat → Nat} {n h N : Nat} (hg : ∀ j, j < n → g j < N) (hh : h < N) : ∀ j, j < n + 1 → va_up g n h j < N := by
  intro j hj
  by_cases e : j = n
  · subst e; rw [va_up_self]; exact hh
  · rw [va_up_ne _ _ e]; exact hg j (by omega)
/-- replacing the head at a place, or putting one more behind the last -/
def lc_gn (n : Nat) (o : Option Nat) : Nat := match o with
  | some _ => n
  | none => n + 1
def lc_gg (n : Nat) (g : Nat → Nat) (h : Nat) (o : Option Nat) : Nat → Nat := match o with
  | some j => va_up g j h
  | none => va_up g n h
theorem lc_updp {A : Nat → Nat} {f : Nat → Option Nat} {g : Nat → Nat} {n j0 h : Nat} (hf : ∀ j, j < n → f j = some (A (200 + g j))) : ∀ j, j < n → va_up f j0 (some (A (200 + h))) j = some (A (200 + va_up g j0 h j)) := by
  intro j hj
  by_cases e : j = j0
  · subst e; rw [va_up_self, va_up_self]
  · rw [va_up_ne _ _ e, va_up_ne _ _ e]; exact hf j (by omega)
theorem lc_rise0 {a b : Nat} (ha : a < 2 ^ 30) (hb : b < 2 ^ 30) : (0 : Int32) < nI a - nI b ↔ b < a := by
  rw [Int32.lt_iff_toInt_lt, pk_sub_toInt ha hb, show (0 : Int32).toInt = 0 from by decide]
  omega
theorem lc_keepstep {A : Nat → Nat} {f fi : Nat → Option Nat} {g : Nat → Nat} {n mo h j : Nat} (hj1 : 1 ≤ j) (hj : j < mo) (hmo : mo < n + 1) (hfp : ∀ j, j < n + 1 → va_up f n (some (A (200 + h))) j = some (A (200 + va_up g n h j)))
    (hfi : ∀ k, k < n + 1 → fi k = (if 1 ≤ k ∧ k < j then (va_up f n (some (A (200 + h)))) (k + (n + 1 - mo)) else (va_up f n (some (A (200 + h)))) k)) :
    ∀ k, k < n + 1 → va_up fi j (some (A (200 + va_up g n h (j + (n + 1 - mo))))) k = (if 1 ≤ k ∧ k < j + 1 then (va_up f n (some (A (200 + h)))) (k + (n + 1 - mo)) else (va_up f n (some (A (200 + h)))) k) := by
  intro k hk
  by_cases e : k = j
  · subst e
    rw [va_up_self, if_pos (by omega), hfp _ (by omega)]
  · rw [va_up_ne _ _ e, hfi k hk]
    by_cases q : 1 ≤ k ∧ k < j
    · rw [if_pos q, if_pos (by omega)]
    · rw [if_neg q, if_neg (by omega)]
theorem lc_keepend {A : Nat → Nat} {f fi : Nat → Option Nat} {g : Nat → Nat} {n mo h j k : Nat} (hmo : mo < n + 1) (hje : j = mo) (hk : k < mo) (hfp : ∀ j, j < n + 1 → va_up f n (some (A (200 + h))) j = some (A (200 + va_up g n h j)))
    (hfi : ∀ k, k < n + 1 → fi k = (if 1 ≤ k ∧ k < j then (va_up f n (some (A (200 + h)))) (k + (n + 1 - mo)) else (va_up f n (some (A (200 + h)))) k)) : fi k = some (A (200 + lc_kg n mo g h k)) := by
  subst hje
  rw [hfi k (by omega)]
  unfold lc_kg
  rw [if_neg (show ¬ n + 1 ≤ j by omega)]
  by_cases q : k = 0
  · rw [if_neg (show ¬ (1 ≤ k ∧ k < j) by omega), if_pos q, q]
    exact hfp 0 (by omega)
  · rw [if_pos (show 1 ≤ k ∧ k < j by omega), if_neg q]
    exact hfp _ (by omega)
