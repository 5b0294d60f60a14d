/-! seeking: the pile, its heights above TRUSTED, the end -/
def lc_pile (pl : Nat → Nat) : Nat → List Nat
  | 0 => []
  | n + 1 => pl n :: lc_pile pl n
theorem lc_pile_eq {p q : Nat → Nat} : ∀ {n : Nat}, (∀ a, a < n → p a = q a) → lc_pile p n = lc_pile q n
  | 0, _ => rfl
  | n + 1, h => by
    simp only [lc_pile]
    rw [h n (by omega), lc_pile_eq (fun a ha => h a (by omega))]
theorem lc_pile_push (pl : Nat → Nat) (n w : Nat) : lc_pile (va_up pl n w) (n + 1) = w :: lc_pile pl n := by
  simp only [lc_pile]
  rw [va_up_self, lc_pile_eq (fun a ha => va_up_ne _ _ (by omega))]
theorem op_climb_nil (i g q : Nat) (S : lc_S) : op_climb i g q S [] = (1, S) := by cases q <;> rfl
/-- heights on the pile: each at most half as far above TRUSTED as the one below it -/
def lc_chain (t n : Nat) (pl : Nat → Nat) : Prop := (∀ a, a < n → t < pl a) ∧ ∀ a, a + 1 < n → 2 * pl (a + 1) ≤ pl a + t
def lc_Pi (t n : Nat) (pl : Nat → Nat) : Prop := (2 ≤ n → lc_chain t n pl) ∧ ∀ a, a < n → pl a ≤ 100000
theorem lc_chain_far {t n : Nat} {pl : Nat → Nat} (h : lc_chain t n pl) : ∀ d a, a + d + 1 = n → t + 2 ^ d ≤ pl a
  | 0, a, e => by have := h.1 a (by omega); simp; omega
  | d + 1, a, e => by
    have h1 := lc_chain_far h d (a + 1) (by omega)
    have h2 := h.2 a (by omega)
    rw [Nat.pow_succ]
    omega
theorem lc_Pi_n {t n : Nat} {pl : Nat → Nat} (h : lc_Pi t n pl) : n ≤ 17 := by
  rcases Nat.lt_or_ge n 2 with q | q
  · omega
  · have h1 := lc_chain_far (h.1 q) (n - 1) 0 (by omega)
    have h2 := h.2 0 (by omega)
    rcases Nat.lt_or_ge 17 n with z | z
    · have : 2 ^ 17 ≤ 2 ^ (n - 1) := Nat.pow_le_pow_right (by decide) (by omega)
      omega
    · exact z
theorem lc_chain_dec {t n : Nat} {pl : Nat → Nat} (h : lc_chain t n pl) : ∀ d a, a + d + 1 = n → 0 < d → pl (n - 1) < pl a
  | 0, _, _, h0 => absurd h0 (by omega)
  | d + 1, a, e, _ => by
    have h1 := h.2 a (by omega)
    have h2 := h.1 (a + 1) (by omega)
    rcases Nat.eq_zero_or_pos d with z | z
    · have : a + 1 = n - 1 := by omega
      rw [this] at h1 h2
      omega
    · have := lc_chain_dec h d (a + 1) (by omega) z
      omega
/-- behind a height that was stored -/
theorem lc_Pi_pop {t n : Nat} {pl : Nat → Nat} (h : lc_Pi t (n + 1) pl) (ht : t < pl n) : lc_Pi (pl n) n pl := by
  refine ⟨fun h2 => ?_, fun a ha => h.2 a (by omega)⟩
  have hc := h.1 (by omega)
  refine ⟨fun a ha => ?_, fun a ha => ?_⟩
  · have := lc_chain_dec hc (n - a) a (by omega) (by omega)
    exact this
  · have := hc.2 a (by omega)
    omega
/-- the middle is put on -/
theorem lc_Pi_push {t n : Nat} {pl : Nat → Nat} (h : lc_Pi t (n + 1) pl) (ht : t + 2 ≤ pl n) : lc_Pi t (n + 2) (va_up pl (n + 1) ((t + pl n) / 2)) := by
  have hall : ∀ a, a < n + 1 → t < pl a := by
    intro a ha
    rcases Nat.eq_zero_or_pos n with z | z
    · have : a = n := by omega
      rw [this]; omega
    · exact (h.1 (by omega)).1 a ha
  refine ⟨fun _ => ⟨fun a ha => ?_, fun a ha => ?_⟩, fun a ha => ?_⟩
  · by_cases e : a = n + 1
    · rw [e, va_up_self]; omega
    · rw [va_up_ne _ _ e]; exact hall a (by omega)
  · by_cases e : a + 1 = n + 1
    · rw [e, va_up_self, va_up_ne _ _ (by omega), show a = n by omega]; omega
    · rw [va_up_ne _ _ (by omega), va_up_ne _ _ (by omega)]
      exact (h.1 (by omega)).2 a (by omega)
  · by_cases e : a = n + 1
    · rw [e, va_up_self]
      have := h.2 n (by omega)
      omega
    · rw [va_up_ne _ _ e]; exact h.2 a (by omega)
theorem lc_why_lt {B : lc_B} {tm : Nat → Nat} {t h : Nat} (e : lc_why B tm t h = 0) : lc_hh B t < lc_hh B h := by
  unfold lc_why at e
  by_cases q : lc_hh B h ≤ lc_hh B t
  · rw [if_pos q] at e; cases e
  · omega
theorem lc_why_far {B : lc_B} {tm : Nat → Nat} {t h : Nat} (e : lc_why B tm t h = 5 ∨ lc_why B tm t h = 6) : lc_hh B t + 2 ≤ lc_hh B h := by
  unfold lc_why at e
  by_cases q : lc_hh B h ≤ lc_hh B t
  · rw [if_pos q] at e; omega
  · rw [if_neg q] at e
    by_cases z : lc_hh B h = lc_hh B t + 1
    · rw [if_pos z] at e
      split at e
      · split at e
        · split at e <;> omega
        · omega
      · omega
    · omega
theorem lc_kg_last {n mo h : Nat} {g : Nat → Nat} (hm : 2 ≤ mo) : lc_kg n mo g h (lc_kn n mo - 1) = h := by
  unfold lc_kg lc_kn
  by_cases q : n + 1 ≤ mo
  · rw [if_pos q, if_pos q, Nat.add_sub_cancel, va_up_self]
  · rw [if_neg q, if_neg q, if_neg (by omega), show mo - 1 + (n + 1 - mo) = n by omega, va_up_self]
theorem st_keep_t (S : lc_S) (i j : Nat) (hm : 2 ≤ st_tm S 3) : st_t (st_keep S i j) i = j := by
  show va_up (st_cg S) i _ i (va_up (st_cn S) i _ i - 1) = j
  rw [va_up_self, va_up_self]
  exact lc_kg_last hm
theorem st_keep_n (S : lc_S) (i j : Nat) : st_cn (st_keep S i j) i = lc_kn (st_cn S i) (st_tm S 3) := va_up_self _ _ _
theorem lc_kn_pos {n mo : Nat} (hm : 2 ≤ mo) : lc_kn n mo ≠ 0 := by unfold lc_kn; split <;> omega
theorem lc_inv_pay {S : lc_S} {i : Nat} (h : lc_inv S) : lc_inv (st_pay S i) := h
theorem lc_inv_ref {S : lc_S} {i : Nat} {y x : Int32} (h : lc_inv S) : lc_inv (st_ref S i y x) := h
theorem lc_kn_le {n mo : Nat} (hm : mo ≤ 10) : lc_kn n mo ≤ 10 := by unfold lc_kn; split <;> omega
theorem lc_inv_keep {S : lc_S} {i j : Nat} (h : lc_inv S) (hj : j < lc_nh (st_B S)) : lc_inv (st_keep S i j) := by
  obtain ⟨a, b, c, d⟩ := h
  refine ⟨a, b, fun i2 hi2 => ?_, d⟩
  by_cases e : i2 = i
  · subst e
    obtain ⟨c1, c2⟩ := c i2 hi2
    show va_up (st_cn S) i2 _ i2 ≤ 10 ∧ ∀ k, k < va_up (st_cn S) i2 _ i2 → va_up (st_cg S) i2 _ i2 k < _
    rw [va_up_self, va_up_self]
    refine ⟨lc_kn_le b.2.2, fun k hk => ?_⟩
    have hup := lc_upg c2 hj
    unfold lc_kg
    unfold lc_kn at hk
    by_cases q : st_cn S i2 + 1 ≤ st_tm S 3
    · rw [if_pos q] at hk ⊢
      exact hup k hk
    · rw [if_neg q] at hk ⊢
      by_cases z : k = 0
      · rw [if_pos z]; exact hup 0 (by omega)
      · rw [if_neg z]; exact hup _ (by omega)
  · show va_up (st_cn S) i _ i2 ≤ 10 ∧ ∀ k, k < va_up (st_cn S) i _ i2 → va_up (st_cg S) i _ i2 k < _
    rw [va_up_ne _ _ e, va_up_ne _ _ e]
    exact c i2 hi2
theorem op_climb_cons (i g q : Nat) (S : lc_S) (w : Nat) (ps : List Nat) : op_climb i g (q + 1) S (w :: ps) = (match op_hat S g w with
    | none => (-17, st_ref (st_pay S i) i 7 (nI w))
    | some h => if lc_why (st_B S) (st_tm S) (st_t S i) h = 0 then op_climb i g q (st_keep (st_pay S i) i h) ps
      else if lc_why (st_B S) (st_tm S) (st_t S i) h = 5 ∨ lc_why (st_B S) (st_tm S) (st_t S i) h = 6 then op_climb i g q (st_pay S i) ((lc_hh (st_B S) (st_t S i) + w) / 2 :: w :: ps)
      else (-10 - nI (lc_why (st_B S) (st_tm S) (st_t S i) h), st_ref (st_pay S i) i (nI (lc_why (st_B S) (st_tm S) (st_t S i) h)) (nI w))) := rfl
