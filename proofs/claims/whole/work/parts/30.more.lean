theorem lc_lb_lt {B : lc_B} {g : Nat → Nat} {x : Nat} : ∀ {n t : Nat}, lc_lb B g x n = some t → t < n
  | 0, t, h => by cases h
  | n + 1, t, h => by
    simp only [lc_lb] at h
    split at h
    · cases h; omega
    · have := lc_lb_lt h; omega
theorem lc_fit0 {S : lc_S} {t h : Nat} : (nI (lc_why (st_B S) (st_tm S) t h) = 0) ↔ op_fit S t (some h) = true := by
  have := lc_why_le (st_B S) (st_tm S) t h
  unfold op_fit
  rw [← nI_0, nI_eq (by omega) (by decide), decide_eq_true_eq]
