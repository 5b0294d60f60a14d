def lc_num (a b : Nat) (va vb : Int64) (ct : Nat) (pn : Nat → Int64) (k : Int32) : Int64 :=
  if k = 0 then (nI a).toInt64 else if k = 1 then (nI b).toInt64 else if k = 2 then va else if k = 3 then vb else if 4 ≤ k.toInt ∧ k.toInt < 4 + ct then pn (k.toNatClampNeg - 4) else 0
theorem lc_sw4 (k : Int32) : k = 0 ∨ k = 1 ∨ k = 2 ∨ k = 3 ∨ (k.toInt < 0 ∨ 3 < k.toInt) := by
  simp only [← Int32.toInt_inj]
  have e0 : (0 : Int32).toInt = 0 := by decide
  have e1 : (1 : Int32).toInt = 1 := by decide
  have e2 : (2 : Int32).toInt = 2 := by decide
  have e3 : (3 : Int32).toInt = 3 := by decide
  omega
theorem lc_num_out {a b : Nat} {va vb : Int64} {ct : Nat} {pn : Nat → Int64} {k : Int32} (h : k.toInt < 0 ∨ 3 < k.toInt) : lc_num a b va vb ct pn k = (if 4 ≤ k.toInt ∧ k.toInt < 4 + ct then pn (k.toNatClampNeg - 4) else 0) := by
  unfold lc_num
  have e0 : (0 : Int32).toInt = 0 := by decide
  have e1 : (1 : Int32).toInt = 1 := by decide
  have e2 : (2 : Int32).toInt = 2 := by decide
  have e3 : (3 : Int32).toInt = 3 := by decide
  rw [if_neg (by rw [← Int32.toInt_inj]; omega), if_neg (by rw [← Int32.toInt_inj]; omega), if_neg (by rw [← Int32.toInt_inj]; omega), if_neg (by rw [← Int32.toInt_inj]; omega)]
theorem lc_ge4 {k : Int32} (h : ¬ k < 4) : ∃ i : Nat, i + 4 < 2 ^ 31 ∧ k = nI (i + 4) ∧ k - 4 = nI i ∧ k.toInt = i + 4 ∧ k.toNatClampNeg = i + 4 := by
  rw [Int32.lt_iff_toInt_lt, show (4 : Int32).toInt = 4 from by decide] at h
  obtain ⟨j, hj, rfl⟩ := nI_of (x := k) (by rw [Int32.lt_iff_toInt_lt, show (0 : Int32).toInt = 0 from by decide]; omega)
  rw [nI_toInt hj] at h
  obtain ⟨i, rfl⟩ : ∃ i, j = i + 4 := ⟨j - 4, by omega⟩
  refine ⟨i, hj, rfl, ?_, ?_, nI_clamp hj⟩
  · rw [show (4 : Int32) = nI 4 from rfl, pk_sub (by omega), Nat.add_sub_cancel]
  · rw [nI_toInt hj]; omega
theorem lc_has4 {k : Int32} {ct : Nat} (hct : ct ≤ 4) (h : 0 ≤ (k - 4).toInt ∧ (k - 4).toInt < ct) : ∃ i : Nat, i < ct ∧ k = nI (i + 4) ∧ k - 4 = nI i ∧ k.toInt = i + 4 ∧ k.toNatClampNeg = i + 4 := by
  obtain ⟨i, hi, e⟩ := nI_of (x := k - 4) (by rw [Int32.lt_iff_toInt_lt, show (0 : Int32).toInt = 0 from by decide]; omega)
  rw [e, nI_toInt hi] at h
  have ek : k = nI (i + 4) := by
    rw [← nI_add, ← e]
    exact (Int32.sub_add_cancel k 4).symm
  exact ⟨i, by omega, ek, e, by rw [ek, nI_toInt (by omega)]; omega, by rw [ek, nI_clamp (by omega)]⟩
theorem lc_not4 {k : Int32} {ct : Nat} (hct : ct ≤ 4) (h : ¬ (0 ≤ (k - 4).toInt ∧ (k - 4).toInt < ct)) : ¬ (4 ≤ k.toInt ∧ k.toInt < 4 + ct) ∧ ∀ i2, i2 < ct → k ≠ nI (i2 + 4) := by
  refine ⟨fun q => ?_, fun i2 h1 h2 => ?_⟩
  · obtain ⟨i, hi31, ek, e4, eT, eC⟩ := lc_ge4 (k := k) (by rw [Int32.lt_iff_toInt_lt, show (4 : Int32).toInt = 4 from by decide]; omega)
    exact h (by rw [e4, nI_toInt (by omega)]; omega)
  · exact h (by rw [h2, show (4 : Int32) = nI 4 from rfl, pk_sub (by omega), Nat.add_sub_cancel, nI_toInt (by omega)]; omega)
/-- the nodes of a proof when all down to k have been taken -/
def lc_tk (a b : Nat) (lf pn : Nat → Int64) (k : Nat) : Nat → Int64 := fun i => if i < lc_cnt a b k then lc_node lf (lc_nth a b i) else pn i
theorem lc_tk_15 (a b : Nat) (lf pn : Nat → Int64) : pn = lc_tk a b lf pn 15 := by
  funext i
  exact (if_neg (Nat.not_lt_zero i)).symm
theorem lc_tk_yes {a b : Nat} {lf pn : Nat → Int64} {k : Nat} (hk : k < 15) (h : lc_bs a b (k + 1) = true) (hn : lc_nth a b (lc_cnt a b (k + 1)) = k + 1) : vp_updL (lc_tk a b lf pn (k + 1)) (lc_cnt a b (k + 1)) (lc_node lf (k + 1)) = lc_tk a b lf pn k := by
  have e := lc_cnt_s a b hk
  rw [if_pos h] at e
  funext i
  unfold lc_tk vp_updL
  by_cases q : i = lc_cnt a b (k + 1)
  · rw [if_pos q, if_pos (by omega), q, hn]
  · rw [if_neg q]
    show (if i < lc_cnt a b (k + 1) then lc_node lf (lc_nth a b i) else pn i) = _
    by_cases z : i < lc_cnt a b (k + 1)
    · rw [if_pos z, if_pos (by omega)]
    · rw [if_neg z, if_neg (by omega)]
theorem lc_tk_no {a b : Nat} {lf pn : Nat → Int64} {k : Nat} (hk : k < 15) (h : ¬ lc_bs a b (k + 1) = true) : lc_tk a b lf pn (k + 1) = lc_tk a b lf pn k := by
  have e := lc_cnt_s a b hk
  rw [if_neg h] at e
  unfold lc_tk
  rw [e]
  rfl
theorem lc_cnt_yes {a b k : Nat} (hk : k < 15) (h : lc_bs a b (k + 1) = true) : lc_cnt a b k = lc_cnt a b (k + 1) + 1 := by
  rw [lc_cnt_s a b hk, if_pos h]
theorem lc_cnt_no {a b k : Nat} (hk : k < 15) (h : ¬ lc_bs a b (k + 1) = true) : lc_cnt a b k = lc_cnt a b (k + 1) := by
  rw [lc_cnt_s a b hk, if_neg h]
  rfl
theorem lc_cnt_small {a b : Nat} (ha : a < 8) (hb : b < 8) (hab : a ≠ b) {k : Nat} (hk : k < 15) : lc_cnt a b (k + 1) ≤ 4 := by
  have key : ∀ m, lc_ct a b m ≤ lc_ct a b (m + 1) := fun m => Nat.le_add_right _ _
  have mono : ∀ m n, m ≤ n → lc_ct a b m ≤ lc_ct a b n := by
    intro m n h
    induction h with
    | refl => exact Nat.le_refl _
    | step _ ih => exact Nat.le_trans ih (key _)
  have := lc_cnt_le a ha b hb hab
  have h2 := mono (15 - (k + 1)) (15 - 1) (by omega)
  unfold lc_cnt at *
  omega
theorem lc_repno {k : Int32} {i i2 ct : Nat} (hni : ¬ i < ct) (hi : i + 4 < 2 ^ 31) (ek : k = nI (i + 4)) (h1 : i2 < ct) (hct : ct ≤ 4) (h2 : k = nI (i2 + 4)) : False := by
  rw [ek, nI_eq hi (by omega)] at h2
  omega
theorem lc_bs_0 : (List.range 8).all (fun a => (List.range 8).all (fun b => (List.range 2).all (fun k => decide (lc_bs a b k = false ∨ a = b ∨ (k = 0))))) = true := by decide +kernel
theorem lc_bs_cnt {a b k : Nat} (ha : a < 8) (hb : b < 8) (hab : a ≠ b) (hk : k + 1 < 16) (h : lc_bs a b (k + 1) = true) : lc_cnt a b (k + 1) < lc_cnt a b 1 := by
  rcases (show k + 1 = 1 ∨ 2 ≤ k + 1 by omega) with e | e
  · have := of_decide_eq_true (lc_all3 lc_bs_0 ha hb (show k + 1 < 2 by omega))
    rcases this with q | q | q
    · rw [q] at h; cases h
    · exact absurd q hab
    · omega
  · exact (lc_cnt_lt ha hb hab hk e h).1
