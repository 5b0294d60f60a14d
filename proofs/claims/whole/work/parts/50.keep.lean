/-! what every call keeps of the state's own order -/
theorem op_set_inv {S : lc_S} {a b : Int64} (h : lc_inv S) : lc_inv (op_set S a b).2 := by
  unfold op_set
  by_cases q : lc_wellb (lc_nat a) = true ∧ lc_wellb (lc_nat b) = true
  · rw [if_pos q]
    by_cases z : lc_ns (st_B S) < 16
    · rw [if_pos z]
      obtain ⟨⟨h1, h2, h3, h4⟩, h5⟩ := h
      refine ⟨⟨z, h2, fun k hk => ?_, fun k hk => ?_⟩, h5⟩
      · have hk' : k < lc_ns (st_B S) + 1 := hk
        show lc_well (va_up (lc_sa (st_B S)) (lc_ns (st_B S)) _ k) ∧ lc_well (va_up (lc_sb (st_B S)) (lc_ns (st_B S)) _ k)
        by_cases e : k = lc_ns (st_B S)
        · rw [e, va_up_self, va_up_self]; exact ⟨(lc_wellb_iff _).mp q.1, (lc_wellb_iff _).mp q.2⟩
        · rw [va_up_ne _ _ e, va_up_ne _ _ e]; exact h3 k (by omega)
      · obtain ⟨q1, q2, q3, q4⟩ := h4 k hk
        exact ⟨q1, Nat.lt_succ_of_lt q2, Nat.lt_succ_of_lt q3, q4⟩
    · rw [if_neg z]; exact h
  · rw [if_neg q]; exact h
theorem op_head_inv {S : lc_S} {ht : Int32} {p : Int64} {o x : Int32} {r : Int64} (h : lc_inv S) : lc_inv (op_head S ht p o x r).2 := by
  unfold op_head
  cases e1 : lc_ix ht 100001 with
  | none => exact h
  | some v =>
    cases e2 : lc_ix o (lc_ns (st_B S)) with
    | none => exact h
    | some i =>
      cases e3 : lc_ix x (lc_ns (st_B S)) with
      | none => exact h
      | some k =>
        by_cases z : lc_nh (st_B S) < 60
        · simp only [z, if_true]
          have hv := (lc_ix_some e1).1
          have hi := (lc_ix_some e2).1
          have hk := (lc_ix_some e3).1
          obtain ⟨⟨h1, h2, h3, h4⟩, h5, h6, h7, h8⟩ := h
          refine ⟨⟨h1, z, h3, fun w hw => ?_⟩, h5, fun c hc => ⟨(h6 c hc).1, fun j hj => Nat.lt_succ_of_lt ((h6 c hc).2 j hj)⟩, fun c hc => ⟨(h7 c hc).1, fun j hj => Nat.lt_succ_of_lt ((h7 c hc).2.1 j hj), fun j w hj hw e => ?_⟩, h8⟩
          · have hw' : w < lc_nh (st_B S) + 1 := hw
            show va_up (lc_hh (st_B S)) (lc_nh (st_B S)) v w ≤ 100000 ∧ va_up (lc_ho (st_B S)) (lc_nh (st_B S)) i w < _ ∧ va_up (lc_hx (st_B S)) (lc_nh (st_B S)) k w < _ ∧ va_up (lc_sg (st_B S)) (lc_nh (st_B S)) 0 w < 1024
            by_cases e : w = lc_nh (st_B S)
            · rw [e, va_up_self, va_up_self, va_up_self, va_up_self]; exact ⟨by omega, hi, hk, by decide⟩
            · rw [va_up_ne _ _ e, va_up_ne _ _ e, va_up_ne _ _ e, va_up_ne _ _ e]; exact h4 w (by omega)
          · have e' : va_up (lc_hh (st_B S)) (lc_nh (st_B S)) v (st_gg S c j) = va_up (lc_hh (st_B S)) (lc_nh (st_B S)) v (st_gg S c w) := e
            have a1 := (h7 c hc).2.1 j hj
            have a2 := (h7 c hc).2.1 w hw
            rw [va_up_ne _ _ (by omega), va_up_ne _ _ (by omega)] at e'
            exact (h7 c hc).2.2 j w hj hw e'
        · simp only [z, if_false]; exact h
theorem op_sign_inv {S : lc_S} {a n : Int32} (h : lc_inv S) : lc_inv (op_sign S a n).2 := by
  unfold op_sign
  cases e1 : lc_ix a (lc_nh (st_B S)) with
  | none => exact h
  | some j =>
    cases e2 : lc_ix n 10 with
    | none => exact h
    | some k =>
      by_cases z : lc_bit (lc_sg (st_B S) j) k = 0
      · simp only [z, if_true]
        have hj := (lc_ix_some e1).1
        have hk := (lc_ix_some e2).1
        obtain ⟨⟨h1, h2, h3, h4⟩, h5⟩ := h
        have hor := (of_decide_eq_true (lc_all2 lc_orbit (h4 j hj).2.2.2 hk) z).2
        refine ⟨⟨h1, h2, h3, fun w hw => ?_⟩, h5⟩
        obtain ⟨q1, q2, q3, q4⟩ := h4 w hw
        refine ⟨q1, q2, q3, ?_⟩
        show va_up (lc_sg (st_B S)) j _ w < 1024
        by_cases e : w = j
        · rw [e, va_up_self]; exact hor
        · rw [va_up_ne _ _ e]; exact q4
      · simp only [z, if_false]; exact h
theorem op_term_inv {S : lc_S} {w v : Int32} (h : lc_inv S) : lc_inv (op_term S w v).2 := by
  unfold op_term
  cases e1 : lc_ix w 4 with
  | none => exact h
  | some k =>
    by_cases z : (if k = 3 then 2 else 1) ≤ v.toInt ∧ v.toInt ≤ (if k = 2 then 1000 else 10)
    · simp only [z, and_self, if_true]
      refine lc_inv_tm h (lc_ix_some e1).1 ?_ ?_
      · obtain ⟨z1, z2⟩ := z; split at z1 <;> split <;> omega
      · obtain ⟨z1, z2⟩ := z; split at z2 <;> split <;> omega
    · simp only [z, if_false]; exact h
theorem op_start_inv {S : lc_S} {c a : Int32} (h : lc_inv S) : lc_inv (op_start S c a).2 := by
  unfold op_start
  cases e1 : lc_ix c 4 with
  | none => exact h
  | some i =>
    cases e2 : lc_ix a (lc_nh (st_B S)) with
    | none => exact h
    | some j =>
      have hj := (lc_ix_some e2).1
      obtain ⟨h1, h2, h3, h4⟩ := h
      refine ⟨h1, h2, fun w hw => ?_, h4⟩
      show va_up (st_cn S) i 1 w ≤ 10 ∧ ∀ q, q < va_up (st_cn S) i 1 w → va_up (st_cg S) i (va_up (st_cg S i) 0 j) w q < lc_nh (st_B S)
      by_cases e : w = i
      · subst e
        rw [va_up_self, va_up_self]
        refine ⟨by decide, fun q hq => ?_⟩
        rw [show q = 0 by omega, va_up_self]; exact hj
      · rw [va_up_ne _ _ e, va_up_ne _ _ e]; exact h3 w hw
theorem op_follow_inv {S : lc_S} {c a : Int32} (h : lc_inv S) : lc_inv (op_follow S c a).2 := by
  unfold op_follow
  cases e1 : lc_ix c 4 with
  | none => exact h
  | some i =>
    cases e2 : lc_ix a (lc_nh (st_B S)) with
    | none => exact h
    | some j =>
      by_cases z : st_cn S i = 0
      · simp only [z, if_true]; exact h
      · by_cases y : lc_why (st_B S) (st_tm S) (st_t S i) j = 0
        · simp only [z, if_false, y, if_true]; exact lc_inv_keep h (lc_ix_some e2).1
        · simp only [z, if_false, y]; exact lc_inv_ref h
theorem op_give_inv {S : lc_S} {g a : Int32} (h : lc_inv S) : lc_inv (op_give S g a).2 := by
  unfold op_give
  cases e1 : lc_ix g 4 with
  | none => exact h
  | some i =>
    cases e2 : lc_ix a (lc_nh (st_B S)) with
    | none => exact h
    | some j =>
      have hj := (lc_ix_some e2).1
      have hi := (lc_ix_some e1).1
      have hroom := lc_room h hi hj
      obtain ⟨h1, h2, h3, h4, h5⟩ := h
      refine ⟨h1, h2, h3, fun w hw => ?_, h5⟩
      show va_up (st_gn S) i _ w ≤ 60 ∧ (∀ q, q < va_up (st_gn S) i _ w → va_up (st_gg S) i _ w q < lc_nh (st_B S)) ∧ ∀ q k, q < va_up (st_gn S) i _ w → k < va_up (st_gn S) i _ w → lc_hh (st_B S) (va_up (st_gg S) i _ w q) = lc_hh (st_B S) (va_up (st_gg S) i _ w k) → q = k
      by_cases e : w = i
      · subst e
        rw [va_up_self, va_up_self]
        obtain ⟨g1, g2, g3⟩ := h4 w hw
        cases hpl : lc_pl (fun k => lc_hh (st_B S) (st_gg S w k)) (lc_hh (st_B S) j) (st_gn S w) with
        | some p =>
          show st_gn S w ≤ 60 ∧ (∀ q, q < st_gn S w → va_up (st_gg S w) p j q < _) ∧ ∀ q k, q < st_gn S w → k < st_gn S w → lc_hh (st_B S) (va_up (st_gg S w) p j q) = lc_hh (st_B S) (va_up (st_gg S w) p j k) → q = k
          have hp := (lc_pl_of hpl).2
          have same : ∀ q, lc_hh (st_B S) (va_up (st_gg S w) p j q) = lc_hh (st_B S) (st_gg S w q) := fun q => by
            by_cases z : q = p
            · rw [z, va_up_self]; exact hp.symm
            · rw [va_up_ne _ _ z]
          refine ⟨g1, fun q hq => ?_, fun q k hq hk he => ?_⟩
          · by_cases z : q = p
            · rw [z, va_up_self]; exact hj
            · rw [va_up_ne _ _ z]; exact g2 q hq
          · rw [same, same] at he
            exact g3 q k hq hk he
        | none =>
          show st_gn S w + 1 ≤ 60 ∧ (∀ q, q < st_gn S w + 1 → va_up (st_gg S w) (st_gn S w) j q < _) ∧ ∀ q k, q < st_gn S w + 1 → k < st_gn S w + 1 → lc_hh (st_B S) (va_up (st_gg S w) (st_gn S w) j q) = lc_hh (st_B S) (va_up (st_gg S w) (st_gn S w) j k) → q = k
          have hno := lc_pl_no hpl
          refine ⟨hroom hpl, lc_upg g2 hj, fun q k hq hk he => ?_⟩
          by_cases z1 : q = st_gn S w
          · by_cases z2 : k = st_gn S w
            · omega
            · rw [z1, va_up_self, va_up_ne _ _ z2] at he
              exact absurd he.symm (hno k (by omega))
          · by_cases z2 : k = st_gn S w
            · rw [z2, va_up_self, va_up_ne _ _ z1] at he
              exact absurd he (hno q (by omega))
            · rw [va_up_ne _ _ z1, va_up_ne _ _ z2] at he
              exact g3 q k (by omega) (by omega) he
      · rw [va_up_ne _ _ e, va_up_ne _ _ e]; exact h4 w hw
theorem op_climb_inv {i g : Nat} (hg : g < 4) : ∀ (q : Nat) (S : lc_S) (ps : List Nat), lc_inv S → lc_inv (op_climb i g q S ps).2
  | 0, S, _, h => h
  | q + 1, S, [], h => h
  | q + 1, S, w :: ps, h => by
    rw [op_climb_cons]
    cases e : op_hat S g w with
    | none => exact lc_inv_ref (lc_inv_pay h)
    | some a =>
      simp only []
      by_cases y : lc_why (st_B S) (st_tm S) (st_t S i) a = 0
      · rw [if_pos y]
        exact op_climb_inv hg q _ ps (lc_inv_keep (S := st_pay S i) h (op_hat_lt h hg e))
      · rw [if_neg y]
        by_cases z : lc_why (st_B S) (st_tm S) (st_t S i) a = 5 ∨ lc_why (st_B S) (st_tm S) (st_t S i) a = 6
        · rw [if_pos z]; exact op_climb_inv hg q _ _ (lc_inv_pay h)
        · rw [if_neg z]; exact lc_inv_ref (lc_inv_pay h)
theorem op_seek_inv {S : lc_S} {c g ht : Int32} (h : lc_inv S) : lc_inv (op_seek S c g ht).2 := by
  unfold op_seek
  cases e1 : lc_ix c 4 with
  | none => exact h
  | some i =>
    cases e2 : lc_ix g 4 with
    | none => exact h
    | some k =>
      cases e3 : lc_ix ht 100001 with
      | none => exact h
      | some x =>
        by_cases z : st_cn S i = 0
        · simp only [z, if_true]; exact h
        · simp only [z, if_false]; exact op_climb_inv (lc_ix_some e2).1 _ _ _ h
theorem op_leaf_inv {S : lc_S} {k : Int32} {v : Int64} (h : lc_inv S) : lc_inv (op_leaf S k v).2 := by
  unfold op_leaf
  cases lc_ix k 8 with
  | none => exact h
  | some j => exact h
theorem op_prove_inv {S : lc_S} {a b : Int32} (h : lc_inv S) : lc_inv (op_prove S a b).2 := by
  unfold op_prove
  cases e1 : lc_ix a 8 with
  | none => exact h
  | some i =>
    cases e2 : lc_ix b 8 with
    | none => exact h
    | some j =>
      by_cases z : i = j
      · simp only [z, if_true]; exact h
      · simp only [z, if_false]
        exact ⟨h.1, h.2.1, h.2.2.1, h.2.2.2.1, (lc_ix_some e1).1, (lc_ix_some e2).1, z⟩
theorem op_alter_inv {S : lc_S} {k : Int32} {v : Int64} (h : lc_inv S) : lc_inv (op_alter S k v).2 := by
  unfold op_alter
  split
  · exact h
  · split
    · exact h
    · split
      · exact h
      · exact h
/-! the two systems beside each other -/
theorem lm_at {E : wg_E} {A : Nat → Nat} {C C1 : wg_C} {S : lc_S} (h : lm E A C S) (hC : ∀ q, 1000 ≤ q → C1 q = C q) : lm E A C1 S := ⟨(hC 1000 (by decide)).trans h.1, h.2.1.same (hC 1001 (by decide)), h.2.2.1.same (hC 1003 (by decide)), h.2.2.2.1.same (hC 1004 (by decide)), h.2.2.2.2.1.same (hC 1005 (by decide)), h.2.2.2.2.2.1.same (hC 1006 (by decide)), h.2.2.2.2.2.2.1.same (hC 1007 (by decide)), h.2.2.2.2.2.2.2.1.same (hC 1008 (by decide)), h.2.2.2.2.2.2.2.2.1.same (hC 1009 (by decide)), h.2.2.2.2.2.2.2.2.2.1.same (hC 1010 (by decide)), h.2.2.2.2.2.2.2.2.2.2.1.same (hC 1011 (by decide)), h.2.2.2.2.2.2.2.2.2.2.2.1.same (hC 1012 (by decide)), h.2.2.2.2.2.2.2.2.2.2.2.2.1.same (hC 1013 (by decide)), h.2.2.2.2.2.2.2.2.2.2.2.2.2.1.same (hC 1014 (by decide)), h.2.2.2.2.2.2.2.2.2.2.2.2.2.2.1.same (hC 1015 (by decide)), h.2.2.2.2.2.2.2.2.2.2.2.2.2.2.2.1.same (hC 1016 (by decide)), h.2.2.2.2.2.2.2.2.2.2.2.2.2.2.2.2.1.same (hC 1017 (by decide)), h.2.2.2.2.2.2.2.2.2.2.2.2.2.2.2.2.2.1.same (hC 1018 (by decide)), h.2.2.2.2.2.2.2.2.2.2.2.2.2.2.2.2.2.2.1.same (hC 1024 (by decide)), h.2.2.2.2.2.2.2.2.2.2.2.2.2.2.2.2.2.2.2.1.same (hC 1025 (by decide)), h.2.2.2.2.2.2.2.2.2.2.2.2.2.2.2.2.2.2.2.2.1.same (hC 1026 (by decide)), h.2.2.2.2.2.2.2.2.2.2.2.2.2.2.2.2.2.2.2.2.2.1.same (hC 1027 (by decide)), h.2.2.2.2.2.2.2.2.2.2.2.2.2.2.2.2.2.2.2.2.2.2.same (hC 1028 (by decide))⟩
theorem lm_move {E : wg_E} {A A1 : Nat → Nat} {C : wg_C} {S : lc_S} (h : lm E A C S) (hA : ∀ q, 1000 ≤ q → A1 q = A q) : lm E A1 C S := by
  refine ⟨?_, h.2⟩
  unfold lm_o
  rw [hA 1001 (by decide), hA 1003 (by decide), hA 1004 (by decide), hA 1005 (by decide), hA 1006 (by decide), hA 1007 (by decide), hA 1008 (by decide), hA 1009 (by decide), hA 1010 (by decide), hA 1011 (by decide), hA 1012 (by decide), hA 1013 (by decide), hA 1014 (by decide), hA 1015 (by decide), hA 1016 (by decide), hA 1017 (by decide), hA 1018 (by decide), hA 1024 (by decide), hA 1025 (by decide), hA 1026 (by decide), hA 1027 (by decide), hA 1028 (by decide)]
  exact h.1
theorem lx_at {E : wg_E} {A : Nat → Nat} {C C1 : wg_C} {S : lc_S} (h : lx E A C S) (hC : ∀ q, q < 1000 → C1 q = C q) : lx E A C1 S := ⟨(hC 0 (by omega)).trans h.1, h.2.1.same (hC 1 (by omega)), (hC 2 (by omega)).trans h.2.2.1, h.2.2.2.1.same (hC 3 (by omega)), (hC 4 (by omega)).trans h.2.2.2.2.1, h.2.2.2.2.2.1.same (hC 5 (by omega)), h.2.2.2.2.2.2.1.same (hC 6 (by omega)), h.2.2.2.2.2.2.2.1.same (hC 7 (by omega)), h.2.2.2.2.2.2.2.2.1.same (fun r h1 h2 => hC r (by omega)), h.2.2.2.2.2.2.2.2.2.1.same (fun r h1 h2 => hC r (by omega)), fun i2 hi2 => (h.2.2.2.2.2.2.2.2.2.2.1 i2 hi2).same (fun r h1 => hC r (by omega)), fun i2 hi2 => (h.2.2.2.2.2.2.2.2.2.2.2.1 i2 hi2).same (fun r h1 => hC r (by omega)), h.2.2.2.2.2.2.2.2.2.2.2.2.same (fun r h1 h2 => hC r (by omega))⟩
