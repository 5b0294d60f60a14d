/-! THE STATE of both systems, and what each call makes of it -/
abbrev lc_S : Type := lc_B × (Nat → Nat) × ((Nat → Nat) × (Nat → Nat → Nat) × (Nat → Int32) × (Nat → Int32) × (Nat → Int32)) × ((Nat → Nat) × (Nat → Nat → Nat)) × (Nat → Int64) × (Nat × Nat × Int64 × Int64 × (Nat → Int64))
abbrev st_B (S : lc_S) : lc_B := S.1
abbrev st_tm (S : lc_S) : Nat → Nat := S.2.1
abbrev st_cn (S : lc_S) : Nat → Nat := S.2.2.1.1
abbrev st_cg (S : lc_S) : Nat → Nat → Nat := S.2.2.1.2.1
abbrev st_co (S : lc_S) : Nat → Int32 := S.2.2.1.2.2.1
abbrev st_rb (S : lc_S) : Nat → Int32 := S.2.2.1.2.2.2.1
abbrev st_ra (S : lc_S) : Nat → Int32 := S.2.2.1.2.2.2.2
abbrev st_gn (S : lc_S) : Nat → Nat := S.2.2.2.1.1
abbrev st_gg (S : lc_S) : Nat → Nat → Nat := S.2.2.2.1.2
abbrev st_lf (S : lc_S) : Nat → Int64 := S.2.2.2.2.1
abbrev st_pa (S : lc_S) : Nat := S.2.2.2.2.2.1
abbrev st_pb (S : lc_S) : Nat := S.2.2.2.2.2.2.1
abbrev st_va (S : lc_S) : Int64 := S.2.2.2.2.2.2.2.1
abbrev st_vb (S : lc_S) : Int64 := S.2.2.2.2.2.2.2.2.1
abbrev st_pn (S : lc_S) : Nat → Int64 := S.2.2.2.2.2.2.2.2.2
abbrev st_ct (S : lc_S) : Nat := lc_cnt (st_pa S) (st_pb S) 1
abbrev up_B (S : lc_S) (B : lc_B) : lc_S := (B, S.2)
abbrev up_tm (S : lc_S) (tm : Nat → Nat) : lc_S := (S.1, tm, S.2.2)
abbrev up_cl (S : lc_S) (cn : Nat → Nat) (cg : Nat → Nat → Nat) (co rb ra : Nat → Int32) : lc_S := (S.1, S.2.1, (cn, cg, co, rb, ra), S.2.2.2)
abbrev up_gv (S : lc_S) (gn : Nat → Nat) (gg : Nat → Nat → Nat) : lc_S := (S.1, S.2.1, S.2.2.1, (gn, gg), S.2.2.2.2)
abbrev up_lf (S : lc_S) (lf : Nat → Int64) : lc_S := (S.1, S.2.1, S.2.2.1, S.2.2.2.1, lf, S.2.2.2.2.2)
abbrev up_pf (S : lc_S) (a b : Nat) (va vb : Int64) (pn : Nat → Int64) : lc_S := (S.1, S.2.1, S.2.2.1, S.2.2.2.1, S.2.2.2.2.1, (a, b, va, vb, pn))
/-- a number that is told, if there is one such -/
def lc_ix (k : Int32) (n : Nat) : Option Nat := if 0 ≤ k.toInt ∧ k.toInt < n then some k.toInt.toNat else none
theorem lc_ix_some {k : Int32} {n j : Nat} (h : lc_ix k n = some j) : j < n ∧ k = nI j ∧ k.toInt = j := by
  unfold lc_ix at h
  by_cases q : 0 ≤ k.toInt ∧ k.toInt < n
  · rw [if_pos q] at h
    obtain ⟨i, hi, e⟩ := nI_of (x := k) (by rw [Int32.lt_iff_toInt_lt, lc_t0i]; omega)
    have t : k.toInt = (i : Int) := by rw [e, nI_toInt hi]
    have hj := Option.some.inj h
    rw [t, Int.toNat_natCast] at hj
    subst hj
    exact ⟨by omega, e, t⟩
  · rw [if_neg q] at h; cases h
theorem lc_ix_none {k : Int32} {n : Nat} (h : lc_ix k n = none) : ¬ (0 ≤ k.toInt ∧ k.toInt < n) := by
  intro q
  unfold lc_ix at h
  rw [if_pos q] at h
  cases h
theorem lc_ix_in {n j : Nat} (h : j < n) (hn : n < 2 ^ 31) : lc_ix (nI j) n = some j := by
  unfold lc_ix
  rw [nI_toInt (by omega), if_pos (by omega), Int.toNat_natCast]
theorem lc_ix_no {k : Int32} {n : Nat} (h : ¬ (0 ≤ k.toInt ∧ k.toInt < n)) : lc_ix k n = none := if_neg h
theorem lc_at_ix {n : Nat} {f : Nat → Option Nat} {k : Int32} {adr : Nat → Nat} (hn : n < 2 ^ 31) (hf : ∀ j, j < n → f j = some (adr j)) : lc_at n f k = (lc_ix k n).map adr := by
  cases h : lc_ix k n with
  | none =>
    unfold lc_at
    rw [if_neg (lc_ix_none h)]
    rfl
  | some j =>
    obtain ⟨h1, h2, -⟩ := lc_ix_some h
    rw [h2, lc_at_in h1 hn]
    exact hf j h1
/-- the state is as the document has it -/
def lc_inv (S : lc_S) : Prop := lc_ok (st_B S) ∧ ((∀ k, k < 4 → st_tm S k ≤ 1000) ∧ 2 ≤ st_tm S 3 ∧ st_tm S 3 ≤ 10) ∧ (∀ i, i < 4 → st_cn S i ≤ 10 ∧ ∀ j, j < st_cn S i → st_cg S i j < lc_nh (st_B S)) ∧ (∀ i, i < 4 → st_gn S i ≤ 60 ∧ (∀ j, j < st_gn S i → st_gg S i j < lc_nh (st_B S)) ∧ ∀ j k, j < st_gn S i → k < st_gn S i → lc_hh (st_B S) (st_gg S i j) = lc_hh (st_B S) (st_gg S i k) → j = k) ∧ st_pa S < 8 ∧ st_pb S < 8 ∧ st_pa S ≠ st_pb S
/-! the class's cells for a state -/
def lx_0 (A : Nat → Nat) (C : wg_C) (ns : Nat) : Prop := C 0 = some (.inr (7, [.ref (A 1), .int (nI ns), .ref (A 2), .ref (A 4), .ref (A 5), .ref (A 6), .ref (A 7), .ref (A 8), .ref (A 11)]))
def lx_q (E : wg_E) (A : Nat → Nat) (C : wg_C) (r t N n o : Nat) : Prop := ∃ f : Nat → Option Nat, C r = some (.inl (E.2.1 t, N, .inr (.inr (.inr (.inr f))))) ∧ ∀ j, j < n → f j = some (A (o + j))
def lx_2 (A : Nat → Nat) (C : wg_C) (nh : Nat) : Prop := C 2 = some (.inr (3, [.ref (A 3), .int (nI nh)]))
def lx_4 (E : wg_E) (C : wg_C) (tm : Nat → Nat) : Prop := C 4 = some (.inl (E.2.1 0, 4, .inl (fun k => nI (tm k))))
def lx_7 (E : wg_E) (C : wg_C) : Prop := ∃ f : Nat → Int32, C 7 = some (.inl (E.2.1 0, 32, .inl f))
def lx_8 (E : wg_E) (A : Nat → Nat) (C : wg_C) (lf : Nat → Int64) : Prop := C 8 = some (.inr (5, [.ref (A 9), .ref (A 10)])) ∧ C 9 = some (.inl (E.2.1 1, 8, .inr (.inl lf))) ∧ ∃ nd : Nat → Int64, C 10 = some (.inl (E.2.1 1, 16, .inr (.inl nd))) ∧ ∀ j, 1 ≤ j → j < 16 → nd j = lc_node lf j
def lx_p (E : wg_E) (A : Nat → Nat) (C : wg_C) (a b : Nat) (va vb : Int64) (pn : Nat → Int64) : Prop := C 11 = some (.inr (4, [.int (nI a), .int (nI b), .long va, .long vb, .ref (A 12), .int (nI (lc_cnt a b 1)), .ref (A 13)])) ∧ C 12 = some (.inl (E.2.1 1, 4, .inr (.inl pn))) ∧ ∃ rk : Nat → Int64, C 13 = some (.inl (E.2.1 1, 16, .inr (.inl rk)))
def lx_c (E : wg_E) (A : Nat → Nat) (C : wg_C) (i n : Nat) (g : Nat → Nat) (co rb ra : Int32) : Prop := ∃ f : Nat → Option Nat, C (20 + i) = some (.inr (0, [.ref (A (24 + i)), .int co, .int rb, .int ra])) ∧ C (24 + i) = some (.inr (3, [.ref (A (28 + i)), .int (nI n)])) ∧ C (28 + i) = some (.inl (E.2.1 4, 11, .inr (.inr (.inr (.inr f))))) ∧ ∀ j, j < n → f j = some (A (200 + g j))
def lx_g (E : wg_E) (A : Nat → Nat) (C : wg_C) (i n : Nat) (g : Nat → Nat) : Prop := ∃ f : Nat → Option Nat, C (32 + i) = some (.inr (1, [.ref (A (36 + i))])) ∧ C (36 + i) = some (.inr (3, [.ref (A (40 + i)), .int (nI n)])) ∧ C (40 + i) = some (.inl (E.2.1 4, 60, .inr (.inr (.inr (.inr f))))) ∧ ∀ j, j < n → f j = some (A (200 + g j))
theorem lx_q.same {E : wg_E} {A : Nat → Nat} {C C1 : wg_C} {r t N n o : Nat} (h : lx_q E A C r t N n o) (hC : C1 r = C r) : lx_q E A C1 r t N n o := by
  obtain ⟨f, h1, h2⟩ := h
  exact ⟨f, hC.trans h1, h2⟩
theorem lx_7.same {E : wg_E} {C C1 : wg_C} (h : lx_7 E C) (hC : C1 7 = C 7) : lx_7 E C1 := by
  obtain ⟨f, h1⟩ := h
  exact ⟨f, hC.trans h1⟩
theorem lx_8.same {E : wg_E} {A : Nat → Nat} {C C1 : wg_C} {lf : Nat → Int64} (h : lx_8 E A C lf) (hC : ∀ r, 8 ≤ r → r ≤ 10 → C1 r = C r) : lx_8 E A C1 lf := by
  obtain ⟨h1, h2, nd, h3, h4⟩ := h
  exact ⟨(hC 8 (by decide) (by decide)).trans h1, (hC 9 (by decide) (by decide)).trans h2, nd, (hC 10 (by decide) (by decide)).trans h3, h4⟩
theorem lx_p.same {E : wg_E} {A : Nat → Nat} {C C1 : wg_C} {a b : Nat} {va vb : Int64} {pn : Nat → Int64} (h : lx_p E A C a b va vb pn) (hC : ∀ r, 11 ≤ r → r ≤ 13 → C1 r = C r) : lx_p E A C1 a b va vb pn := by
  obtain ⟨h1, h2, rk, h3⟩ := h
  exact ⟨(hC 11 (by decide) (by decide)).trans h1, (hC 12 (by decide) (by decide)).trans h2, rk, (hC 13 (by decide) (by decide)).trans h3⟩
theorem lx_c.same {E : wg_E} {A : Nat → Nat} {C C1 : wg_C} {i n : Nat} {g : Nat → Nat} {co rb ra : Int32} (h : lx_c E A C i n g co rb ra) (hC : ∀ r, r = 20 + i ∨ r = 24 + i ∨ r = 28 + i → C1 r = C r) : lx_c E A C1 i n g co rb ra := by
  obtain ⟨f, h1, h2, h3, h4⟩ := h
  exact ⟨f, (hC _ (Or.inl rfl)).trans h1, (hC _ (Or.inr (Or.inl rfl))).trans h2, (hC _ (Or.inr (Or.inr rfl))).trans h3, h4⟩
theorem lx_g.same {E : wg_E} {A : Nat → Nat} {C C1 : wg_C} {i n : Nat} {g : Nat → Nat} (h : lx_g E A C i n g) (hC : ∀ r, r = 32 + i ∨ r = 36 + i ∨ r = 40 + i → C1 r = C r) : lx_g E A C1 i n g := by
  obtain ⟨f, h1, h2, h3, h4⟩ := h
  exact ⟨f, (hC _ (Or.inl rfl)).trans h1, (hC _ (Or.inr (Or.inl rfl))).trans h2, (hC _ (Or.inr (Or.inr rfl))).trans h3, h4⟩
def lx (E : wg_E) (A : Nat → Nat) (C : wg_C) (S : lc_S) : Prop :=
  lx_0 A C (lc_ns (st_B S)) ∧ lx_q E A C 1 3 16 (lc_ns (st_B S)) 100 ∧ lx_2 A C (lc_nh (st_B S)) ∧ lx_q E A C 3 4 60 (lc_nh (st_B S)) 200 ∧ lx_4 E C (st_tm S) ∧ lx_q E A C 5 5 4 4 20 ∧ lx_q E A C 6 6 4 4 32 ∧ lx_7 E C ∧ lx_8 E A C (st_lf S) ∧ lx_p E A C (st_pa S) (st_pb S) (st_va S) (st_vb S) (st_pn S) ∧ (∀ i, i < 4 → lx_c E A C i (st_cn S i) (st_cg S i) (st_co S i) (st_rb S i) (st_ra S i)) ∧ (∀ i, i < 4 → lx_g E A C i (st_gn S i) (st_gg S i)) ∧ lc_DB A C (st_B S)
/-! what the calls that change nothing answer -/
def op_digest (S : lc_S) (h : Int32) : Int64 := match lc_ix h (lc_nh (st_B S)) with
  | some j => lc_dig (st_B S) j
  | none => 0
def op_certified (S : lc_S) (h : Int32) : Int32 := match lc_ix h (lc_nh (st_B S)) with
  | some j => if lc_cert (st_B S) j then 1 else 0
  | none => -1
def op_overlaps (S : lc_S) (h w : Int32) : Int32 := match lc_ix h (lc_nh (st_B S)), lc_ix w (lc_ns (st_B S)) with
  | some j, some k => if lc_over (st_B S) (st_tm S) j k then 1 else 0
  | _, _ => -1
def op_stored (S : lc_S) (c k : Int32) : Int32 := match lc_ix c 4 with
  | some i => if k.toInt < -1 then -1 else if k.toInt = -1 then nI (st_cn S i) else (match lc_ix k (st_cn S i) with
    | some j => nI (st_cg S i j)
    | none => -2)
  | none => -1
def op_client (S : lc_S) (c w : Int32) : Int32 := match lc_ix c 4 with
  | some i => if w = 0 then st_co S i else if w = 1 then st_rb S i else if w = 2 then st_ra S i else -1
  | none => -1
def op_cmp (S : lc_S) (i k : Nat) : Option Nat := lc_lu (st_B S) (st_gg S i) (st_gn S k) (st_gg S k) (st_gn S i)
def op_compare (S : lc_S) (a b : Int32) : Int32 := match lc_ix a 4, lc_ix b 4 with
  | some i, some k => lc_I (op_cmp S i k)
  | _, _ => -1
/-- the head that a giver has at a height -/
def op_hat (S : lc_S) (i x : Nat) : Option Nat := (lc_pl (fun k => lc_hh (st_B S) (st_gg S i k)) x (st_gn S i)).map (st_gg S i)
def op_fit (S : lc_S) (t : Nat) (o : Option Nat) : Bool := match o with
  | some h => decide (lc_why (st_B S) (st_tm S) t h = 0)
  | none => false
def op_blame (S : lc_S) (c a b : Int32) : Int32 := match lc_ix c 4, lc_ix a 4, lc_ix b 4 with
  | some q, some i, some k => (match op_cmp S i k with
    | some x => (match lc_lb (st_B S) (st_cg S q) x (st_cn S q) with
      | some t => nI ((if op_fit S (st_cg S q t) (op_hat S i x) = true then 1 else 0) + (if op_fit S (st_cg S q t) (op_hat S k x) = true then 2 else 0))
      | none => -2)
    | none => -2)
  | _, _, _ => -1
def op_tree (S : lc_S) (k : Int32) : Int64 := if 1 ≤ k.toInt ∧ k.toInt < 16 then lc_node (st_lf S) k.toInt.toNat else 0
def op_proof (S : lc_S) (k : Int32) : Int64 := lc_num (st_pa S) (st_pb S) (st_va S) (st_vb S) (st_ct S) (st_pn S) k
def op_told (S : lc_S) (w : Int32) : Int32 := if w = 0 then nI (lc_ns (st_B S)) else if w = 1 then nI (lc_nh (st_B S)) else if 2 ≤ w.toInt ∧ w.toInt < 6 then nI (st_tm S (w.toInt.toNat - 2)) else -1
