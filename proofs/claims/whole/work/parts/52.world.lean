theorem lw_Nw {s : State} {b : Nat} (hts : ∀ w ∈ lw_tbl, w.before #[Value.ref b] s = true) : ∀ w ∈ wg_N, va_Nw w s := by
  intro w hw
  have hm := List.mem_filter.mp hw
  have h := hts w (List.mem_append_right _ hm.1)
  match w, hm.2, h with
  | .fieldLinkNest .., _, h => exact va_Nw.of rfl h
  | .methodLinkNest .., _, h => exact va_Nw.of rfl h
  | .arrayOver (.object _), _, h => exact va_AO.of h
theorem lw_arr {args : Array Value} {s : State} {ty : FieldType} (hp : ∀ cA : ClassId, s.vm.findClass ("[" ++ ty.toString) = some cA → va_RA s cA ty) (h : (Cond.arrayClass ty).before args s = true) : ∃ cA : ClassId, ArrOfT s cA ty ∧ va_RA s cA ty := by
  obtain ⟨cA, kA, comp, hf, hk, hkind⟩ := Cond.arrayClass_spec h
  exact ⟨cA, fun n z => ⟨fun k h => (by cases h), kA, hk, comp, hkind⟩, hp cA hf⟩
theorem lw_over {s : State} {C : String} (h : va_AO C s) : ∃ cA : ClassId, ArrOfT s cA (.object C) ∧ va_RA s cA (.object C) := by
  obtain ⟨comp, c, k, h1, h2, h3, h4, h5⟩ := Cond.arrayOver_spec h
  exact ⟨c, fun n z => ⟨fun k h => (by cases h), k, h3, comp, h4⟩, k, comp, h3, h4, h1, h5⟩
theorem lw_K {s : State} {b : Nat} (hts : ∀ w ∈ lw_tbl, w.before #[Value.ref b] s = true) : ∃ (D : va_G) (kA : Nat → ClassId), va_K D wg_cl (wg_tys kA) s := by
  have hT : ∀ w ∈ wg_T, w.before #[Value.ref b] s = true := fun w h => hts w (List.mem_filter.mp h).1
  have hN := lw_Nw hts
  obtain ⟨c0, i0, h0⟩ := u_known (C := RX0) (T := TX0) (N := 4) (n := 4) hT iw_X0 (hT _ tb_105)
  obtain ⟨c1, i1, h1⟩ := u_known (C := RX1) (T := TX1) (N := 1) (n := 1) hT iw_X1 (hT _ tb_129)
  obtain ⟨c2, i2, h2⟩ := u_known (C := RX2) (T := TX2) (N := 8) (n := 8) hT iw_X2 (hT _ tb_240)
  obtain ⟨c3, i3, h3⟩ := u_known (C := RX3) (T := TX3) (N := 2) (n := 2) hT iw_X3 (hT _ tb_22)
  obtain ⟨c4, i4, h4⟩ := u_known (C := RX4) (T := TX4) (N := 7) (n := 7) hT iw_X4 (hT _ tb_77)
  obtain ⟨c5, i5, h5⟩ := u_known (C := RX5) (T := TX5) (N := 2) (n := 2) hT iw_X5 (hT _ tb_47)
  obtain ⟨c6, i6, h6⟩ := u_known (C := RX6) (T := TX6) (N := 4) (n := 4) hT iw_X6 (hT _ tb_201)
  obtain ⟨c7, i7, h7⟩ := u_known (C := RX7) (T := TX7) (N := 9) (n := 9) hT iw_X7 (hT _ tb_12)
  obtain ⟨c8, i8, h8⟩ := u_known (C := RX8) (T := TX8) (N := 29) (n := 29) hT iw_X8 (hT _ tb_522)
  obtain ⟨a0, b0⟩ := lw_arr (ty := .int) (fun cA h => h) (hT _ tb_74)
  obtain ⟨a1, b1⟩ := lw_arr (ty := .long) (fun cA h => h) (hT _ tb_75)
  obtain ⟨a2, b2⟩ := lw_arr (ty := .boolean) (fun cA h => h) (hT _ tb_637)
  obtain ⟨a3, b3⟩ := lw_over (C := "LightChecks$WeightSet") (hN _ nb_20)
  obtain ⟨a4, b4⟩ := lw_over (C := "LightChecks$Head") (hN _ nb_31)
  obtain ⟨a5, b5⟩ := lw_over (C := "LightChecks$Client") (hN _ nb_43)
  obtain ⟨a6, b6⟩ := lw_over (C := "LightChecks$Giver") (hN _ nb_45)
  refine ⟨(fun k => if k = 0 then c0 else if k = 1 then c1 else if k = 2 then c2 else if k = 3 then c3 else if k = 4 then c4 else if k = 5 then c5 else if k = 6 then c6 else if k = 7 then c7 else c8, fun k => if k = 0 then i0 else if k = 1 then i1 else if k = 2 then i2 else if k = 3 then i3 else if k = 4 then i4 else if k = 5 then i5 else if k = 6 then i6 else if k = 7 then i7 else i8), fun k => if k = 0 then a0 else if k = 1 then a1 else if k = 2 then a2 else if k = 3 then a3 else if k = 4 then a4 else if k = 5 then a5 else a6, fun k q hq => ?_, fun k q hq => ?_⟩
  · match k, hq with
    | 0, hq => cases hq; exact h0
    | 1, hq => cases hq; exact h1
    | 2, hq => cases hq; exact h2
    | 3, hq => cases hq; exact h3
    | 4, hq => cases hq; exact h4
    | 5, hq => cases hq; exact h5
    | 6, hq => cases hq; exact h6
    | 7, hq => cases hq; exact h7
    | 8, hq => cases hq; exact h8
    | k + 9, hq => exact absurd (List.getElem?_eq_some_iff.mp hq).1 (by show ¬ k + 9 < 9; omega)
  · match k, hq with
    | 0, hq => cases hq; exact b0
    | 1, hq => cases hq; exact b1
    | 2, hq => cases hq; exact b2
    | 3, hq => cases hq; exact b3
    | 4, hq => cases hq; exact b4
    | 5, hq => cases hq; exact b5
    | 6, hq => cases hq; exact b6
    | k + 7, hq => exact absurd (List.getElem?_eq_some_iff.mp hq).1 (by show ¬ k + 7 < 7; omega)
theorem lw_wg_lo {s : State} {b : Nat} (hts : ∀ w ∈ lw_tbl, w.before #[Value.ref b] s = true) (hg : (Jvm.Cond.and given_1 narrow_1).before #[Value.ref b] s = true) : ∃ t : Nat, va_Z "LightChecks" "LEAST_TERM" "[I" (.ref t) (fun q => s.heap.size ≤ q) s s.heap ∧ va_T .int t 4 wg_lo (fun q => s.heap.size ≤ q) s s.heap := by
  have hs := flat_of_before _ hg
  have hA : ∀ a : Nat, a < s.heap.size → ¬ (fun q => s.heap.size ≤ q) a := fun a h => Nat.not_le.mpr h
  have hl : (Cond.laysStatic "LightChecks" "LEAST_TERM" "[I").before #[Value.ref b] s = true := hts _ (List.mem_append_right _ (List.mem_append_right _ (List.mem_append_left _ (List.mem_of_getElem? (i := 60) rfl))))
  have hel : ∀ j : Nat, j < 4 → (Term.elem (.static "LightChecks" "LEAST_TERM" "[I") (.int (Int32.ofNat j))).eval #[Value.ref b] s none [] s = some (wg_lo j) := by
    intro j hj
    match j, hj with
    | 0, _ => exact va_eqt (hs (Cond.eq (.elem (.static "LightChecks" "LEAST_TERM" "[I") (.int 0)) (.int 1)) (by decide +kernel))
    | 1, _ => exact va_eqt (hs (Cond.eq (.elem (.static "LightChecks" "LEAST_TERM" "[I") (.int 1)) (.int 1)) (by decide +kernel))
    | 2, _ => exact va_eqt (hs (Cond.eq (.elem (.static "LightChecks" "LEAST_TERM" "[I") (.int 2)) (.int 1)) (by decide +kernel))
    | 3, _ => exact va_eqt (hs (Cond.eq (.elem (.static "LightChecks" "LEAST_TERM" "[I") (.int 3)) (.int 2)) (by decide +kernel))
  obtain ⟨t, ht, hT⟩ := va_Tof (tm := (.static "LightChecks" "LEAST_TERM" "[I")) (ty := .int) (N := 4) (f := wg_lo) (A := fun q => s.heap.size ≤ q) (by decide) (hs (Cond.arrayOf (.static "LightChecks" "LEAST_TERM" "[I") .int) (by decide +kernel)) (va_eqt (hs (Cond.eq (.length (.static "LightChecks" "LEAST_TERM" "[I")) (.int 4)) (by decide +kernel))) hel hA
  exact ⟨t, va_Zref hl (hts _ (List.mem_filter.mp tb_1).1) ht hA, hT⟩
theorem lw_wg_hi {s : State} {b : Nat} (hts : ∀ w ∈ lw_tbl, w.before #[Value.ref b] s = true) (hg : (Jvm.Cond.and given_1 narrow_1).before #[Value.ref b] s = true) : ∃ t : Nat, va_Z "LightChecks" "GREATEST_TERM" "[I" (.ref t) (fun q => s.heap.size ≤ q) s s.heap ∧ va_T .int t 4 wg_hi (fun q => s.heap.size ≤ q) s s.heap := by
  have hs := flat_of_before _ hg
  have hA : ∀ a : Nat, a < s.heap.size → ¬ (fun q => s.heap.size ≤ q) a := fun a h => Nat.not_le.mpr h
  have hl : (Cond.laysStatic "LightChecks" "GREATEST_TERM" "[I").before #[Value.ref b] s = true := hts _ (List.mem_append_right _ (List.mem_append_right _ (List.mem_append_left _ (List.mem_of_getElem? (i := 62) rfl))))
  have hel : ∀ j : Nat, j < 4 → (Term.elem (.static "LightChecks" "GREATEST_TERM" "[I") (.int (Int32.ofNat j))).eval #[Value.ref b] s none [] s = some (wg_hi j) := by
    intro j hj
    match j, hj with
    | 0, _ => exact va_eqt (hs (Cond.eq (.elem (.static "LightChecks" "GREATEST_TERM" "[I") (.int 0)) (.int 10)) (by decide +kernel))
    | 1, _ => exact va_eqt (hs (Cond.eq (.elem (.static "LightChecks" "GREATEST_TERM" "[I") (.int 1)) (.int 10)) (by decide +kernel))
    | 2, _ => exact va_eqt (hs (Cond.eq (.elem (.static "LightChecks" "GREATEST_TERM" "[I") (.int 2)) (.int 1000)) (by decide +kernel))
    | 3, _ => exact va_eqt (hs (Cond.eq (.elem (.static "LightChecks" "GREATEST_TERM" "[I") (.int 3)) (.int 10)) (by decide +kernel))
  obtain ⟨t, ht, hT⟩ := va_Tof (tm := (.static "LightChecks" "GREATEST_TERM" "[I")) (ty := .int) (N := 4) (f := wg_hi) (A := fun q => s.heap.size ≤ q) (by decide) (hs (Cond.arrayOf (.static "LightChecks" "GREATEST_TERM" "[I") .int) (by decide +kernel)) (va_eqt (hs (Cond.eq (.length (.static "LightChecks" "GREATEST_TERM" "[I")) (.int 4)) (by decide +kernel))) hel hA
  exact ⟨t, va_Zref hl (hts _ (List.mem_filter.mp tb_1).1) ht hA, hT⟩
/-- the world at the law's entry: nothing is there yet -/
theorem lw_world {p : Program} {s : State} {m : MethodId} {meth : Method} {c : Code} {b L : Nat} {xs : Nat → Int32} (C0 : lw_At p s m meth c b L xs) : ∃ E : wg_E, E.2.2.1 = s.heap.size ∧ wg_F p m c cL_law 4 s #[Value.ref b] R_law E ∧ wg_P E (fun _ => 0) (fun _ => none) s.heap := by
  obtain ⟨hx, hb, hr, hml, hown, hts, hX, hbl, hlocks, hgv⟩ := C0
  obtain ⟨D, kA, hK⟩ := lw_K hts
  obtain ⟨t1, z1, y1⟩ := lw_wg_lo hts hgv
  obtain ⟨t2, z2, y2⟩ := lw_wg_hi hts hgv
  refine ⟨(D, kA, s.heap.size, t1, t2), rfl, ⟨hx, hb, hml, hown, fun w h => hts w (List.mem_filter.mp h).1, ⟨hK, lw_Nw hts, z1, y1, z2, y2⟩, Nat.le_refl _⟩, ?_⟩
  exact ⟨[], fun k q h => by simp at h, ⟨fun i j p q h => by simp at h, fun k q h => by simp at h⟩, fun r e h => (by cases h), fun r r' h => absurd rfl h⟩
