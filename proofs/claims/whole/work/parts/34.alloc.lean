/-! new cells: what stood under their role before is forgotten -/
theorem wg_P.forget {E : wg_E} {A : Nat → Nat} {C : wg_C} {H : Heap} (h : wg_P E A C H) (r : Nat) : wg_P E A (va_up C r none) H := by
  obtain ⟨ws, hP, hD, hC, hI⟩ := h
  have key : ∀ r', va_up C r none r' ≠ none → r' ≠ r ∧ C r' ≠ none := by
    intro r' h
    by_cases q : r' = r
    · rw [q, va_up_self] at h; exact absurd rfl h
    · rw [va_up_ne _ _ q] at h; exact ⟨q, h⟩
  refine ⟨ws, hP, hD, fun r' e' h => ?_, fun r1 r2 h1 h2 h3 => hI r1 r2 (key r1 h1).2 (key r2 h2).2 h3⟩
  have hn : va_up C r none r' ≠ none := by rw [h]; exact fun z => by cases z
  rw [va_up_ne _ _ (key r' hn).1] at h
  exact hC r' e' h
section WGA
variable {p : Program} {l : Launch} {e : Env} {R : Room} {s : State} {m : MethodId} {args : Array Value} {below : List Frame} {meth : Method} {c : Code} {H : Heap} {locs : List Loc} {cells slots : Nat} {Q : State → Prop}
variable {cc : ByteArray} {pc nL : Nat} {ls : Array Slot} {rest st0 : List Value} {E : wg_E} {A : Nat → Nat} {C : wg_C} {own : String}
theorem wg_newF (F : wg_F p m c cc nL s args own E) (hP : wg_P E A C H) (hS : va_S (wg_A E) s.heap H locs) (r : Nat) {ci N index : Nat} {Cn : String} {T : u_T} {ty0 : Nat → FieldType} (fs : List Value) (hc : wg_cl[ci]? = some (Cn, T, N)) (hin : ∀ w ∈ u_ws Cn T N, w ∈ wg_T) (hty : ∀ k, k < N → parseFieldDescriptor (T k).2.2.1 = some (ty0 k)) (hcl : Cond.classLink own index Cn ∈ wg_T) (hinst : Cond.instantiable Cn N ∈ wg_T) (hini : Cond.initialized Cn ∈ wg_T) (hfs : ∀ j, j < N → defaultValue (ty0 j) = vp_V fs j) (hcells : cells + 1 ≤ R.cells) (hslots : slots + N ≤ R.slots) (hdg : decode cc pc = .ok (.new index, 3))
    (kk : ∀ (q : Nat) (H1 : Heap), wg_P E (va_up A r q) (va_up C r (some (.inr (ci, fs)))) H1 → va_S (wg_A E) s.heap H1 locs → W p l e R s m args below meth c H1 locs (cells + 1) (slots + N) Q (F0 m (pc + 3) ls (.ref q :: rest))) : W p l e R s m args below meth c H locs cells slots Q (F0 m pc ls rest) :=
  wg_new F (hP.forget r) hS r (va_up_self _ _ _) fs hc hin hty hcl hinst hini hfs hcells hslots hdg (fun q H1 h1 h2 => kk q H1 (by rw [bx_uu] at h1; exact h1) h2)
theorem wg_newaF (F : wg_F p m c cc nL s args own E) (hP : wg_P E A C H) (hS : va_S (wg_A E) s.heap H locs) (r : Nat) (t : Nat) {atype : ArrayType} (ht : (wg_tys E.2.1)[t]? = some (E.2.1 t, newarray.typeOf atype)) (hprim : ∀ (U : State) (cA : ClassId), va_RA U cA (newarray.typeOf atype) → U.vm.findClass ("[" ++ (newarray.typeOf atype).toString) = some cA) (harr : Cond.arrayClass (newarray.typeOf atype) ∈ wg_T) {n : Int32} {N' : Nat} {a0 : vp_A} (ha : ∀ cA : ClassId, vp_cell cA a0 = arrV cA N' (fun _ => defaultValue (newarray.typeOf atype))) (hn : ¬ n < 0) (hN' : n.toNatClampNeg = N') (hbytes : N' * componentBytes (newarray.typeOf atype) ≤ 536870912) (hcells : cells + 1 ≤ R.cells) (hslots : slots + N' ≤ R.slots) (hdg : decode cc pc = .ok (.newarray atype, 2))
    (kk : ∀ (q : Nat) (H1 : Heap), wg_P E (va_up A r q) (va_up C r (some (.inl (E.2.1 t, a0)))) H1 → va_S (wg_A E) s.heap H1 locs → W p l e R s m args below meth c H1 locs (cells + 1) (slots + N') Q (F0 m (pc + 2) ls (.ref q :: rest))) : W p l e R s m args below meth c H locs cells slots Q (F0 m pc ls (.int n :: rest)) :=
  wg_newa F (hP.forget r) hS r (va_up_self _ _ _) t ht hprim harr ha hn hN' hbytes hcells hslots hdg (fun q H1 h1 h2 => kk q H1 (by rw [bx_uu] at h1; exact h1) h2)
theorem wg_newqF (F : wg_F p m c cc nL s args own E) (hP : wg_P E A C H) (hS : va_S (wg_A E) s.heap H locs) (r : Nat) (t : Nat) {Cn : String} {index : Nat} (ht : (wg_tys E.2.1)[t]? = some (E.2.1 t, .object Cn)) (hcl : Cond.classLink own index Cn ∈ wg_T) (hover : Cond.arrayOver (.object Cn) ∈ wg_N) {n : Int32} {N' : Nat} (hn : ¬ n < 0) (hN' : n.toNatClampNeg = N') (hbytes : N' * 4 ≤ 536870912) (hcells : cells + 1 ≤ R.cells) (hslots : slots + N' ≤ R.slots) (hdg : decode cc pc = .ok (.anewarray index, 3))
    (kk : ∀ (q : Nat) (H1 : Heap), wg_P E (va_up A r q) (va_up C r (some (.inl (E.2.1 t, N', .inr (.inr (.inr (.inr (fun _ => none)))))))) H1 → va_S (wg_A E) s.heap H1 locs → W p l e R s m args below meth c H1 locs (cells + 1) (slots + N') Q (F0 m (pc + 3) ls (.ref q :: rest))) : W p l e R s m args below meth c H locs cells slots Q (F0 m pc ls (.int n :: rest)) :=
  wg_newq F (hP.forget r) hS r (va_up_self _ _ _) t ht hcl hover hn hN' hbytes hcells hslots hdg (fun q H1 h1 h2 => kk q H1 (by rw [bx_uu] at h1; exact h1) h2)
end WGA
