/-! THE WORLD BY ROLES: every cell of the two systems has a role (a number); A gives its address, C what it holds. -/
abbrev wg_C : Type := Nat → Option va_E
/-- class ids and slots; the array classes; the first address of the law's own cells; the addresses of the two tables -/
abbrev wg_E : Type := va_G × (Nat → ClassId) × Nat × Nat × Nat
def wg_A (E : wg_E) : Nat → Prop := fun q => E.2.2.1 ≤ q
def wg_P (E : wg_E) (A : Nat → Nat) (C : wg_C) (H : Heap) : Prop :=
  ∃ ws : va_W, va_P E.1 wg_cl ws H ∧ va_D (wg_A E) ws ∧ (∀ (r : Nat) (e : va_E), C r = some e → ∃ k : Nat, ws[k]? = some (A r, e)) ∧ ∀ r r' : Nat, C r ≠ none → C r' ≠ none → A r = A r' → r = r'
theorem wg_P.at {E : wg_E} {A : Nat → Nat} {C : wg_C} {H : Heap} (h : wg_P E A C H) {r : Nat} {e : va_E} (hr : C r = some e) : va_P E.1 wg_cl [(A r, e)] H := by
  obtain ⟨ws, hP, -, hC, -⟩ := h
  obtain ⟨k, hk⟩ := hC r e hr
  intro j q hj
  have hz : j < 1 := (List.getElem?_eq_some_iff.mp hj).1
  rw [show j = 0 by omega] at hj
  cases hj
  exact hP k _ hk
/-- a cell of the world is written -/
theorem wg_P.set {E : wg_E} {A : Nat → Nat} {C : wg_C} {ws : va_W} {r k : Nat} {e0 e : va_E} {H1 : Heap} (hC : ∀ (r : Nat) (e : va_E), C r = some e → ∃ k : Nat, ws[k]? = some (A r, e)) (hI : ∀ r r' : Nat, C r ≠ none → C r' ≠ none → A r = A r' → r = r') (hD0 : va_D (wg_A E) ws) (hr : C r = some e0) (hk : ws[k]? = some (A r, e0)) (hP : va_P E.1 wg_cl (ws.set k (A r, e)) H1) (hD : va_D (wg_A E) (ws.set k (A r, e))) : wg_P E A (va_up C r (some e)) H1 := by
  have hl : k < ws.length := (List.getElem?_eq_some_iff.mp hk).1
  have hn : ∀ r', va_up C r (some e) r' ≠ none → C r' ≠ none := by
    intro r' h
    by_cases q : r' = r
    · rw [q, hr]; exact fun h => by cases h
    · rwa [va_up_ne _ _ q] at h
  refine ⟨_, hP, hD, fun r' e' h => ?_, fun r1 r2 h1 h2 h3 => hI r1 r2 (hn r1 h1) (hn r2 h2) h3⟩
  by_cases q : r' = r
  · subst q
    rw [va_up_self] at h
    cases h
    exact ⟨k, by rw [List.getElem?_set_self hl]⟩
  · rw [va_up_ne _ _ q] at h
    obtain ⟨k', hk'⟩ := hC r' e' h
    refine ⟨k', ?_⟩
    rw [List.getElem?_set_ne (fun z => ?_)]
    · exact hk'
    · subst z
      rw [hk] at hk'
      have h2 := Option.some.inj hk'
      exact q (hI r' r (by rw [h]; exact fun h => by cases h) (by rw [hr]; exact fun h => by cases h) (congrArg Prod.fst h2).symm)
/-- a new cell, with a role that nothing had -/
theorem wg_P.push {E : wg_E} {A : Nat → Nat} {C : wg_C} {ws : va_W} {r q : Nat} {e : va_E} {H1 : Heap} (hC : ∀ (r : Nat) (e : va_E), C r = some e → ∃ k : Nat, ws[k]? = some (A r, e)) (hI : ∀ r r' : Nat, C r ≠ none → C r' ≠ none → A r = A r' → r = r') (hP : va_P E.1 wg_cl (ws ++ [(q, e)]) H1) (hD : va_D (wg_A E) (ws ++ [(q, e)])) (hr : C r = none) : wg_P E (va_up A r q) (va_up C r (some e)) H1 := by
  have hlast : (ws ++ [(q, e)])[ws.length]? = some (q, e) := by rw [List.getElem?_append_right (Nat.le_refl _), Nat.sub_self]; rfl
  have old : ∀ (r' : Nat) (e' : va_E), r' ≠ r → C r' = some e' → ∃ k : Nat, k < ws.length ∧ (ws ++ [(q, e)])[k]? = some (A r', e') := by
    intro r' e' _ h
    obtain ⟨k, hk⟩ := hC r' e' h
    have hl := (List.getElem?_eq_some_iff.mp hk).1
    exact ⟨k, hl, by rw [List.getElem?_append_left hl]; exact hk⟩
  have apart : ∀ r', r' ≠ r → C r' ≠ none → A r' ≠ q := by
    intro r' h1 h2 h3
    obtain ⟨e', he'⟩ := Option.ne_none_iff_exists'.mp h2
    obtain ⟨k, hl, hk⟩ := old r' e' h1 he'
    have := hD.1 k ws.length _ _ hk hlast h3
    omega
  refine ⟨_, hP, hD, fun r' e' h => ?_, fun r1 r2 h1 h2 h3 => ?_⟩
  · by_cases z : r' = r
    · subst z
      rw [va_up_self] at h ⊢
      cases h
      exact ⟨_, hlast⟩
    · rw [va_up_ne _ _ z] at h ⊢
      obtain ⟨k, -, hk⟩ := old r' e' z h
      exact ⟨k, hk⟩
  · by_cases z1 : r1 = r
    · by_cases z2 : r2 = r
      · rw [z1, z2]
      · rw [va_up_ne _ _ z2] at h2 h3
        rw [z1, va_up_self] at h3
        exact absurd h3.symm (apart r2 z2 h2)
    · rw [va_up_ne _ _ z1] at h1 h3
      by_cases z2 : r2 = r
      · rw [z2, va_up_self] at h3
        exact absurd h3 (apart r1 z1 h1)
      · rw [va_up_ne _ _ z2] at h2 h3
        exact hI r1 r2 h1 h2 h3
/-- array classes that the two systems use, by their places -/
def wg_tys (kA : Nat → ClassId) : List (ClassId × FieldType) := [(kA 0, .int), (kA 1, .long), (kA 2, .boolean), (kA 3, .object "LightChecks$WeightSet"), (kA 4, .object "LightChecks$Head"), (kA 5, .object "LightChecks$Client"), (kA 6, .object "LightChecks$Giver")]
theorem wg_N_warm {w : Cond} (hw : w ∈ wg_N) {s U : State} (hW : s.WarmedH U.vm) (h : va_Nw w s) : va_Nw w U := by
  have hk := (List.mem_filter.mp hw).2
  match w, hk, h with
  | .fieldLinkNest .., _, h => exact va_Nw.warmF hW h
  | .methodLinkNest .., _, h => exact va_Nw.warmM hW h
  | .arrayOver (.object _), _, h => exact va_AO.moved hW.alike h
theorem wg_N_same {w : Cond} (hw : w ∈ wg_N) {u U : State} (he : u.vm = U.vm) (h : va_Nw w u) : va_Nw w U := by
  have hk := (List.mem_filter.mp hw).2
  match w, hk, h with
  | .fieldLinkNest .., _, h => exact va_Nw.same rfl he h
  | .methodLinkNest .., _, h => exact va_Nw.same rfl he h
  | .arrayOver (.object _), _, h => exact va_AO.moved (by rw [he]; exact Vm.Alike.refl _) h
/-- the two tables of the class: the least and the greatest of each TERM -/
def wg_lo : Nat → Value := fun k => .int (if k = 3 then 2 else 1)
def wg_hi : Nat → Value := fun k => .int (if k = 2 then 1000 else 10)
def wg_Z (E : wg_E) (U : State) (H : Heap) : Prop := va_Z "LightChecks" "LEAST_TERM" "[I" (.ref E.2.2.2.1) (wg_A E) U H ∧ va_T .int E.2.2.2.1 4 wg_lo (wg_A E) U H ∧ va_Z "LightChecks" "GREATEST_TERM" "[I" (.ref E.2.2.2.2) (wg_A E) U H ∧ va_T .int E.2.2.2.2 4 wg_hi (wg_A E) U H
theorem wg_Z.moved {E : wg_E} {u U : State} {H : Heap} (hvm : u.vm.Alike U.vm) (h : wg_Z E u H) : wg_Z E U H := ⟨va_Z.moved hvm h.1, va_T.moved hvm h.2.1, va_Z.moved hvm h.2.2.1, va_T.moved hvm h.2.2.2⟩
theorem wg_Z.kept {E : wg_E} {U : State} {H H1 : Heap} (h : wg_Z E U H) (hq : ∀ a : Nat, a < H.size → ¬ wg_A E a → H1[a]? = H[a]?) : wg_Z E U H1 := ⟨h.1.kept hq, h.2.1.kept hq, h.2.2.1.kept hq, h.2.2.2.kept hq⟩
/-- the words that every method of ours is met under: its own code, and the tables -/
def wg_ws (y : MethodName) (cc : ByteArray) (n : Nat) (ret : Option FieldType) : List Cond := Cond.code y cc n ret :: wg_T
def wg_rm (d mc ms : Nat) : Room := { frames := d, cells := mc, slots := ms, locals := 40 * d }
/-- what the tables and the statics say at a state -/
def wg_K (E : wg_E) (U : State) (H : Heap) : Prop :=
  va_K E.1 wg_cl (wg_tys E.2.1) U ∧ (∀ w ∈ wg_N, va_Nw w U) ∧ wg_Z E U H
def wg_U (E : wg_E) (A : Nat → Nat) (C : wg_C) (U : State) : Prop := E.2.2.1 ≤ U.heap.size ∧ wg_P E A C U.heap ∧ wg_K E U U.heap
theorem wg_K.next {E : wg_E} {s U : State} {H : Heap} {locs : List Loc} (h : wg_K E s s.heap) (hS : va_S (wg_A E) s.heap H locs) (hU : U.heap = H) (hW : s.WarmedH U.vm) : wg_K E U U.heap := by
  obtain ⟨h1, h2, h3⟩ := h
  refine ⟨va_K.moved hW.alike h1, fun w hw => wg_N_warm hw hW (h2 w hw), ?_⟩
  rw [hU]
  exact (wg_Z.moved hW.alike h3).kept hS.2.1
theorem wg_K.blind {E : wg_E} {U : State} {g : JFrame} {mk : MethodId} {a : Array Value} (h : wg_K E U U.heap) : wg_K E (U.calling g mk a) (U.calling g mk a).heap := by
  obtain ⟨h1, h2, h3⟩ := h
  exact ⟨va_K.moved (u := U) (U := U.calling g mk a) (Vm.Alike.refl U.vm) h1, fun w hw => wg_N_same hw (u := U) (U := U.calling g mk a) rfl (h2 w hw), wg_Z.moved (u := U) (U := U.calling g mk a) (Vm.Alike.refl U.vm) h3⟩
def wg_Pc (E : wg_E) (A : Nat → Nat) (C : wg_C) (av : List Value) : Array Value → State → Prop := va_Pc av (fun U => wg_U E A C U)
theorem wg_Pc.blind {E : wg_E} {A : Nat → Nat} {C : wg_C} {av : List Value} : FrameBlind (wg_Pc E A C av) := by
  intro a U g mk h
  obtain ⟨h1, h2, h3, h4⟩ := h
  exact ⟨h1, h2, h3, wg_K.blind h4⟩
def wg_Qi (E : wg_E) (post : Int32 → (Nat → Nat) → wg_C → Prop) : Array Value → State → Outcome → State → Prop := va_Qi (S := (Nat → Nat) × wg_C) (fun r u => post r u.1 u.2) (fun u t => wg_U E u.1 u.2 t) (wg_A E)
def wg_Ql (E : wg_E) (post : Int64 → (Nat → Nat) → wg_C → Prop) : Array Value → State → Outcome → State → Prop := va_Ql (S := (Nat → Nat) × wg_C) (fun r u => post r u.1 u.2) (fun u t => wg_U E u.1 u.2 t) (wg_A E)
def wg_Qv (E : wg_E) (post : (Nat → Nat) → wg_C → Prop) : Array Value → State → Outcome → State → Prop := va_Qv (S := (Nat → Nat) × wg_C) (fun u => post u.1 u.2) (fun u t => wg_U E u.1 u.2 t) (wg_A E)
def wg_Qq (E : wg_E) (post : Option Nat → (Nat → Nat) → wg_C → Prop) : Array Value → State → Outcome → State → Prop := va_Qq (S := (Nat → Nat) × wg_C) (fun r u => post r u.1 u.2) (fun u t => wg_U E u.1 u.2 t) (wg_A E)
/-- what a walk of a method's body stands on -/
def wg_F (p : Program) (m : MethodId) (c : Code) (cc : ByteArray) (nL : Nat) (s : State) (args : Array Value) (own : String) (E : wg_E) : Prop :=
  p.tables.exec = Jvm.exec ∧ c.code = cc ∧ c.maxLocals = nL ∧ s.vm.findClass own = some m.cls ∧ (∀ w ∈ wg_T, w.before args s = true) ∧ wg_K E s s.heap ∧ E.2.2.1 ≤ s.heap.size
theorem wg_met {l : Launch} {y : MethodName} {cc : ByteArray} {nL : Nat} {ret : Option FieldType} {rm : Room} {E : wg_E} {A : Nat → Nat} {C : wg_C} {av : List Value} {Qc : Array Value → State → Outcome → State → Prop} {mc ms : Nat} (hy : plainName y.cls = true) (hlen : (lg_sl av).length ≤ nL)
    (body : ∀ (p : Program) (e : Env) (s : State) (m : MethodId) (below : List Frame) (meth : Method) (c : Code) (ls : Array Slot), wg_F p m c cc nL s av.toArray y.cls E → meth.sig.returnType = ret → meth.locks = false → meth.name = y.name → wg_P E A C s.heap → va_S (wg_A E) s.heap s.heap [] → lv_has ls nL (lv_args 0 av) →
      W p l e rm s m av.toArray below meth c s.heap [] 0 0 (MQ below Qc av.toArray s mc ms (wg_A E)) (F0 m 0 ls [])) : Met l y (wg_ws y cc nL ret) rm (wg_Pc E A C av) Qc mc ms (wg_A E) := by
  refine Met.ofW (cc := cc) (maxL := nL) (ret := ret) hy rfl ?_
  intro p e s m args below meth c s₁ B hml hv
  obtain ⟨rfl, hz, hP, hK⟩ := hv
  have hts := atoms_spec (ws := wg_ws y cc nL ret) B.pre
  have hl := lv_entry av (n := nL) hlen
  rw [lg_entry_eq]
  exact body p e s m below meth c _ ⟨B.exec, B.bytes, hml, findClass_of_methodNamed B.named, fun w h => hts w (List.mem_cons_of_mem _ h), hK, hz⟩ B.returns B.notSynchronized (name_of_methodNamed B.named B.method).1 hP va_S.rf hl
section WG
variable {p : Program} {l : Launch} {e : Env} {R : Room} {s : State} {m : MethodId} {args : Array Value} {below : List Frame} {meth : Method} {c : Code} {H : Heap} {locs : List Loc} {cells slots : Nat} {Q : State → Prop}
variable {cc : ByteArray} {pc nL : Nat} {ls : Array Slot} {rest st0 : List Value} {E : wg_E} {A : Nat → Nat} {C : wg_C} {own : String}
theorem wg_U.of (F : wg_F p m c cc nL s args own E) (hP : wg_P E A C H) (hS : va_S (wg_A E) s.heap H locs) {U : State} (hU : U.heap = H) (hW : s.WarmedH U.vm) : wg_U E A C U := by
  obtain ⟨-, -, -, -, -, hK, hz⟩ := F
  exact ⟨by rw [hU]; exact Nat.le_trans hz hS.1, by rw [hU]; exact hP, hK.next hS hU hW⟩
-- the ends
theorem wg_iret {post : Int32 → (Nat → Nat) → wg_C → Prop} {v : Int32} (F : wg_F p m c cc nL s args own E) (hP : wg_P E A C H) (hS : va_S (wg_A E) s.heap H locs) (hr : meth.sig.returnType = some .int) (hlk : meth.locks = false) (h : post v A C) (hdg : decode cc pc = .ok (.ireturn, 1)) : W p l e R s m args below meth c H locs cells slots (MQ below (wg_Qi E post) args s cells slots (wg_A E)) (F0 m pc ls [.int v]) :=
  W.iret F.1 F.2.1 hr (fun t ht hW => ⟨⟨v, (A, C), rfl, h, wg_U.of F hP hS ht hW⟩, hS.F ht⟩) hS.2.2 hdg hlk
theorem wg_zret {post : Int32 → (Nat → Nat) → wg_C → Prop} {v : Int32} (F : wg_F p m c cc nL s args own E) (hP : wg_P E A C H) (hS : va_S (wg_A E) s.heap H locs) (hr : meth.sig.returnType = some .boolean) (hlk : meth.locks = false) (hv : v = 0 ∨ v = 1) (h : post v A C) (hdg : decode cc pc = .ok (.ireturn, 1)) : W p l e R s m args below meth c H locs cells slots (MQ below (wg_Qi E post) args s cells slots (wg_A E)) (F0 m pc ls [.int v]) :=
  W.zret F.1 F.2.1 hr (by rcases hv with rfl | rfl <;> rfl) (fun t ht hW => ⟨⟨v, (A, C), rfl, h, wg_U.of F hP hS ht hW⟩, hS.F ht⟩) hS.2.2 hdg hlk
theorem wg_lret {post : Int64 → (Nat → Nat) → wg_C → Prop} {v : Int64} (F : wg_F p m c cc nL s args own E) (hP : wg_P E A C H) (hS : va_S (wg_A E) s.heap H locs) (hr : meth.sig.returnType = some .long) (hlk : meth.locks = false) (h : post v A C) (hdg : decode cc pc = .ok (.lreturn, 1)) : W p l e R s m args below meth c H locs cells slots (MQ below (wg_Ql E post) args s cells slots (wg_A E)) (F0 m pc ls [.long v]) :=
  W.lret F.1 F.2.1 hr (fun t ht hW => ⟨⟨v, (A, C), rfl, h, wg_U.of F hP hS ht hW⟩, hS.F ht⟩) hS.2.2 hdg hlk
theorem wg_vret {post : (Nat → Nat) → wg_C → Prop} (F : wg_F p m c cc nL s args own E) (hP : wg_P E A C H) (hS : va_S (wg_A E) s.heap H locs) (hr : meth.sig.returnType = none) (hlk : meth.locks = false) (h : post A C) (hdg : decode cc pc = .ok (.return_, 1)) : W p l e R s m args below meth c H locs cells slots (MQ below (wg_Qv E post) args s cells slots (wg_A E)) (F0 m pc ls []) :=
  W.vret F.1 F.2.1 hr (fun t ht hW => ⟨⟨(A, C), rfl, h, wg_U.of F hP hS ht hW⟩, hS.F ht⟩) hS.2.2 hdg hlk
theorem wg_qret {post : Option Nat → (Nat → Nat) → wg_C → Prop} {v : Option Nat} {rt : FieldType} (F : wg_F p m c cc nL s args own E) (hP : wg_P E A C H) (hS : va_S (wg_A E) s.heap H locs) (hr : meth.sig.returnType = some rt) (hrt : ∃ n, rt = .object n) (hlk : meth.locks = false) (h : post v A C) (hdg : decode cc pc = .ok (.areturn, 1)) : W p l e R s m args below meth c H locs cells slots (MQ below (wg_Qq E post) args s cells slots (wg_A E)) (F0 m pc ls [va_rf v]) :=
  W.aret F.1 F.2.1 hr (Or.inl hrt) (va_rf_or v) (fun t ht hW => ⟨⟨v, (A, C), rfl, h, wg_U.of F hP hS ht hW⟩, hS.F ht⟩) hS.2.2 hdg hlk
end WG
section WGR
variable {p : Program} {l : Launch} {e : Env} {R : Room} {s : State} {m : MethodId} {args : Array Value} {below : List Frame} {meth : Method} {c : Code} {H : Heap} {locs : List Loc} {cells slots : Nat} {Q : State → Prop}
variable {cc : ByteArray} {pc nL : Nat} {ls : Array Slot} {rest st0 : List Value} {E : wg_E} {A : Nat → Nat} {C : wg_C} {own : String}
-- fields
theorem wg_get (F : wg_F p m c cc nL s args own E) (hP : wg_P E A C H) {r ci N index : Nat} {Cn : String} {T : u_T} {fs : List Value} (he : C r = some (.inr (ci, fs))) (hc : wg_cl[ci]? = some (Cn, T, N)) (hin : ∀ w ∈ u_ws Cn T N, w ∈ wg_T) (k : Nat) (hk : k < N) {nm ds : String} (hl : Cond.fieldLink own index Cn nm ds ∈ wg_T) (hT : T k = (Cn, nm, ds, (T k).2.2.2)) {v : Value} (hv : fs[k]? = some v) (hdg : decode cc pc = .ok (.getfield index, 3))
    (kk : W p l e R s m args below meth c H locs cells slots Q (F0 m (pc + 3) ls (v :: rest))) : W p l e R s m args below meth c H locs cells slots Q (F0 m pc ls (.ref (A r) :: rest)) := by
  obtain ⟨hx, hb, hml, hown, hts, ⟨hK, hN, hZ⟩, hz⟩ := F
  have h1 : (T k).1 = Cn := by rw [hT]
  have h2 : (T k).2.1 = nm := by rw [hT]
  have h3 : (T k).2.2.1 = ds := by rw [hT]
  exact va_get (D := E.1) (ci := ci) (v := v) (C := Cn) (T := T) (N := N) (ref := Cn) hx hb hts hin hown hK (hP.at he) 0 rfl hc k hk (by rw [h2, h3]; exact hts _ hl) (fun x h => by rw [h1] at h; exact h) hv hdg kk
theorem wg_getN (F : wg_F p m c cc nL s args own E) (hP : wg_P E A C H) {r ci N index : Nat} {Cn host : String} {T : u_T} {fs : List Value} (he : C r = some (.inr (ci, fs))) (hc : wg_cl[ci]? = some (Cn, T, N)) (hin : ∀ w ∈ u_ws Cn T N, w ∈ wg_T) (k : Nat) (hk : k < N) {nm ds : String} (hl : Cond.fieldLinkNest own index Cn nm ds host ∈ wg_N) (hT : T k = (Cn, nm, ds, (T k).2.2.2)) {v : Value} (hv : fs[k]? = some v) (hdg : decode cc pc = .ok (.getfield index, 3))
    (kk : W p l e R s m args below meth c H locs cells slots Q (F0 m (pc + 3) ls (v :: rest))) : W p l e R s m args below meth c H locs cells slots Q (F0 m pc ls (.ref (A r) :: rest)) := by
  obtain ⟨hx, hb, hml, hown, hts, ⟨hK, hN, hZ⟩, hz⟩ := F
  have h1 : (T k).1 = Cn := by rw [hT]
  have h2 : (T k).2.1 = nm := by rw [hT]
  have h3 : (T k).2.2.1 = ds := by rw [hT]
  exact va_getN (D := E.1) (ci := ci) (v := v) (C := Cn) (T := T) (N := N) (ref := Cn) (host := host) hx hb hts hin hown hK (hP.at he) 0 rfl hc k hk (by rw [h2, h3]; exact va_Nw.use rfl (hN _ hl)) (fun x h => by rw [h1] at h; exact h) hv hdg kk
theorem wg_put (F : wg_F p m c cc nL s args own E) (hP : wg_P E A C H) (hS : va_S (wg_A E) s.heap H locs) {r ci N index : Nat} {Cn : String} {T : u_T} {ty0 : Nat → FieldType} {fs : List Value} (he : C r = some (.inr (ci, fs))) (hc : wg_cl[ci]? = some (Cn, T, N)) (hin : ∀ w ∈ u_ws Cn T N, w ∈ wg_T) (hty : ∀ k, k < N → parseFieldDescriptor (T k).2.2.1 = some (ty0 k)) (hnm : ∀ a, a < N → ∀ b, b < N → a ≠ b → (T a).2.1 ≠ (T b).2.1) (k : Nat) (hk : k < N) {nm ds : String} (hl : Cond.fieldLink own index Cn nm ds ∈ wg_T) (hT : T k = (Cn, nm, ds, false)) {v : Value} (hn : narrow (ty0 k) v = v) (hfit : fits (ty0 k) v = true) (hlen : k < fs.length) (hdg : decode cc pc = .ok (.putfield index, 3))
    (kk : ∀ (H1 : Heap) (locs1 : List Loc), wg_P E A (va_up C r (some (.inr (ci, fs.set k v)))) H1 → va_S (wg_A E) s.heap H1 locs1 → W p l e R s m args below meth c H1 locs1 cells slots Q (F0 m (pc + 3) ls rest)) : W p l e R s m args below meth c H locs cells slots Q (F0 m pc ls (v :: .ref (A r) :: rest)) := by
  obtain ⟨hx, hb, hml, hown, hts, ⟨hK, hN, hZ⟩, hz⟩ := F
  have h1 : (T k).1 = Cn := by rw [hT]
  have h2 : (T k).2.1 = nm := by rw [hT]
  have h3 : (T k).2.2.1 = ds := by rw [hT]
  obtain ⟨ws, hP0, hD, hC, hI⟩ := hP
  obtain ⟨j, hj⟩ := hC r _ he
  exact va_put (D := E.1) (ci := ci) (v := v) (ty := ty0 k) (C := Cn) (T := T) (N := N) (ref := Cn) hx hb hts hin ty0 hty hnm hown hK hP0 hD hS j hj hc k hk (by rw [h2, h3]; exact hts _ hl) (fun x h => by rw [h1] at h; exact h) (by rw [hT]) (hty k hk) hn hfit hlen hdg (fun H1 locs1 q1 q2 q3 => kk H1 locs1 (wg_P.set hC hI hD he hj q1 q2) q3)
theorem wg_putN (F : wg_F p m c cc nL s args own E) (hP : wg_P E A C H) (hS : va_S (wg_A E) s.heap H locs) {r ci N index : Nat} {Cn host : String} {T : u_T} {ty0 : Nat → FieldType} {fs : List Value} (he : C r = some (.inr (ci, fs))) (hc : wg_cl[ci]? = some (Cn, T, N)) (hin : ∀ w ∈ u_ws Cn T N, w ∈ wg_T) (hty : ∀ k, k < N → parseFieldDescriptor (T k).2.2.1 = some (ty0 k)) (hnm : ∀ a, a < N → ∀ b, b < N → a ≠ b → (T a).2.1 ≠ (T b).2.1) (k : Nat) (hk : k < N) {nm ds : String} (hl : Cond.fieldLinkNest own index Cn nm ds host ∈ wg_N) (hT : T k = (Cn, nm, ds, false)) {v : Value} (hn : narrow (ty0 k) v = v) (hfit : fits (ty0 k) v = true) (hlen : k < fs.length) (hdg : decode cc pc = .ok (.putfield index, 3))
    (kk : ∀ (H1 : Heap) (locs1 : List Loc), wg_P E A (va_up C r (some (.inr (ci, fs.set k v)))) H1 → va_S (wg_A E) s.heap H1 locs1 → W p l e R s m args below meth c H1 locs1 cells slots Q (F0 m (pc + 3) ls rest)) : W p l e R s m args below meth c H locs cells slots Q (F0 m pc ls (v :: .ref (A r) :: rest)) := by
  obtain ⟨hx, hb, hml, hown, hts, ⟨hK, hN, hZ⟩, hz⟩ := F
  have h1 : (T k).1 = Cn := by rw [hT]
  have h2 : (T k).2.1 = nm := by rw [hT]
  have h3 : (T k).2.2.1 = ds := by rw [hT]
  obtain ⟨ws, hP0, hD, hC, hI⟩ := hP
  obtain ⟨j, hj⟩ := hC r _ he
  exact va_putN (D := E.1) (ci := ci) (v := v) (ty := ty0 k) (C := Cn) (T := T) (N := N) (ref := Cn) (host := host) hx hb hts hin ty0 hty hnm hown hK hP0 hD hS j hj hc k hk (by rw [h2, h3]; exact va_Nw.use rfl (hN _ hl)) (fun x h => by rw [h1] at h; exact h) (by rw [hT]) (hty k hk) hn hfit hlen hdg (fun H1 locs1 q1 q2 q3 => kk H1 locs1 (wg_P.set hC hI hD he hj q1 q2) q3)
theorem wg_putF (F : wg_F p m c cc nL s args own E) (hin2 : meth.name = "<init>") (hP : wg_P E A C H) (hS : va_S (wg_A E) s.heap H locs) {r ci N index : Nat} {T : u_T} {ty0 : Nat → FieldType} {fs : List Value} (he : C r = some (.inr (ci, fs))) (hc : wg_cl[ci]? = some (own, T, N)) (hin : ∀ w ∈ u_ws own T N, w ∈ wg_T) (hty : ∀ k, k < N → parseFieldDescriptor (T k).2.2.1 = some (ty0 k)) (hnm : ∀ a, a < N → ∀ b, b < N → a ≠ b → (T a).2.1 ≠ (T b).2.1) (k : Nat) (hk : k < N) {nm ds : String} (hl : Cond.fieldLink own index own nm ds ∈ wg_T) (hT : T k = (own, nm, ds, true)) {v : Value} (hn : narrow (ty0 k) v = v) (hfit : fits (ty0 k) v = true) (hlen : k < fs.length) (hdg : decode cc pc = .ok (.putfield index, 3))
    (kk : ∀ (H1 : Heap) (locs1 : List Loc), wg_P E A (va_up C r (some (.inr (ci, fs.set k v)))) H1 → va_S (wg_A E) s.heap H1 locs1 → W p l e R s m args below meth c H1 locs1 cells slots Q (F0 m (pc + 3) ls rest)) : W p l e R s m args below meth c H locs cells slots Q (F0 m pc ls (v :: .ref (A r) :: rest)) := by
  obtain ⟨hx, hb, hml, hown, hts, ⟨hK, hN, hZ⟩, hz⟩ := F
  have h1 : (T k).1 = own := by rw [hT]
  have h2 : (T k).2.1 = nm := by rw [hT]
  have h3 : (T k).2.2.1 = ds := by rw [hT]
  obtain ⟨ws, hP0, hD, hC, hI⟩ := hP
  obtain ⟨j, hj⟩ := hC r _ he
  exact va_putF (D := E.1) (ci := ci) (v := v) (ty := ty0 k) (C := own) (T := T) (N := N) (ref := own) hx hb hts hin ty0 hty hnm hown hK hP0 hD hS j hj hc k hk (by rw [h2, h3]; exact hts _ hl) (fun x h => by rw [h1] at h; exact h) (by rw [hT]) hin2 h1 (hty k hk) hn hfit hlen hdg (fun H1 locs1 q1 q2 q3 => kk H1 locs1 (wg_P.set hC hI hD he hj q1 q2) q3)
-- arrays
theorem wg_ild (F : wg_F p m c cc nL s args own E) (hP : wg_P E A C H) {r n : Nat} {f : Nat → Int32} (he : C r = some (.inl (E.2.1 0, n, .inl f))) {i : Int32} (hin : vp_in i n) (hdg : decode cc pc = .ok (.iaload, 1)) (kk : W p l e R s m args below meth c H locs cells slots Q (F0 m (pc + 1) ls (.int (f i.toNatClampNeg) :: rest))) : W p l e R s m args below meth c H locs cells slots Q (F0 m pc ls (.int i :: .ref (A r) :: rest)) :=
  va_iald F.1 F.2.1 F.2.2.2.2.2.1.1 (hP.at he) 0 0 rfl rfl hin hdg kk
theorem wg_lld (F : wg_F p m c cc nL s args own E) (hP : wg_P E A C H) {r n : Nat} {f : Nat → Int64} (he : C r = some (.inl (E.2.1 1, n, .inr (.inl f)))) {i : Int32} (hin : vp_in i n) (hdg : decode cc pc = .ok (.laload, 1)) (kk : W p l e R s m args below meth c H locs cells slots Q (F0 m (pc + 1) ls (.long (f i.toNatClampNeg) :: rest))) : W p l e R s m args below meth c H locs cells slots Q (F0 m pc ls (.int i :: .ref (A r) :: rest)) :=
  va_lald F.1 F.2.1 F.2.2.2.2.2.1.1 (hP.at he) 0 1 rfl rfl hin hdg kk
theorem wg_zld (F : wg_F p m c cc nL s args own E) (hP : wg_P E A C H) {r n : Nat} {f : Nat → Int32} (he : C r = some (.inl (E.2.1 2, n, .inl f))) {i : Int32} (hin : vp_in i n) (hdg : decode cc pc = .ok (.baload, 1)) (kk : W p l e R s m args below meth c H locs cells slots Q (F0 m (pc + 1) ls (.int (f i.toNatClampNeg) :: rest))) : W p l e R s m args below meth c H locs cells slots Q (F0 m pc ls (.int i :: .ref (A r) :: rest)) :=
  va_zald F.1 F.2.1 F.2.2.2.2.2.1.1 (hP.at he) 0 2 rfl rfl hin hdg kk
theorem wg_qld (F : wg_F p m c cc nL s args own E) (hP : wg_P E A C H) {r n : Nat} {f : Nat → Option Nat} (t : Nat) {Cn : String} (ht : (wg_tys E.2.1)[t]? = some (E.2.1 t, .object Cn)) (he : C r = some (.inl (E.2.1 t, n, .inr (.inr (.inr (.inr f)))))) {i : Int32} (hin : vp_in i n) (hdg : decode cc pc = .ok (.aaload, 1)) (kk : W p l e R s m args below meth c H locs cells slots Q (F0 m (pc + 1) ls (va_rf (f i.toNatClampNeg) :: rest))) : W p l e R s m args below meth c H locs cells slots Q (F0 m pc ls (.int i :: .ref (A r) :: rest)) :=
  va_aldq F.1 F.2.1 F.2.2.2.2.2.1.1 (hP.at he) 0 t rfl ht hin hdg kk
theorem wg_len (F : wg_F p m c cc nL s args own E) (hP : wg_P E A C H) {r t : Nat} {x : vp_A} {ty : FieldType} (ht : (wg_tys E.2.1)[t]? = some (E.2.1 t, ty)) (he : C r = some (.inl (E.2.1 t, x))) {v : Int32} (hv : Int32.ofNat x.1 = v) (hdg : decode cc pc = .ok (.arraylength, 1)) (kk : W p l e R s m args below meth c H locs cells slots Q (F0 m (pc + 1) ls (.int v :: rest))) : W p l e R s m args below meth c H locs cells slots Q (F0 m pc ls (.ref (A r) :: rest)) :=
  va_alen F.1 F.2.1 F.2.2.2.2.2.1.1 (hP.at he) 0 t rfl ht hv hdg kk
theorem wg_ist (F : wg_F p m c cc nL s args own E) (hP : wg_P E A C H) (hS : va_S (wg_A E) s.heap H locs) {r n : Nat} {f : Nat → Int32} (he : C r = some (.inl (E.2.1 0, n, .inl f))) {i x : Int32} (hin : vp_in i n) (hdg : decode cc pc = .ok (.iastore, 1)) (kk : ∀ (H1 : Heap) (locs1 : List Loc), wg_P E A (va_up C r (some (.inl (E.2.1 0, n, .inl (upd f i.toNatClampNeg x))))) H1 → va_S (wg_A E) s.heap H1 locs1 → W p l e R s m args below meth c H1 locs1 cells slots Q (F0 m (pc + 1) ls rest)) : W p l e R s m args below meth c H locs cells slots Q (F0 m pc ls (.int x :: .int i :: .ref (A r) :: rest)) := by
  obtain ⟨ws, hP0, hD, hC, hI⟩ := hP
  obtain ⟨j, hj⟩ := hC r _ he
  exact va_iast F.1 F.2.1 F.2.2.2.2.2.1.1 hP0 hD hS j 0 hj rfl hin hdg (fun H1 locs1 q1 q2 q3 => kk H1 locs1 (wg_P.set hC hI hD he hj q1 q2) q3)
theorem wg_lst (F : wg_F p m c cc nL s args own E) (hP : wg_P E A C H) (hS : va_S (wg_A E) s.heap H locs) {r n : Nat} {f : Nat → Int64} (he : C r = some (.inl (E.2.1 1, n, .inr (.inl f)))) {i : Int32} {x : Int64} (hin : vp_in i n) (hdg : decode cc pc = .ok (.lastore, 1)) (kk : ∀ (H1 : Heap) (locs1 : List Loc), wg_P E A (va_up C r (some (.inl (E.2.1 1, n, .inr (.inl (vp_updL f i.toNatClampNeg x)))))) H1 → va_S (wg_A E) s.heap H1 locs1 → W p l e R s m args below meth c H1 locs1 cells slots Q (F0 m (pc + 1) ls rest)) : W p l e R s m args below meth c H locs cells slots Q (F0 m pc ls (.long x :: .int i :: .ref (A r) :: rest)) := by
  obtain ⟨ws, hP0, hD, hC, hI⟩ := hP
  obtain ⟨j, hj⟩ := hC r _ he
  exact va_last F.1 F.2.1 F.2.2.2.2.2.1.1 hP0 hD hS j 1 hj rfl hin hdg (fun H1 locs1 q1 q2 q3 => kk H1 locs1 (wg_P.set hC hI hD he hj q1 q2) q3)
theorem wg_zst (F : wg_F p m c cc nL s args own E) (hP : wg_P E A C H) (hS : va_S (wg_A E) s.heap H locs) {r n : Nat} {f : Nat → Int32} (he : C r = some (.inl (E.2.1 2, n, .inl f))) {i x : Int32} (hx1 : x = 0 ∨ x = 1) (hin : vp_in i n) (hdg : decode cc pc = .ok (.bastore, 1)) (kk : ∀ (H1 : Heap) (locs1 : List Loc), wg_P E A (va_up C r (some (.inl (E.2.1 2, n, .inl (upd f i.toNatClampNeg x))))) H1 → va_S (wg_A E) s.heap H1 locs1 → W p l e R s m args below meth c H1 locs1 cells slots Q (F0 m (pc + 1) ls rest)) : W p l e R s m args below meth c H locs cells slots Q (F0 m pc ls (.int x :: .int i :: .ref (A r) :: rest)) := by
  obtain ⟨ws, hP0, hD, hC, hI⟩ := hP
  obtain ⟨j, hj⟩ := hC r _ he
  have hx2 : vp_nar .boolean x = x := by rcases hx1 with rfl | rfl <;> rfl
  refine va_zast F.1 F.2.1 F.2.2.2.2.2.1.1 hP0 hD hS j 2 hj rfl hin hdg (fun H1 locs1 q1 q2 q3 => ?_)
  rw [hx2] at q1 q2
  exact kk H1 locs1 (wg_P.set hC hI hD he hj q1 q2) q3
theorem wg_qst (F : wg_F p m c cc nL s args own E) (hP : wg_P E A C H) (hS : va_S (wg_A E) s.heap H locs) {r n : Nat} {f : Nat → Option Nat} (t : Nat) {q : vw_C} (ht : (wg_tys E.2.1)[t]? = some (E.2.1 t, .object q.1)) (he : C r = some (.inl (E.2.1 t, n, .inr (.inr (.inr (.inr f)))))) {rv ci : Nat} {vs : List Value} (hv : C rv = some (.inr (ci, vs))) (hc : wg_cl[ci]? = some q) {i : Int32} (hin : vp_in i n) (hdg : decode cc pc = .ok (.aastore, 1)) (kk : ∀ (H1 : Heap) (locs1 : List Loc), wg_P E A (va_up C r (some (.inl (E.2.1 t, n, .inr (.inr (.inr (.inr (va_up f i.toNatClampNeg (some (A rv)))))))))) H1 → va_S (wg_A E) s.heap H1 locs1 → W p l e R s m args below meth c H1 locs1 cells slots Q (F0 m (pc + 1) ls rest)) : W p l e R s m args below meth c H locs cells slots Q (F0 m pc ls (.ref (A rv) :: .int i :: .ref (A r) :: rest)) := by
  obtain ⟨ws, hP0, hD, hC, hI⟩ := hP
  obtain ⟨j, hj⟩ := hC r _ he
  obtain ⟨jv, hjv⟩ := hC rv _ hv
  exact va_astq F.1 F.2.1 F.2.2.2.2.2.1.1 hP0 hD hS j t jv ci hj ht hjv hc hin hdg (fun H1 locs1 q1 q2 q3 => kk H1 locs1 (wg_P.set hC hI hD he hj q1 q2) q3)
-- the class's own tables
theorem wg_gets (F : wg_F p m c cc nL s args own E) (hS : va_S (wg_A E) s.heap H locs) {index : Nat} {nm : String} {t : Nat} (hZ : va_Z "LightChecks" nm "[I" (.ref t) (wg_A E) s s.heap) (hl : Cond.fieldLink own index "LightChecks" nm "[I" ∈ wg_T) (hdg : decode cc pc = .ok (.getstatic index, 3)) (kk : W p l e R s m args below meth c H locs cells slots Q (F0 m (pc + 3) ls (.ref t :: rest))) : W p l e R s m args below meth c H locs cells slots Q (F0 m pc ls rest) :=
  va_gets F.1 F.2.1 hZ hS F.2.2.2.1 (F.2.2.2.2.1 _ hl) (fun _ h => h) hdg kk
-- new cells
theorem wg_new (F : wg_F p m c cc nL s args own E) (hP : wg_P E A C H) (hS : va_S (wg_A E) s.heap H locs) (r : Nat) (hr : C r = none) {ci N index : Nat} {Cn : String} {T : u_T} {ty0 : Nat → FieldType} (fs : List Value) (hc : wg_cl[ci]? = some (Cn, T, N)) (hin : ∀ w ∈ u_ws Cn T N, w ∈ wg_T) (hty : ∀ k, k < N → parseFieldDescriptor (T k).2.2.1 = some (ty0 k)) (hcl : Cond.classLink own index Cn ∈ wg_T) (hinst : Cond.instantiable Cn N ∈ wg_T) (hini : Cond.initialized Cn ∈ wg_T) (hfs : ∀ j, j < N → defaultValue (ty0 j) = vp_V fs j) (hcells : cells + 1 ≤ R.cells) (hslots : slots + N ≤ R.slots) (hdg : decode cc pc = .ok (.new index, 3))
    (kk : ∀ (q : Nat) (H1 : Heap), wg_P E (va_up A r q) (va_up C r (some (.inr (ci, fs)))) H1 → va_S (wg_A E) s.heap H1 locs → W p l e R s m args below meth c H1 locs (cells + 1) (slots + N) Q (F0 m (pc + 3) ls (.ref q :: rest))) : W p l e R s m args below meth c H locs cells slots Q (F0 m pc ls rest) := by
  obtain ⟨hx, hb, hml, hown, hts, ⟨hK, hN, hZ⟩, hz⟩ := F
  obtain ⟨ws, hP0, hD, hC, hI⟩ := hP
  exact va_new (D := E.1) (ci := ci) (fs := fs) (C := Cn) (T := T) (N := N) hx hb hts hin ty0 hty hown (hts _ hcl) (hts _ hinst) (hts _ hini) hK hP0 hD hS (fun q h => Nat.le_trans hz h) hc hfs hcells hslots hdg (fun q H1 q1 q2 q3 => kk q H1 (wg_P.push hC hI q1 q2 hr) q3)
theorem wg_newa (F : wg_F p m c cc nL s args own E) (hP : wg_P E A C H) (hS : va_S (wg_A E) s.heap H locs) (r : Nat) (hr : C r = none) (t : Nat) {atype : ArrayType} (ht : (wg_tys E.2.1)[t]? = some (E.2.1 t, newarray.typeOf atype)) (hprim : ∀ (U : State) (cA : ClassId), va_RA U cA (newarray.typeOf atype) → U.vm.findClass ("[" ++ (newarray.typeOf atype).toString) = some cA) (harr : Cond.arrayClass (newarray.typeOf atype) ∈ wg_T) {n : Int32} {N' : Nat} {a0 : vp_A} (ha : ∀ cA : ClassId, vp_cell cA a0 = arrV cA N' (fun _ => defaultValue (newarray.typeOf atype))) (hn : ¬ n < 0) (hN' : n.toNatClampNeg = N') (hbytes : N' * componentBytes (newarray.typeOf atype) ≤ 536870912) (hcells : cells + 1 ≤ R.cells) (hslots : slots + N' ≤ R.slots) (hdg : decode cc pc = .ok (.newarray atype, 2))
    (kk : ∀ (q : Nat) (H1 : Heap), wg_P E (va_up A r q) (va_up C r (some (.inl (E.2.1 t, a0)))) H1 → va_S (wg_A E) s.heap H1 locs → W p l e R s m args below meth c H1 locs (cells + 1) (slots + N') Q (F0 m (pc + 2) ls (.ref q :: rest))) : W p l e R s m args below meth c H locs cells slots Q (F0 m pc ls (.int n :: rest)) := by
  obtain ⟨hx, hb, hml, hown, hts, ⟨hK, hN, hZ⟩, hz⟩ := F
  obtain ⟨ws, hP0, hD, hC, hI⟩ := hP
  refine va_newa hx hb (hts _ harr) rfl hK hP0 hD hS (fun q h => Nat.le_trans hz h) ha hn hN' hbytes hcells hslots hdg (fun q cA H1 q0 q1 q2 q3 => ?_)
  have e1 := hprim s cA (q0.2 (wg_tys E.2.1).length (cA, newarray.typeOf atype) (by rw [List.getElem?_append_right (Nat.le_refl _), Nat.sub_self]; rfl)).2
  have e2 := hprim s (E.2.1 t) (hK.2 t _ ht).2
  have e3 : cA = E.2.1 t := Option.some.inj (e1.symm.trans e2)
  subst e3
  exact kk q H1 (wg_P.push hC hI q1 q2 hr) q3
theorem wg_newq (F : wg_F p m c cc nL s args own E) (hP : wg_P E A C H) (hS : va_S (wg_A E) s.heap H locs) (r : Nat) (hr : C r = none) (t : Nat) {Cn : String} {index : Nat} (ht : (wg_tys E.2.1)[t]? = some (E.2.1 t, .object Cn)) (hcl : Cond.classLink own index Cn ∈ wg_T) (hover : Cond.arrayOver (.object Cn) ∈ wg_N) {n : Int32} {N' : Nat} (hn : ¬ n < 0) (hN' : n.toNatClampNeg = N') (hbytes : N' * 4 ≤ 536870912) (hcells : cells + 1 ≤ R.cells) (hslots : slots + N' ≤ R.slots) (hdg : decode cc pc = .ok (.anewarray index, 3))
    (kk : ∀ (q : Nat) (H1 : Heap), wg_P E (va_up A r q) (va_up C r (some (.inl (E.2.1 t, N', .inr (.inr (.inr (.inr (fun _ => none)))))))) H1 → va_S (wg_A E) s.heap H1 locs → W p l e R s m args below meth c H1 locs (cells + 1) (slots + N') Q (F0 m (pc + 3) ls (.ref q :: rest))) : W p l e R s m args below meth c H locs cells slots Q (F0 m pc ls (.int n :: rest)) := by
  obtain ⟨hx, hb, hml, hown, hts, ⟨hK, hN, hZ⟩, hz⟩ := F
  obtain ⟨ws, hP0, hD, hC, hI⟩ := hP
  refine va_newq hx hb hown (hts _ hcl) (hN _ hover) hK hP0 hD hS (fun q h => Nat.le_trans hz h) hn hN' hbytes hcells hslots hdg (fun q cA H1 q0 q1 q2 q3 => ?_)
  obtain ⟨_, _, _, _, _, e1⟩ := (q0.2 (wg_tys E.2.1).length (cA, .object Cn) (by simp)).2
  obtain ⟨_, _, _, _, _, e2⟩ := (hK.2 t _ ht).2
  have e3 : cA = E.2.1 t := Option.some.inj (e1.symm.trans e2)
  subst e3
  exact kk q H1 (wg_P.push hC hI q1 q2 hr) q3
-- calls
theorem wg_ci {Qa : Array Value} {mc ms : Nat} {post : Int32 → (Nat → Nat) → wg_C → Prop} (hS : va_S (wg_A E) s.heap H locs) (hr : va_Run p l e R s m args below meth c H locs cells slots mc ms (F0 m pc ls st0) rest (wg_Qi E post Qa) (wg_A E))
    (kk : ∀ (r : Int32) (A1 : Nat → Nat) (C1 : wg_C) (H1 : Heap) (locs1 : List Loc), post r A1 C1 → wg_P E A1 C1 H1 → va_S (wg_A E) s.heap H1 locs1 → W p l e R s m args below meth c H1 locs1 (cells + mc) (slots + ms) Q (F0 m (pc + 3) ls (.int r :: rest))) : W p l e R s m args below meth c H locs cells slots Q (F0 m pc ls st0) :=
  va_calli hr hS (fun _ _ h => h) (fun _ h => h) (fun r u t H1 locs1 ht _ hp hB _ _ hS1 => kk r u.1 u.2 H1 locs1 hp (ht ▸ hB.2.1) hS1)
theorem wg_cl_ {Qa : Array Value} {mc ms : Nat} {post : Int64 → (Nat → Nat) → wg_C → Prop} (hS : va_S (wg_A E) s.heap H locs) (hr : va_Run p l e R s m args below meth c H locs cells slots mc ms (F0 m pc ls st0) rest (wg_Ql E post Qa) (wg_A E))
    (kk : ∀ (r : Int64) (A1 : Nat → Nat) (C1 : wg_C) (H1 : Heap) (locs1 : List Loc), post r A1 C1 → wg_P E A1 C1 H1 → va_S (wg_A E) s.heap H1 locs1 → W p l e R s m args below meth c H1 locs1 (cells + mc) (slots + ms) Q (F0 m (pc + 3) ls (.long r :: rest))) : W p l e R s m args below meth c H locs cells slots Q (F0 m pc ls st0) :=
  va_calll hr hS (fun _ _ h => h) (fun _ h => h) (fun r u t H1 locs1 ht _ hp hB _ _ hS1 => kk r u.1 u.2 H1 locs1 hp (ht ▸ hB.2.1) hS1)
theorem wg_cv {Qa : Array Value} {mc ms : Nat} {post : (Nat → Nat) → wg_C → Prop} (hS : va_S (wg_A E) s.heap H locs) (hr : va_Run p l e R s m args below meth c H locs cells slots mc ms (F0 m pc ls st0) rest (wg_Qv E post Qa) (wg_A E))
    (kk : ∀ (A1 : Nat → Nat) (C1 : wg_C) (H1 : Heap) (locs1 : List Loc), post A1 C1 → wg_P E A1 C1 H1 → va_S (wg_A E) s.heap H1 locs1 → W p l e R s m args below meth c H1 locs1 (cells + mc) (slots + ms) Q (F0 m (pc + 3) ls rest)) : W p l e R s m args below meth c H locs cells slots Q (F0 m pc ls st0) :=
  va_callv hr hS (fun _ _ h => h) (fun _ h => h) (fun u t H1 locs1 ht _ hp hB _ _ hS1 => kk u.1 u.2 H1 locs1 hp (ht ▸ hB.2.1) hS1)
theorem wg_cq {Qa : Array Value} {mc ms : Nat} {post : Option Nat → (Nat → Nat) → wg_C → Prop} (hS : va_S (wg_A E) s.heap H locs) (hr : va_Run p l e R s m args below meth c H locs cells slots mc ms (F0 m pc ls st0) rest (wg_Qq E post Qa) (wg_A E))
    (kk : ∀ (r : Option Nat) (A1 : Nat → Nat) (C1 : wg_C) (H1 : Heap) (locs1 : List Loc), post r A1 C1 → wg_P E A1 C1 H1 → va_S (wg_A E) s.heap H1 locs1 → W p l e R s m args below meth c H1 locs1 (cells + mc) (slots + ms) Q (F0 m (pc + 3) ls (va_rf r :: rest))) : W p l e R s m args below meth c H locs cells slots Q (F0 m pc ls st0) :=
  va_callq hr hS (fun _ _ h => h) (fun _ h => h) (fun r u t H1 locs1 ht _ hp hB _ _ hS1 => kk r u.1 u.2 H1 locs1 hp (ht ▸ hB.2.1) hS1)
end WGR
/-- a method's own words: its code stands in the tables, its class is initialised; an instance's, a static's, a constructor's -/
def wg_Y (y : MethodName) (bytes : ByteArray) (maxL : Nat) (ret : Option FieldType) (n : Nat) : Prop := Cond.code y bytes maxL ret ∈ wg_T ∧ Cond.initialized y.cls ∈ wg_T ∧ y.cls ≠ "java/lang/invoke/MethodHandle" ∧ y.cls ≠ "java/lang/invoke/VarHandle" ∧ (parseMethodDescriptor y.desc).map (fun d => d.parameters.length) = some n
def wg_YV (y : MethodName) (bytes : ByteArray) (maxL : Nat) (ret : Option FieldType) (n : Nat) : Prop := wg_Y y bytes maxL ret n ∧ Cond.instanceMethod y ∈ wg_T ∧ Cond.selects y.cls y y ∈ wg_T
def wg_YS (y : MethodName) (bytes : ByteArray) (maxL : Nat) (ret : Option FieldType) (n : Nat) : Prop := wg_Y y bytes maxL ret n ∧ Cond.static y ∈ wg_T
def wg_YI (y : MethodName) (bytes : ByteArray) (maxL : Nat) (n : Nat) : Prop := wg_Y y bytes maxL none n ∧ Cond.instanceMethod y ∈ wg_T ∧ y.name = "<init>"
theorem wg_good {y : MethodName} {bytes : ByteArray} {maxL : Nat} {ret : Option FieldType} (h : Cond.code y bytes maxL ret ∈ wg_T) : GoodIn wg_T (wg_ws y bytes maxL ret) := by
  intro w hw
  have hm : w ∈ wg_T := by
    rcases List.mem_cons.mp hw with rfl | h1
    · exact h
    · exact h1
  exact ⟨hm, good_of_word (List.mem_filter.mp hm).2⟩
section WGC
variable {p : Program} {l : Launch} {e : Env} {R : Room} {s : State} {m : MethodId} {args : Array Value} {below : List Frame} {meth : Method} {c : Code} {H : Heap} {locs : List Loc} {cells slots : Nat}
variable {cc bytes : ByteArray} {pc nL maxL mc ms n index : Nat} {ls : Array Slot} {rest st0 As : List Value} {E : wg_E} {A : Nat → Nat} {C : wg_C} {own host : String} {y : MethodName} {ret : Option FieldType} {rm : Room} {Qc : Array Value → State → Outcome → State → Prop}
theorem wg_rV (F : wg_F p m c cc nL s args own E) (hP : wg_P E A C H) (hS : va_S (wg_A E) s.heap H locs) {r ci : Nat} {q : vw_C} {fs : List Value} (hM : Met l y (wg_ws y bytes maxL ret) rm (wg_Pc E A C (.ref (A r) :: As)) Qc mc ms (wg_A E)) (hY : wg_YV y bytes maxL ret n) (hl : Cond.methodLink own index y ∈ wg_T) (hrc : rm.cells = mc) (hrs : rm.slots = ms) (hR : rm.frames + 1 ≤ R.frames ∧ 8 + (maxL + 11) + rm.locals ≤ R.locals) (he : C r = some (.inr (ci, fs))) (hc : wg_cl[ci]? = some q) (hq : q.1 = y.cls) (hn : As.length = n) (hsz : ls.size = nL) (hst : st0 = As.reverse ++ .ref (A r) :: rest) (hW : (rest.map fun v => v.category).sum ≤ 8) (hdg : decode cc pc = .ok (.invokevirtual index, 3)) (hf : cells + mc ≤ R.cells ∧ slots + ms ≤ R.slots) :
    va_Run p l e R s m args below meth c H locs cells slots mc ms (F0 m pc ls st0) rest (Qc (Value.ref (A r) :: As).toArray) (wg_A E) := by
  obtain ⟨⟨y1, y2, y3⟩, y4, y5⟩ := hY
  have hts := F.2.2.2.2.1
  exact va_runV (C := y.cls) ⟨F.1, F.2.1, F.2.2.1, F.2.2.2.1, hts⟩ hM ⟨callB_of n hts (wg_good y1) rfl hrc hrs (hts _ y2) (hts _ hl) y3 hR, hts _ y4, hts _ y5⟩ ⟨wg_Pc.blind, hq ▸ va_recv F.2.2.2.2.2.1.1 (hP.at he) hc (q0 := 0) rfl, fun U hU hW2 => ⟨rfl, wg_U.of F hP hS hU hW2⟩⟩ rfl hn hsz hst (lv_room hW) hdg hf
theorem wg_rVN (F : wg_F p m c cc nL s args own E) (hP : wg_P E A C H) (hS : va_S (wg_A E) s.heap H locs) {r ci : Nat} {q : vw_C} {fs : List Value} (hM : Met l y (wg_ws y bytes maxL ret) rm (wg_Pc E A C (.ref (A r) :: As)) Qc mc ms (wg_A E)) (hY : wg_YV y bytes maxL ret n) (hl : Cond.methodLinkNest own index y host ∈ wg_N) (hrc : rm.cells = mc) (hrs : rm.slots = ms) (hR : rm.frames + 1 ≤ R.frames ∧ 8 + (maxL + 11) + rm.locals ≤ R.locals) (he : C r = some (.inr (ci, fs))) (hc : wg_cl[ci]? = some q) (hq : q.1 = y.cls) (hn : As.length = n) (hsz : ls.size = nL) (hst : st0 = As.reverse ++ .ref (A r) :: rest) (hW : (rest.map fun v => v.category).sum ≤ 8) (hdg : decode cc pc = .ok (.invokevirtual index, 3)) (hf : cells + mc ≤ R.cells ∧ slots + ms ≤ R.slots) :
    va_Run p l e R s m args below meth c H locs cells slots mc ms (F0 m pc ls st0) rest (Qc (Value.ref (A r) :: As).toArray) (wg_A E) := by
  obtain ⟨⟨y1, y2, y3⟩, y4, y5⟩ := hY
  have hts := F.2.2.2.2.1
  exact va_runVN (C := y.cls) (host := host) ⟨F.1, F.2.1, F.2.2.1, F.2.2.2.1, hts⟩ hM ⟨va_cnB n hts (wg_good y1) rfl hrc hrs (F.2.2.2.2.2.1.2.1 _ hl) (hts _ y2) y3 hR, hts _ y4, hts _ y5⟩ ⟨wg_Pc.blind, hq ▸ va_recv F.2.2.2.2.2.1.1 (hP.at he) hc (q0 := 0) rfl, fun U hU hW2 => ⟨rfl, wg_U.of F hP hS hU hW2⟩⟩ rfl hn hsz hst (lv_room hW) hdg hf
theorem wg_rS (F : wg_F p m c cc nL s args own E) (hP : wg_P E A C H) (hS : va_S (wg_A E) s.heap H locs) (hM : Met l y (wg_ws y bytes maxL ret) rm (wg_Pc E A C As) Qc mc ms (wg_A E)) (hY : wg_YS y bytes maxL ret n) (hl : Cond.methodLink own index y ∈ wg_T) (hrc : rm.cells = mc) (hrs : rm.slots = ms) (hR : rm.frames + 1 ≤ R.frames ∧ 8 + (maxL + 11) + rm.locals ≤ R.locals) (hn : As.length = n) (hsz : ls.size = nL) (hst : st0 = As.reverse ++ rest) (hW : (rest.map fun v => v.category).sum ≤ 8) (hdg : decode cc pc = .ok (.invokestatic index, 3)) (hf : cells + mc ≤ R.cells ∧ slots + ms ≤ R.slots) :
    va_Run p l e R s m args below meth c H locs cells slots mc ms (F0 m pc ls st0) rest (Qc As.toArray) (wg_A E) := by
  obtain ⟨⟨y1, y2, y3⟩, y4⟩ := hY
  have hts := F.2.2.2.2.1
  exact va_runS ⟨F.1, F.2.1, F.2.2.1, F.2.2.2.1, hts⟩ hM ⟨callB_of n hts (wg_good y1) rfl hrc hrs (hts _ y2) (hts _ hl) y3 hR, hts _ y4⟩ ⟨wg_Pc.blind, fun U hU hW2 => ⟨rfl, wg_U.of F hP hS hU hW2⟩⟩ rfl hn hsz hst (lv_room hW) hdg hf
theorem wg_rSN (F : wg_F p m c cc nL s args own E) (hP : wg_P E A C H) (hS : va_S (wg_A E) s.heap H locs) (hM : Met l y (wg_ws y bytes maxL ret) rm (wg_Pc E A C As) Qc mc ms (wg_A E)) (hY : wg_YS y bytes maxL ret n) (hl : Cond.methodLinkNest own index y host ∈ wg_N) (hrc : rm.cells = mc) (hrs : rm.slots = ms) (hR : rm.frames + 1 ≤ R.frames ∧ 8 + (maxL + 11) + rm.locals ≤ R.locals) (hn : As.length = n) (hsz : ls.size = nL) (hst : st0 = As.reverse ++ rest) (hW : (rest.map fun v => v.category).sum ≤ 8) (hdg : decode cc pc = .ok (.invokestatic index, 3)) (hf : cells + mc ≤ R.cells ∧ slots + ms ≤ R.slots) :
    va_Run p l e R s m args below meth c H locs cells slots mc ms (F0 m pc ls st0) rest (Qc As.toArray) (wg_A E) := by
  obtain ⟨⟨y1, y2, y3⟩, y4⟩ := hY
  have hts := F.2.2.2.2.1
  exact va_runSN (host := host) ⟨F.1, F.2.1, F.2.2.1, F.2.2.2.1, hts⟩ hM ⟨va_cnB n hts (wg_good y1) rfl hrc hrs (F.2.2.2.2.2.1.2.1 _ hl) (hts _ y2) y3 hR, hts _ y4, trivial⟩ ⟨wg_Pc.blind, fun U hU hW2 => ⟨rfl, wg_U.of F hP hS hU hW2⟩⟩ rfl hn hsz hst (lv_room hW) hdg hf
theorem wg_rI (F : wg_F p m c cc nL s args own E) (hP : wg_P E A C H) (hS : va_S (wg_A E) s.heap H locs) {b : Nat} (hM : Met l y (wg_ws y bytes maxL none) rm (wg_Pc E A C (.ref b :: As)) Qc mc ms (wg_A E)) (hY : wg_YI y bytes maxL n) (hl : Cond.methodLink own index y ∈ wg_T) (hrc : rm.cells = mc) (hrs : rm.slots = ms) (hR : rm.frames + 1 ≤ R.frames ∧ 8 + (maxL + 11) + rm.locals ≤ R.locals) (hn : As.length = n) (hsz : ls.size = nL) (hst : st0 = As.reverse ++ .ref b :: rest) (hW : (rest.map fun v => v.category).sum ≤ 8) (hdg : decode cc pc = .ok (.invokespecial index, 3)) (hf : cells + mc ≤ R.cells ∧ slots + ms ≤ R.slots) :
    va_Run p l e R s m args below meth c H locs cells slots mc ms (F0 m pc ls st0) rest (Qc (Value.ref b :: As).toArray) (wg_A E) := by
  obtain ⟨⟨y1, y2, y3⟩, y4, y5⟩ := hY
  have hts := F.2.2.2.2.1
  exact va_runI ⟨F.1, F.2.1, F.2.2.1, F.2.2.2.1, hts⟩ hM ⟨callB_of n hts (wg_good y1) rfl hrc hrs (hts _ y2) (hts _ hl) y3 hR, y5, hts _ y4⟩ ⟨wg_Pc.blind, fun U hU hW2 => ⟨rfl, wg_U.of F hP hS hU hW2⟩⟩ rfl hn hsz hst (lv_room hW) hdg hf
theorem wg_rIN (F : wg_F p m c cc nL s args own E) (hP : wg_P E A C H) (hS : va_S (wg_A E) s.heap H locs) {b : Nat} (hM : Met l y (wg_ws y bytes maxL none) rm (wg_Pc E A C (.ref b :: As)) Qc mc ms (wg_A E)) (hY : wg_YI y bytes maxL n) (hl : Cond.methodLinkNest own index y host ∈ wg_N) (hrc : rm.cells = mc) (hrs : rm.slots = ms) (hR : rm.frames + 1 ≤ R.frames ∧ 8 + (maxL + 11) + rm.locals ≤ R.locals) (hn : As.length = n) (hsz : ls.size = nL) (hst : st0 = As.reverse ++ .ref b :: rest) (hW : (rest.map fun v => v.category).sum ≤ 8) (hdg : decode cc pc = .ok (.invokespecial index, 3)) (hf : cells + mc ≤ R.cells ∧ slots + ms ≤ R.slots) :
    va_Run p l e R s m args below meth c H locs cells slots mc ms (F0 m pc ls st0) rest (Qc (Value.ref b :: As).toArray) (wg_A E) := by
  obtain ⟨⟨y1, y2, y3⟩, y4, y5⟩ := hY
  have hts := F.2.2.2.2.1
  exact va_runIN (host := host) ⟨F.1, F.2.1, F.2.2.1, F.2.2.2.1, hts⟩ hM ⟨va_cnB n hts (wg_good y1) rfl hrc hrs (F.2.2.2.2.2.1.2.1 _ hl) (hts _ y2) y3 hR, y5, hts _ y4⟩ ⟨wg_Pc.blind, fun U hU hW2 => ⟨rfl, wg_U.of F hP hS hU hW2⟩⟩ rfl hn hsz hst (lv_room hW) hdg hf
end WGC
