/-- which nodes are known when k of a proof's nodes have been laid -/
def lm_kn (a b k q : Nat) : Bool := (q == 8 + a || q == 8 + b) || (lc_bs a b q && (decide (2 ≤ q) && decide (lc_cnt a b q < k)))
/-- which are known when all above k have been reckoned -/
def lm_kd (a b k q : Nat) : Bool := lc_bs a b q || (lc_on a b q && (decide (8 ≤ q) || decide (k < q)))
/-- which are known, while a proof is taken, when all pairs above k have been seen -/
def lm_pk (a b k q : Nat) : Bool := lc_on a b q && (decide (8 ≤ q) || decide (k ≤ 2 * q))
def lm_b (x : Bool) : Int32 := if x = true then 1 else 0
theorem lm_b01 (x : Bool) : lm_b x = 0 ∨ lm_b x = 1 := by cases x; exact Or.inl rfl; exact Or.inr rfl
theorem lm_kn7_0 : (List.range 8).all (fun a => (List.range 8).all (fun b => (List.range 16).all (fun q => decide (a ≠ b ∧ 1 ≤ q → lm_kn a b (lc_cnt a b 1) q = lm_kd a b 7 q)))) = true := by decide +kernel
theorem lm_kn7 {a b q : Nat} (ha : a < 8) (hb : b < 8) (hab : a ≠ b) (h1 : 1 ≤ q) (hq : q < 16) : lm_kn a b (lc_cnt a b 1) q = lm_kd a b 7 q := of_decide_eq_true (lc_all3 lm_kn7_0 ha hb hq) ⟨hab, h1⟩
theorem lm_kn0_0 : (List.range 8).all (fun a => (List.range 8).all (fun b => (List.range 16).all (fun q => decide (lm_kn a b 0 q = (q == 8 + a || q == 8 + b))))) = true := by decide +kernel
theorem lm_kn0 {a b q : Nat} (ha : a < 8) (hb : b < 8) (hq : q < 16) : lm_kn a b 0 q = (q == 8 + a || q == 8 + b) := of_decide_eq_true (lc_all3 lm_kn0_0 ha hb hq)
theorem lm_kns {a b k q : Nat} (ha : a < 8) (hb : b < 8) (hab : a ≠ b) (hq : q < 16) (hne : q ≠ lc_nth a b k) : lm_kn a b (k + 1) q = lm_kn a b k q := by
  unfold lm_kn
  cases hbs : lc_bs a b q with
  | false => rfl
  | true =>
    by_cases h2 : 2 ≤ q
    · have h := (lc_cnt_lt ha hb hab hq h2 hbs).2
      have : lc_cnt a b q ≠ k := fun e => hne (by rw [← e, h])
      rw [show decide (lc_cnt a b q < k + 1) = decide (lc_cnt a b q < k) from decide_eq_decide.mpr (by omega)]
    · rw [show decide (2 ≤ q) = false from decide_eq_false h2]
      rfl
theorem lm_kn_new {a b k : Nat} (ha : a < 8) (hb : b < 8) (hab : a ≠ b) (hk : k < lc_cnt a b 1) : lm_kn a b (k + 1) (lc_nth a b k) = true := by
  obtain ⟨h1, h2, h3, h4⟩ := lc_nth_ok ha hb hab hk
  unfold lm_kn
  rw [h1, h2, decide_eq_true h4, decide_eq_true (show k < k + 1 by omega)]
  simp
theorem lm_laid {a b k : Nat} {x y : Int64} {pn fr : Nat → Int64} {fz : Nat → Int32} (ha : a < 8) (hb : b < 8) (hab : a ≠ b) (hk : k < lc_cnt a b 1)
    (h : ∀ q, 1 ≤ q → q < 16 → fz q = lm_b (lm_kn a b k q) ∧ (lm_kn a b k q = true → fr q = lc_tv a b x y pn q)) :
    ∀ q, 1 ≤ q → q < 16 → upd fz (lc_nth a b k) 1 q = lm_b (lm_kn a b (k + 1) q) ∧ (lm_kn a b (k + 1) q = true → vp_updL fr (lc_nth a b k) (pn k) q = lc_tv a b x y pn q) := by
  intro q h1 h16
  obtain ⟨n1, n2, n3, n4⟩ := lc_nth_ok ha hb hab hk
  by_cases e : q = lc_nth a b k
  · subst e
    rw [pk_us, lm_kn_new ha hb hab hk, lm_uLs]
    exact ⟨rfl, fun _ => by rw [lc_tv_bs (lc_bs_off n1), n2]⟩
  · rw [pk_un e, lm_kns ha hb hab h16 e, lm_uLn _ _ e]
    exact h q h1 h16
theorem lm_first {a b : Nat} {x y : Int64} {pn fr : Nat → Int64} {fz : Nat → Int32} (ha : a < 8) (hb : b < 8) (hab : a ≠ b) (hz : ∀ q, q < 16 → fz q = 0) :
    ∀ q, 1 ≤ q → q < 16 → upd (upd fz (8 + a) 1) (8 + b) 1 q = lm_b (lm_kn a b 0 q) ∧ (lm_kn a b 0 q = true → vp_updL (vp_updL fr (8 + a) (lc_mix x)) (8 + b) (lc_mix y) q = lc_tv a b x y pn q) := by
  intro q h1 h16
  rw [lm_kn0 ha hb h16]
  have on8 := fun h8 => lc_on_hi a ha b hb q h16 h8
  by_cases eb : q = 8 + b
  · have hq : (q == 8 + a || q == 8 + b) = true := by simp [eb]
    rw [hq]
    have hon := (on8 (by omega)).mpr (Or.inr eb)
    rw [lc_tv_hi hon (by omega), if_neg (by omega), eb, pk_us, lm_uLs]
    exact ⟨rfl, fun _ => rfl⟩
  · by_cases ea : q = 8 + a
    · have hq : (q == 8 + a || q == 8 + b) = true := by simp [ea]
      rw [hq]
      have hon := (on8 (by omega)).mpr (Or.inl ea)
      rw [lc_tv_hi hon (by omega), if_pos ea, pk_un eb, lm_uLn _ _ eb, ea, pk_us, lm_uLs]
      exact ⟨rfl, fun _ => rfl⟩
    · have hq : (q == 8 + a || q == 8 + b) = false := by simp [ea, eb]
      rw [hq, pk_un eb, pk_un ea, hz q h16]
      exact ⟨rfl, fun h => by cases h⟩
theorem lm_kd_off0 : (List.range 8).all (fun a => (List.range 8).all (fun b => (List.range 8).all (fun m => decide (1 ≤ m ∧ lc_on a b m = false → lc_bs a b m = true ∨ lm_kd a b m (2 * m) = false)))) = true := by decide +kernel
theorem lm_kd_off {a b m : Nat} (ha : a < 8) (hb : b < 8) (hm : m < 8) (h1 : 1 ≤ m) (h : lc_on a b m = false) : lc_bs a b m = true ∨ lm_kd a b m (2 * m) = false := of_decide_eq_true (lc_all3 lm_kd_off0 ha hb hm) ⟨h1, h⟩
theorem lm_kd_self {a b m : Nat} (h : lc_on a b m = true) (h8 : m < 8) : lm_kd a b m m = false := by
  unfold lm_kd lc_bs
  rw [h, decide_eq_false (show ¬ 8 ≤ m by omega), decide_eq_false (show ¬ m < m by omega)]
  rfl
theorem lm_kd_kid {a b m q : Nat} (hq : m < q) (h : lc_on a b q = true ∨ lc_bs a b q = true) : lm_kd a b m q = true := by
  unfold lm_kd
  rcases h with h | h
  · rw [h, decide_eq_true hq]; simp
  · rw [h]; rfl
theorem lm_kd_s {a b k q : Nat} (h : q ≠ k + 1 ∨ lc_on a b (k + 1) = false) : lm_kd a b k q = lm_kd a b (k + 1) q := by
  unfold lm_kd
  by_cases e : q = k + 1
  · rcases h with h | h
    · exact absurd e h
    · rw [e, h]; rfl
  · rw [show decide (k < q) = decide (k + 1 < q) from decide_eq_decide.mpr (by omega)]
theorem lm_up1 {a b k : Nat} {x y : Int64} {pn fr : Nat → Int64} {fz : Nat → Int32} (hon : lc_on a b (k + 1) = true) (h8 : k + 1 < 8)
    (h : ∀ q, 1 ≤ q → q < 16 → fz q = lm_b (lm_kd a b (k + 1) q) ∧ (lm_kd a b (k + 1) q = true → fr q = lc_tv a b x y pn q)) :
    ∀ q, 1 ≤ q → q < 16 → upd fz (k + 1) 1 q = lm_b (lm_kd a b k q) ∧ (lm_kd a b k q = true → vp_updL fr (k + 1) (lc_tv a b x y pn (k + 1)) q = lc_tv a b x y pn q) := by
  intro q h1 h16
  by_cases e : q = k + 1
  · subst e
    rw [pk_us, lm_uLs, lm_kd_kid (m := k) (by omega) (Or.inl hon)]
    exact ⟨rfl, fun _ => rfl⟩
  · rw [pk_un e, lm_uLn _ _ e, lm_kd_s (Or.inl e)]
    exact h q h1 h16
theorem lm_up0 {a b k : Nat} {x y : Int64} {pn fr : Nat → Int64} {fz : Nat → Int32} (hon : lc_on a b (k + 1) = false)
    (h : ∀ q, 1 ≤ q → q < 16 → fz q = lm_b (lm_kd a b (k + 1) q) ∧ (lm_kd a b (k + 1) q = true → fr q = lc_tv a b x y pn q)) :
    ∀ q, 1 ≤ q → q < 16 → fz q = lm_b (lm_kd a b k q) ∧ (lm_kd a b k q = true → fr q = lc_tv a b x y pn q) := by
  intro q h1 h16
  rw [lm_kd_s (Or.inr hon)]
  exact h q h1 h16
theorem lm_prv0 : (List.range 8).all (fun a => (List.range 8).all (fun b => (List.range 16).all (fun k => decide (a ≠ b ∧ k % 2 = 1 ∧ 3 ≤ k →
    lc_on a b (k / 2) = (lc_on a b k || lc_on a b (k - 1)) ∧
    (lc_on a b k = lc_on a b (k - 1) → lc_cnt a b (k - 2) = lc_cnt a b k) ∧
    (lc_on a b k = true ∧ lc_on a b (k - 1) = false → lc_nth a b (lc_cnt a b k) = k - 1 ∧ lc_cnt a b (k - 2) = lc_cnt a b k + 1 ∧ lc_cnt a b k < 4) ∧
    (lc_on a b k = false ∧ lc_on a b (k - 1) = true → lc_nth a b (lc_cnt a b k) = k ∧ lc_cnt a b (k - 2) = lc_cnt a b k + 1 ∧ lc_cnt a b k < 4))))) = true := by decide +kernel
theorem lm_prv {a b k : Nat} (ha : a < 8) (hb : b < 8) (hk : k < 16) (h : a ≠ b ∧ k % 2 = 1 ∧ 3 ≤ k) : lc_on a b (k / 2) = (lc_on a b k || lc_on a b (k - 1)) ∧
    (lc_on a b k = lc_on a b (k - 1) → lc_cnt a b (k - 2) = lc_cnt a b k) ∧
    (lc_on a b k = true ∧ lc_on a b (k - 1) = false → lc_nth a b (lc_cnt a b k) = k - 1 ∧ lc_cnt a b (k - 2) = lc_cnt a b k + 1 ∧ lc_cnt a b k < 4) ∧
    (lc_on a b k = false ∧ lc_on a b (k - 1) = true → lc_nth a b (lc_cnt a b k) = k ∧ lc_cnt a b (k - 2) = lc_cnt a b k + 1 ∧ lc_cnt a b k < 4) := of_decide_eq_true (lc_all3 lm_prv0 ha hb hk) h
theorem lm_pk_at {a b m q : Nat} (h : 8 ≤ q ∨ m ≤ 2 * q) : lm_pk a b m q = lc_on a b q := by
  unfold lm_pk
  rcases h with h | h
  · rw [decide_eq_true h]; simp
  · rw [decide_eq_true h]; simp
theorem lm_pk_no {a b m q : Nat} (h8 : q < 8) (h : 2 * q < m) : lm_pk a b m q = false := by
  unfold lm_pk
  rw [decide_eq_false (show ¬ 8 ≤ q by omega), decide_eq_false (show ¬ m ≤ 2 * q by omega)]
  simp
theorem lm_pks {a b k : Nat} {fz : Nat → Int32} (hk : k < 16) (ho : k % 2 = 1) (h3 : 3 ≤ k) (h : ∀ q, 1 ≤ q → q < 16 → fz q = lm_b (lm_pk a b k q)) :
    ∀ q, 1 ≤ q → q < 16 → upd fz (k / 2) (lm_b (lc_on a b (k / 2))) q = lm_b (lm_pk a b (k - 2) q) := by
  intro q h1 h16
  by_cases e : q = k / 2
  · subst e
    rw [pk_us, lm_pk_at (Or.inr (by omega))]
  · rw [pk_un e, h q h1 h16]
    unfold lm_pk
    rw [show decide (k ≤ 2 * q) = decide (k - 2 ≤ 2 * q) from decide_eq_decide.mpr (by omega)]
theorem lm_pk0 {a b : Nat} {fz : Nat → Int32} (ha : a < 8) (hb : b < 8) (h : ∀ q, q < 16 → fz q = if q = 8 + a ∨ q = 8 + b then 1 else 0) : ∀ q, 1 ≤ q → q < 16 → fz q = lm_b (lm_pk a b 15 q) := by
  intro q h1 h16
  rw [h q h16]
  by_cases h8 : 8 ≤ q
  · rw [lm_pk_at (Or.inl h8)]
    unfold lm_b
    have := lc_on_hi a ha b hb q h16 h8
    by_cases z : q = 8 + a ∨ q = 8 + b
    · rw [if_pos z, if_pos (this.mpr z)]
    · rw [if_neg z, if_neg (fun w => z (this.mp w))]
  · rw [lm_pk_no (by omega) (by omega), if_neg (by omega)]
    rfl
theorem lm_m2 {n : Nat} (h : 2 ≤ n) : nI n + (-2) = nI (n - 2) := by
  obtain ⟨k, rfl⟩ : ∃ k, n = k + 2 := ⟨n - 2, by omega⟩
  rw [← nI_add, Int32.add_assoc, show nI 2 + (-2 : Int32) = 0 from by decide, Int32.add_zero, Nat.add_sub_cancel]
theorem lm_ext1 {f : Nat → Int32} {g : Nat → Nat} {n v : Nat} (h : ∀ z, z < n → f z = nI (g z)) (hv : g n = v) : ∀ z, z < n + 1 → upd f n (nI v) z = nI (g z) := by
  intro z hz
  by_cases e : z = n
  · subst e; rw [pk_us, hv]
  · rw [pk_un e]; exact h z (by omega)
theorem lm_ext2 {f g : Nat → Int64} {n : Nat} {v : Int64} (h : ∀ z, z < n → f z = g z) (hv : g n = v) : ∀ z, z < n + 1 → vp_updL f n v z = g z := by
  intro z hz
  by_cases e : z = n
  · subst e; rw [lm_uLs, hv]
  · rw [lm_uLn _ _ e]; exact h z (by omega)
set_option maxHeartbeats 4000000 in
set_option maxRecDepth 100000 in
theorem c_X8_top (l : Launch) (E : wg_E) (A : Nat → Nat) (C : wg_C) (S : lc_S) (x y : Int64) (hM : lm E A C S) (hI : lc_inv S)  : Met l yX8_top (wg_ws yX8_top cX8_top 6 (some .long)) (wg_rm 2 0 0) (wg_Pc E A C [.ref (A 1000), .long x, .long y]) (wg_Ql E (fun r A1 C1 => r = lc_top (st_pa S) (st_pb S) x y (st_pn S) ∧ A = A1 ∧ (∀ q, q ≠ 1027 → q ≠ 1028 → C1 q = C q) ∧ lm E A C1 S)) 0 0 (wg_A E) := by
  refine wg_met (by decide) (Nat.le_of_ble_eq_true rfl) ?_
  intro p e s m below meth c ls F hr hlk hnm hP hS hl
  have F : wg_F p m c cX8_top 6 s ([.ref (A 1000), .long x, .long y] : List Value).toArray "LightChecksModel" E := F
  have hx := F.1
  have hb := F.2.1
  have hml := F.2.2.1
  have hown := F.2.2.2.1
  have hts := F.2.2.2.2.1
  have hl : lv_has ls 6 [(0, .ref (A 1000)), (1, .long x), (3, .long y)] := hl
  obtain ⟨mo, ⟨g1, m1, r1⟩, ⟨g3, m3, r3⟩, ⟨g4, m4, r4⟩, ⟨g5, m5, r5⟩, ⟨g6, m6, r6⟩, ⟨g7, m7, r7⟩, ⟨g8, m8, r8⟩, ⟨g9, m9, r9⟩, ⟨g10, m10, r10⟩, ⟨g11, m11, r11⟩, ⟨g12, m12, r12⟩, ⟨g13, m13, r13⟩, ⟨g14, m14, r14⟩, ⟨g15, m15, r15⟩, ⟨g16, m16, r16⟩, ⟨g17, m17, r17⟩, ⟨g18, m18, r18⟩, ⟨g24, m24, r24⟩, ⟨g25, m25, r25⟩, ⟨g26, m26, r26⟩, ⟨g27, m27⟩, ⟨g28, m28, r28⟩⟩ := id hM
  obtain ⟨iok, ⟨itm, itm3a, itm3b⟩, icl, igv, ipa, ipb, ipab⟩ := id hI
  have ins := iok.1
  have inh := iok.2.1
  have h4 : st_ct S ≤ 4 := lc_cnt_le _ ipa _ ipb ipab
  refine lv_iconst (v := 0) hx hb dX8_top_0 (by decide) ?_
  refine lv_istore (lv' := [(5, .int 0), (0, .ref (A 1000)), (1, .long x), (3, .long y)]) hx hb dX8_top_1 hl (by decide) rfl (fun ls hl => ?_)
  have loop_a : ∀ (fuel : Nat) (k : Nat) (y5 : Int32) (fr : Nat → Int64) (fz : Nat → Int32), 16 - k < fuel → (k ≤ 16) → (y5 = nI k) → (∀ q, q < k → fz q = 0) → ∀ (Cw : wg_C) , Cw 1000 = some (.inr (8, [.int (nI (lc_ns (st_B S))), .ref (A 1001), .int (nI (lc_nh (st_B S))), .ref (A 1003), .ref (A 1004), .ref (A 1005), .ref (A 1006), .ref (A 1007), .ref (A 1008), .ref (A 1009), .ref (A 1010), .ref (A 1011), .ref (A 1012), .ref (A 1013), .ref (A 1014), .ref (A 1015), .ref (A 1016), .ref (A 1017), .ref (A 1018), .int (nI (st_pa S)), .int (nI (st_pb S)), .long (st_va S), .long (st_vb S), .int (nI (st_ct S)), .ref (A 1024), .ref (A 1025), .ref (A 1026), .ref (A 1027), .ref (A 1028)])) → Cw 1024 = some (.inl (E.2.1 0, 4, .inl g24)) → Cw 1025 = some (.inl (E.2.1 1, 4, .inr (.inl g25))) → Cw 1027 = some (.inl (E.2.1 2, 16, .inl fz)) → Cw 1028 = some (.inl (E.2.1 1, 16, .inr (.inl fr))) → (∀ r, r ≠ 1027 → r ≠ 1028 → Cw r = C r) → ∀ (H : Heap) (locs : List Loc) (ls : Array Slot), wg_P E A Cw H → va_S (wg_A E) s.heap H locs → lv_has ls 6 [(0, .ref (A 1000)), (1, .long x), (3, .long y), (5, .int y5)] → W p l e (wg_rm 2 0 0) s m ([.ref (A 1000), .long x, .long y] : List Value).toArray below meth c H locs 0 0 (MQ below (wg_Ql E (fun r A1 C1 => r = lc_top (st_pa S) (st_pb S) x y (st_pn S) ∧ A = A1 ∧ (∀ q, q ≠ 1027 → q ≠ 1028 → C1 q = C q) ∧ lm E A C1 S)) ([.ref (A 1000), .long x, .long y] : List Value).toArray s 0 0 (wg_A E)) (F0 m 3 ls []) := by
    intro fuel
    induction fuel with
    | zero => intro k y5 fr fz hm; exact absurd hm (Nat.not_lt_zero _)
    | succ fuel ih_loop_a =>
      intro k y5 fr fz hm_loop_a hk ey5 hz Cw f1000w f1024w f1025w f1027w f1028w hbase H locs ls hP hS hl
      subst ey5
      refine lv_iload hx hb dX8_top_3 (lv_at hl 3 rfl) ?_
      refine lv_bipush (v := 16) hx hb dX8_top_5 (by decide) ?_
      refine lv_icmp_ge (tgt := 32) hx hb dX8_top_7 (by decide) (fun c_7 => ?_) (fun c_7 => ?_)
      · rw [show (16 : Int32) = nI 16 from rfl, nI_leI (by decide) (by omega)] at c_7
        have hk9 : k = 16 := by omega
        rw [hk9] at hz
        refine lv_aload_n hx hb dX8_top_32 rfl (lv_at hl 0 rfl) ?_
        refine wg_get F hP f1000w rfl iw_X8 28 (by decide) tb_577 rfl rfl dX8_top_33 ?_
        refine lv_bipush (v := 8) hx hb dX8_top_36 (by decide) ?_
        refine lv_aload_n hx hb dX8_top_38 rfl (lv_at hl 0 rfl) ?_
        refine wg_get F hP f1000w rfl iw_X8 19 (by decide) tb_568 rfl rfl dX8_top_39 ?_
        refine lv_iadd hx hb dX8_top_42 ?_
        refine wg_topi (y := nI (8 + st_pa S)) (by rw [show (8 : Int32) = nI 8 from rfl, nI_add]) ?_
        refine lv_lload_n hx hb dX8_top_43 rfl (lv_at hl 1 rfl) ?_
        refine wg_cl_ hS (wg_rS (As := [.long x]) (rest := [.int (nI (8 + st_pa S)), .ref (A 1028)]) F hP hS (c_X8_mix l E A Cw _) ok_X8_mix tb_539 rfl rfl ⟨Nat.le_of_ble_eq_true rfl, Nat.le_of_ble_eq_true rfl⟩ rfl hl.1 rfl (Nat.le_of_ble_eq_true rfl) dX8_top_44 ⟨Nat.le_of_ble_eq_true rfl, Nat.le_of_ble_eq_true rfl⟩) (fun r_44 A1 C_44 H locs w_44 hP hS => ?_)
        obtain ⟨w_44, rfl, rfl⟩ := w_44
        refine wg_topl (y := lc_mix x) w_44 ?_
        refine wg_lst F hP hS f1028w (vp_in_nI (by omega) (by decide)) dX8_top_47 (fun H locs hP hS => ?_)
        obtain ⟨C_47, hC_47⟩ : ∃ z : wg_C, z = va_up Cw 1028 (some (.inl (E.2.1 1, 16, .inr (.inl (vp_updL fr (nI (8 + st_pa S)).toNatClampNeg (lc_mix x)))))) := ⟨_, rfl⟩
        have hP : wg_P E A C_47 H := by rw [hC_47]; exact hP
        have f1000w_c47 : C_47 1000 = some (.inr (8, [.int (nI (lc_ns (st_B S))), .ref (A 1001), .int (nI (lc_nh (st_B S))), .ref (A 1003), .ref (A 1004), .ref (A 1005), .ref (A 1006), .ref (A 1007), .ref (A 1008), .ref (A 1009), .ref (A 1010), .ref (A 1011), .ref (A 1012), .ref (A 1013), .ref (A 1014), .ref (A 1015), .ref (A 1016), .ref (A 1017), .ref (A 1018), .int (nI (st_pa S)), .int (nI (st_pb S)), .long (st_va S), .long (st_vb S), .int (nI (st_ct S)), .ref (A 1024), .ref (A 1025), .ref (A 1026), .ref (A 1027), .ref (A 1028)])) := by rw [hC_47]; rw [va_up_ne _ _ (by decide)]; exact f1000w
        have f1024w_c47 : C_47 1024 = some (.inl (E.2.1 0, 4, .inl g24)) := by rw [hC_47]; rw [va_up_ne _ _ (by decide)]; exact f1024w
        have f1025w_c47 : C_47 1025 = some (.inl (E.2.1 1, 4, .inr (.inl g25))) := by rw [hC_47]; rw [va_up_ne _ _ (by decide)]; exact f1025w
        have f1027w_c47 : C_47 1027 = some (.inl (E.2.1 2, 16, .inl fz)) := by rw [hC_47]; rw [va_up_ne _ _ (by decide)]; exact f1027w
        have f1028w_c47 : C_47 1028 = some (.inl (E.2.1 1, 16, .inr (.inl (vp_updL fr (nI (8 + st_pa S)).toNatClampNeg (lc_mix x))))) := by rw [hC_47]; exact va_up_self _ _ _
        refine lv_aload_n hx hb dX8_top_48 rfl (lv_at hl 0 rfl) ?_
        refine wg_get F hP f1000w_c47 rfl iw_X8 28 (by decide) tb_577 rfl rfl dX8_top_49 ?_
        refine lv_bipush (v := 8) hx hb dX8_top_52 (by decide) ?_
        refine lv_aload_n hx hb dX8_top_54 rfl (lv_at hl 0 rfl) ?_
        refine wg_get F hP f1000w_c47 rfl iw_X8 20 (by decide) tb_569 rfl rfl dX8_top_55 ?_
        refine lv_iadd hx hb dX8_top_58 ?_
        refine wg_topi (y := nI (8 + st_pb S)) (by rw [show (8 : Int32) = nI 8 from rfl, nI_add]) ?_
        refine lv_lload_n hx hb dX8_top_59 rfl (lv_at hl 2 rfl) ?_
        refine wg_cl_ hS (wg_rS (As := [.long y]) (rest := [.int (nI (8 + st_pb S)), .ref (A 1028)]) F hP hS (c_X8_mix l E A C_47 _) ok_X8_mix tb_539 rfl rfl ⟨Nat.le_of_ble_eq_true rfl, Nat.le_of_ble_eq_true rfl⟩ rfl hl.1 rfl (Nat.le_of_ble_eq_true rfl) dX8_top_60 ⟨Nat.le_of_ble_eq_true rfl, Nat.le_of_ble_eq_true rfl⟩) (fun r_60 A1 C_60 H locs w_60 hP hS => ?_)
        obtain ⟨w_60, rfl, rfl⟩ := w_60
        refine wg_topl (y := lc_mix y) w_60 ?_
        refine wg_lst F hP hS f1028w_c47 (vp_in_nI (by omega) (by decide)) dX8_top_63 (fun H locs hP hS => ?_)
        obtain ⟨C_63, hC_63⟩ : ∃ z : wg_C, z = va_up C_47 1028 (some (.inl (E.2.1 1, 16, .inr (.inl (vp_updL (vp_updL fr (nI (8 + st_pa S)).toNatClampNeg (lc_mix x)) (nI (8 + st_pb S)).toNatClampNeg (lc_mix y)))))) := ⟨_, rfl⟩
        have hP : wg_P E A C_63 H := by rw [hC_63]; exact hP
        have f1000w_c63 : C_63 1000 = some (.inr (8, [.int (nI (lc_ns (st_B S))), .ref (A 1001), .int (nI (lc_nh (st_B S))), .ref (A 1003), .ref (A 1004), .ref (A 1005), .ref (A 1006), .ref (A 1007), .ref (A 1008), .ref (A 1009), .ref (A 1010), .ref (A 1011), .ref (A 1012), .ref (A 1013), .ref (A 1014), .ref (A 1015), .ref (A 1016), .ref (A 1017), .ref (A 1018), .int (nI (st_pa S)), .int (nI (st_pb S)), .long (st_va S), .long (st_vb S), .int (nI (st_ct S)), .ref (A 1024), .ref (A 1025), .ref (A 1026), .ref (A 1027), .ref (A 1028)])) := by rw [hC_63]; rw [va_up_ne _ _ (by decide)]; exact f1000w_c47
        have f1024w_c63 : C_63 1024 = some (.inl (E.2.1 0, 4, .inl g24)) := by rw [hC_63]; rw [va_up_ne _ _ (by decide)]; exact f1024w_c47
        have f1025w_c63 : C_63 1025 = some (.inl (E.2.1 1, 4, .inr (.inl g25))) := by rw [hC_63]; rw [va_up_ne _ _ (by decide)]; exact f1025w_c47
        have f1027w_c63 : C_63 1027 = some (.inl (E.2.1 2, 16, .inl fz)) := by rw [hC_63]; rw [va_up_ne _ _ (by decide)]; exact f1027w_c47
        have f1028w_c63 : C_63 1028 = some (.inl (E.2.1 1, 16, .inr (.inl (vp_updL (vp_updL fr (nI (8 + st_pa S)).toNatClampNeg (lc_mix x)) (nI (8 + st_pb S)).toNatClampNeg (lc_mix y))))) := by rw [hC_63]; exact va_up_self _ _ _
        refine lv_aload_n hx hb dX8_top_64 rfl (lv_at hl 0 rfl) ?_
        refine wg_get F hP f1000w_c63 rfl iw_X8 27 (by decide) tb_576 rfl rfl dX8_top_65 ?_
        refine lv_bipush (v := 8) hx hb dX8_top_68 (by decide) ?_
        refine lv_aload_n hx hb dX8_top_70 rfl (lv_at hl 0 rfl) ?_
        refine wg_get F hP f1000w_c63 rfl iw_X8 19 (by decide) tb_568 rfl rfl dX8_top_71 ?_
        refine lv_iadd hx hb dX8_top_74 ?_
        refine wg_topi (y := nI (8 + st_pa S)) (by rw [show (8 : Int32) = nI 8 from rfl, nI_add]) ?_
        refine lv_iconst (v := 1) hx hb dX8_top_75 (by decide) ?_
        refine wg_zst F hP hS f1027w_c63 (Or.inr rfl) (vp_in_nI (by omega) (by decide)) dX8_top_76 (fun H locs hP hS => ?_)
        obtain ⟨C_76, hC_76⟩ : ∃ z : wg_C, z = va_up C_63 1027 (some (.inl (E.2.1 2, 16, .inl (upd fz (nI (8 + st_pa S)).toNatClampNeg 1)))) := ⟨_, rfl⟩
        have hP : wg_P E A C_76 H := by rw [hC_76]; exact hP
        have f1000w_c76 : C_76 1000 = some (.inr (8, [.int (nI (lc_ns (st_B S))), .ref (A 1001), .int (nI (lc_nh (st_B S))), .ref (A 1003), .ref (A 1004), .ref (A 1005), .ref (A 1006), .ref (A 1007), .ref (A 1008), .ref (A 1009), .ref (A 1010), .ref (A 1011), .ref (A 1012), .ref (A 1013), .ref (A 1014), .ref (A 1015), .ref (A 1016), .ref (A 1017), .ref (A 1018), .int (nI (st_pa S)), .int (nI (st_pb S)), .long (st_va S), .long (st_vb S), .int (nI (st_ct S)), .ref (A 1024), .ref (A 1025), .ref (A 1026), .ref (A 1027), .ref (A 1028)])) := by rw [hC_76]; rw [va_up_ne _ _ (by decide)]; exact f1000w_c63
        have f1024w_c76 : C_76 1024 = some (.inl (E.2.1 0, 4, .inl g24)) := by rw [hC_76]; rw [va_up_ne _ _ (by decide)]; exact f1024w_c63
        have f1025w_c76 : C_76 1025 = some (.inl (E.2.1 1, 4, .inr (.inl g25))) := by rw [hC_76]; rw [va_up_ne _ _ (by decide)]; exact f1025w_c63
        have f1027w_c76 : C_76 1027 = some (.inl (E.2.1 2, 16, .inl (upd fz (nI (8 + st_pa S)).toNatClampNeg 1))) := by rw [hC_76]; exact va_up_self _ _ _
        have f1028w_c76 : C_76 1028 = some (.inl (E.2.1 1, 16, .inr (.inl (vp_updL (vp_updL fr (nI (8 + st_pa S)).toNatClampNeg (lc_mix x)) (nI (8 + st_pb S)).toNatClampNeg (lc_mix y))))) := by rw [hC_76]; rw [va_up_ne _ _ (by decide)]; exact f1028w_c63
        refine lv_aload_n hx hb dX8_top_77 rfl (lv_at hl 0 rfl) ?_
        refine wg_get F hP f1000w_c76 rfl iw_X8 27 (by decide) tb_576 rfl rfl dX8_top_78 ?_
        refine lv_bipush (v := 8) hx hb dX8_top_81 (by decide) ?_
        refine lv_aload_n hx hb dX8_top_83 rfl (lv_at hl 0 rfl) ?_
        refine wg_get F hP f1000w_c76 rfl iw_X8 20 (by decide) tb_569 rfl rfl dX8_top_84 ?_
        refine lv_iadd hx hb dX8_top_87 ?_
        refine wg_topi (y := nI (8 + st_pb S)) (by rw [show (8 : Int32) = nI 8 from rfl, nI_add]) ?_
        refine lv_iconst (v := 1) hx hb dX8_top_88 (by decide) ?_
        refine wg_zst F hP hS f1027w_c76 (Or.inr rfl) (vp_in_nI (by omega) (by decide)) dX8_top_89 (fun H locs hP hS => ?_)
        obtain ⟨C_89, hC_89⟩ : ∃ z : wg_C, z = va_up C_76 1027 (some (.inl (E.2.1 2, 16, .inl (upd (upd fz (nI (8 + st_pa S)).toNatClampNeg 1) (nI (8 + st_pb S)).toNatClampNeg 1)))) := ⟨_, rfl⟩
        have hP : wg_P E A C_89 H := by rw [hC_89]; exact hP
        have f1000w_c89 : C_89 1000 = some (.inr (8, [.int (nI (lc_ns (st_B S))), .ref (A 1001), .int (nI (lc_nh (st_B S))), .ref (A 1003), .ref (A 1004), .ref (A 1005), .ref (A 1006), .ref (A 1007), .ref (A 1008), .ref (A 1009), .ref (A 1010), .ref (A 1011), .ref (A 1012), .ref (A 1013), .ref (A 1014), .ref (A 1015), .ref (A 1016), .ref (A 1017), .ref (A 1018), .int (nI (st_pa S)), .int (nI (st_pb S)), .long (st_va S), .long (st_vb S), .int (nI (st_ct S)), .ref (A 1024), .ref (A 1025), .ref (A 1026), .ref (A 1027), .ref (A 1028)])) := by rw [hC_89]; rw [va_up_ne _ _ (by decide)]; exact f1000w_c76
        have f1024w_c89 : C_89 1024 = some (.inl (E.2.1 0, 4, .inl g24)) := by rw [hC_89]; rw [va_up_ne _ _ (by decide)]; exact f1024w_c76
        have f1025w_c89 : C_89 1025 = some (.inl (E.2.1 1, 4, .inr (.inl g25))) := by rw [hC_89]; rw [va_up_ne _ _ (by decide)]; exact f1025w_c76
        have f1027w_c89 : C_89 1027 = some (.inl (E.2.1 2, 16, .inl (upd (upd fz (nI (8 + st_pa S)).toNatClampNeg 1) (nI (8 + st_pb S)).toNatClampNeg 1))) := by rw [hC_89]; exact va_up_self _ _ _
        have f1028w_c89 : C_89 1028 = some (.inl (E.2.1 1, 16, .inr (.inl (vp_updL (vp_updL fr (nI (8 + st_pa S)).toNatClampNeg (lc_mix x)) (nI (8 + st_pb S)).toNatClampNeg (lc_mix y))))) := by rw [hC_89]; rw [va_up_ne _ _ (by decide)]; exact f1028w_c76
        have hkn0 : ∀ q, 1 ≤ q → q < 16 → (upd (upd fz (nI (8 + st_pa S)).toNatClampNeg 1) (nI (8 + st_pb S)).toNatClampNeg 1) q = lm_b (lm_kn (st_pa S) (st_pb S) 0 q) ∧ (lm_kn (st_pa S) (st_pb S) 0 q = true → (vp_updL (vp_updL fr (nI (8 + st_pa S)).toNatClampNeg (lc_mix x)) (nI (8 + st_pb S)).toNatClampNeg (lc_mix y)) q = lc_tv (st_pa S) (st_pb S) x y (st_pn S) q) := by rw [nI_clamp (show 8 + st_pa S < 2 ^ 31 by omega), nI_clamp (show 8 + st_pb S < 2 ^ 31 by omega)]; exact lm_first ipa ipb ipab hz
        refine lv_iconst (v := 0) hx hb dX8_top_90 (by decide) ?_
        refine lv_istore (lv' := [(5, .int 0), (0, .ref (A 1000)), (1, .long x), (3, .long y)]) hx hb dX8_top_91 hl (by decide) rfl (fun ls hl => ?_)
        have loop_b : ∀ (fuel : Nat) (k : Nat) (y5 : Int32) (fr : Nat → Int64) (fz : Nat → Int32), st_ct S - k < fuel → (k ≤ st_ct S) → (y5 = nI k) → (∀ q, 1 ≤ q → q < 16 → fz q = lm_b (lm_kn (st_pa S) (st_pb S) k q) ∧ (lm_kn (st_pa S) (st_pb S) k q = true → fr q = lc_tv (st_pa S) (st_pb S) x y (st_pn S) q)) → ∀ (Cw : wg_C) , Cw 1000 = some (.inr (8, [.int (nI (lc_ns (st_B S))), .ref (A 1001), .int (nI (lc_nh (st_B S))), .ref (A 1003), .ref (A 1004), .ref (A 1005), .ref (A 1006), .ref (A 1007), .ref (A 1008), .ref (A 1009), .ref (A 1010), .ref (A 1011), .ref (A 1012), .ref (A 1013), .ref (A 1014), .ref (A 1015), .ref (A 1016), .ref (A 1017), .ref (A 1018), .int (nI (st_pa S)), .int (nI (st_pb S)), .long (st_va S), .long (st_vb S), .int (nI (st_ct S)), .ref (A 1024), .ref (A 1025), .ref (A 1026), .ref (A 1027), .ref (A 1028)])) → Cw 1024 = some (.inl (E.2.1 0, 4, .inl g24)) → Cw 1025 = some (.inl (E.2.1 1, 4, .inr (.inl g25))) → Cw 1027 = some (.inl (E.2.1 2, 16, .inl fz)) → Cw 1028 = some (.inl (E.2.1 1, 16, .inr (.inl fr))) → (∀ r, r ≠ 1027 → r ≠ 1028 → Cw r = C r) → ∀ (H : Heap) (locs : List Loc) (ls : Array Slot), wg_P E A Cw H → va_S (wg_A E) s.heap H locs → lv_has ls 6 [(0, .ref (A 1000)), (1, .long x), (3, .long y), (5, .int y5)] → W p l e (wg_rm 2 0 0) s m ([.ref (A 1000), .long x, .long y] : List Value).toArray below meth c H locs 0 0 (MQ below (wg_Ql E (fun r A1 C1 => r = lc_top (st_pa S) (st_pb S) x y (st_pn S) ∧ A = A1 ∧ (∀ q, q ≠ 1027 → q ≠ 1028 → C1 q = C q) ∧ lm E A C1 S)) ([.ref (A 1000), .long x, .long y] : List Value).toArray s 0 0 (wg_A E)) (F0 m 93 ls []) := by
          intro fuel
          induction fuel with
          | zero => intro k y5 fr fz hm; exact absurd hm (Nat.not_lt_zero _)
          | succ fuel ih_loop_b =>
            intro k y5 fr fz hm_loop_b hk ey5 hkn Cw f1000w f1024w f1025w f1027w f1028w hbase H locs ls hP hS hl
            subst ey5
            refine lv_iload hx hb dX8_top_93 (lv_at hl 3 rfl) ?_
            refine lv_aload_n hx hb dX8_top_95 rfl (lv_at hl 0 rfl) ?_
            refine wg_get F hP f1000w rfl iw_X8 23 (by decide) tb_572 rfl rfl dX8_top_96 ?_
            refine lv_icmp_ge (tgt := 140) hx hb dX8_top_99 (by decide) (fun c_99 => ?_) (fun c_99 => ?_)
            · have hk9 : k = st_ct S := by rw [nI_leI (by omega) (by omega)] at c_99; omega
              rw [hk9] at hkn
              have hkd0 : ∀ q, 1 ≤ q → q < 16 → fz q = lm_b (lm_kd (st_pa S) (st_pb S) 7 q) ∧ (lm_kd (st_pa S) (st_pb S) 7 q = true → fr q = lc_tv (st_pa S) (st_pb S) x y (st_pn S) q) := fun q h1 h2 => by rw [← lm_kn7 ipa ipb ipab h1 h2]; exact hkn q h1 h2
              refine lv_bipush (v := 7) hx hb dX8_top_140 (by decide) ?_
              refine lv_istore (lv' := [(5, .int 7), (0, .ref (A 1000)), (1, .long x), (3, .long y)]) hx hb dX8_top_142 hl (by decide) rfl (fun ls hl => ?_)
              have loop_c : ∀ (fuel : Nat) (k : Nat) (y5 : Int32) (fr : Nat → Int64) (fz : Nat → Int32), k < fuel → (k ≤ 7) → (y5 = nI k) → (∀ q, 1 ≤ q → q < 16 → fz q = lm_b (lm_kd (st_pa S) (st_pb S) k q) ∧ (lm_kd (st_pa S) (st_pb S) k q = true → fr q = lc_tv (st_pa S) (st_pb S) x y (st_pn S) q)) → ∀ (Cw : wg_C) , Cw 1000 = some (.inr (8, [.int (nI (lc_ns (st_B S))), .ref (A 1001), .int (nI (lc_nh (st_B S))), .ref (A 1003), .ref (A 1004), .ref (A 1005), .ref (A 1006), .ref (A 1007), .ref (A 1008), .ref (A 1009), .ref (A 1010), .ref (A 1011), .ref (A 1012), .ref (A 1013), .ref (A 1014), .ref (A 1015), .ref (A 1016), .ref (A 1017), .ref (A 1018), .int (nI (st_pa S)), .int (nI (st_pb S)), .long (st_va S), .long (st_vb S), .int (nI (st_ct S)), .ref (A 1024), .ref (A 1025), .ref (A 1026), .ref (A 1027), .ref (A 1028)])) → Cw 1024 = some (.inl (E.2.1 0, 4, .inl g24)) → Cw 1025 = some (.inl (E.2.1 1, 4, .inr (.inl g25))) → Cw 1027 = some (.inl (E.2.1 2, 16, .inl fz)) → Cw 1028 = some (.inl (E.2.1 1, 16, .inr (.inl fr))) → (∀ r, r ≠ 1027 → r ≠ 1028 → Cw r = C r) → ∀ (H : Heap) (locs : List Loc) (ls : Array Slot), wg_P E A Cw H → va_S (wg_A E) s.heap H locs → lv_has ls 6 [(0, .ref (A 1000)), (1, .long x), (3, .long y), (5, .int y5)] → W p l e (wg_rm 2 0 0) s m ([.ref (A 1000), .long x, .long y] : List Value).toArray below meth c H locs 0 0 (MQ below (wg_Ql E (fun r A1 C1 => r = lc_top (st_pa S) (st_pb S) x y (st_pn S) ∧ A = A1 ∧ (∀ q, q ≠ 1027 → q ≠ 1028 → C1 q = C q) ∧ lm E A C1 S)) ([.ref (A 1000), .long x, .long y] : List Value).toArray s 0 0 (wg_A E)) (F0 m 144 ls []) := by
                intro fuel
                induction fuel with
                | zero => intro k y5 fr fz hm; exact absurd hm (Nat.not_lt_zero _)
                | succ fuel ih_loop_c =>
                  intro k y5 fr fz hm_loop_c hk ey5 hkd Cw f1000w f1024w f1025w f1027w f1028w hbase H locs ls hP hS hl
                  subst ey5
                  refine lv_iload hx hb dX8_top_144 (lv_at hl 3 rfl) ?_
                  refine lv_if_le (tgt := 229) hx hb dX8_top_146 (by decide) (fun c_146 => ?_) (fun c_146 => ?_)
                  · have hk0 : k = 0 := by rw [← nI_0, nI_leI (by omega) (by decide)] at c_146; omega
                    rw [hk0] at hkd
                    refine lv_aload_n hx hb dX8_top_229 rfl (lv_at hl 0 rfl) ?_
                    refine wg_get F hP f1000w rfl iw_X8 28 (by decide) tb_577 rfl rfl dX8_top_230 ?_
                    refine lv_iconst (v := 1) hx hb dX8_top_233 (by decide) ?_
                    refine wg_lld F hP f1028w (vp_in_nI (n := 1) (by decide) (by decide)) dX8_top_234 ?_
                    refine wg_topl (y := lc_top (st_pa S) (st_pb S) x y (st_pn S)) (((hkd 1 (by decide) (by decide)).2 (lm_kd_kid (by decide) (Or.inl (lc_on_1 _ ipa _ ipb))))) ?_
                    exact wg_lret F hP hS hr hlk (⟨rfl, rfl, hbase, ⟨(hbase 1000 (by decide) (by decide)).trans hM.1, hM.2.1.same (hbase 1001 (by decide) (by decide)), hM.2.2.1.same (hbase 1003 (by decide) (by decide)), hM.2.2.2.1.same (hbase 1004 (by decide) (by decide)), hM.2.2.2.2.1.same (hbase 1005 (by decide) (by decide)), hM.2.2.2.2.2.1.same (hbase 1006 (by decide) (by decide)), hM.2.2.2.2.2.2.1.same (hbase 1007 (by decide) (by decide)), hM.2.2.2.2.2.2.2.1.same (hbase 1008 (by decide) (by decide)), hM.2.2.2.2.2.2.2.2.1.same (hbase 1009 (by decide) (by decide)), hM.2.2.2.2.2.2.2.2.2.1.same (hbase 1010 (by decide) (by decide)), hM.2.2.2.2.2.2.2.2.2.2.1.same (hbase 1011 (by decide) (by decide)), hM.2.2.2.2.2.2.2.2.2.2.2.1.same (hbase 1012 (by decide) (by decide)), hM.2.2.2.2.2.2.2.2.2.2.2.2.1.same (hbase 1013 (by decide) (by decide)), hM.2.2.2.2.2.2.2.2.2.2.2.2.2.1.same (hbase 1014 (by decide) (by decide)), hM.2.2.2.2.2.2.2.2.2.2.2.2.2.2.1.same (hbase 1015 (by decide) (by decide)), hM.2.2.2.2.2.2.2.2.2.2.2.2.2.2.2.1.same (hbase 1016 (by decide) (by decide)), hM.2.2.2.2.2.2.2.2.2.2.2.2.2.2.2.2.1.same (hbase 1017 (by decide) (by decide)), hM.2.2.2.2.2.2.2.2.2.2.2.2.2.2.2.2.2.1.same (hbase 1018 (by decide) (by decide)), hM.2.2.2.2.2.2.2.2.2.2.2.2.2.2.2.2.2.2.1.same (hbase 1024 (by decide) (by decide)), hM.2.2.2.2.2.2.2.2.2.2.2.2.2.2.2.2.2.2.2.1.same (hbase 1025 (by decide) (by decide)), hM.2.2.2.2.2.2.2.2.2.2.2.2.2.2.2.2.2.2.2.2.1.same (hbase 1026 (by decide) (by decide)), ⟨fz, f1027w⟩, ⟨fr, f1028w, trivial⟩⟩⟩) dX8_top_235
                  · obtain ⟨k, rfl⟩ : ∃ z, k = z + 1 := ⟨k - 1, by rw [← nI_0, nI_leI (by omega) (by decide)] at c_146; omega⟩
                    rcases hon : lc_on (st_pa S) (st_pb S) (k + 1) with _ | _
                    · have hkdn := lm_up0 hon hkd
                      rcases lm_kd_off ipa ipb (show k + 1 < 8 by omega) (by omega) hon with hb1 | hb1
                      · have hkk : lm_kd (st_pa S) (st_pb S) (k + 1) (k + 1) = true := by unfold lm_kd; rw [hb1]; rfl
                        refine lv_aload_n hx hb dX8_top_149 rfl (lv_at hl 0 rfl) ?_
                        refine wg_get F hP f1000w rfl iw_X8 27 (by decide) tb_576 rfl rfl dX8_top_150 ?_
                        refine lv_iload hx hb dX8_top_153 (lv_at hl 3 rfl) ?_
                        refine wg_zld F hP f1027w (vp_in_nI (by omega) (by decide)) dX8_top_155 ?_
                        refine wg_topi (y := lm_b (lm_kd (st_pa S) (st_pb S) (k + 1) (k + 1))) ((by rw [nI_clamp (by omega)]; exact (hkd _ (by omega) (by omega)).1)) ?_
                        refine lv_if_ne (tgt := 223) hx hb dX8_top_156 (by decide) (fun c_156 => ?_) (fun c_156 => ?_)
                        · obtain ⟨x_223, ex_223⟩ : ∃ y : Int32, y = nI (k + 1) + (-1) := ⟨_, rfl⟩
                          refine lv_iinc (v := x_223) (lv' := [(5, .int x_223), (0, .ref (A 1000)), (1, .long x), (3, .long y)]) hx hb dX8_top_223 hl (k := 3) rfl (by rw [ex_223]; rfl) (by decide) rfl (fun ls hl => ?_)
                          refine lv_goto (tgt := 144) hx hb dX8_top_226 (by decide) ?_
                          exact ih_loop_c k x_223 fr fz (by omega) (by omega) (by rw [ex_223]; exact pk_m1 k) hkdn Cw f1000w f1024w f1025w f1027w f1028w (fun r h0 h1 => by rw [hbase r h0 h1]) _ _ _ hP hS (lv_sub hl [1, 2, 3, 0] rfl)
                        · rw [hkk] at c_156
                          exact absurd c_156 (by decide)
                      · refine lv_aload_n hx hb dX8_top_149 rfl (lv_at hl 0 rfl) ?_
                        refine wg_get F hP f1000w rfl iw_X8 27 (by decide) tb_576 rfl rfl dX8_top_150 ?_
                        refine lv_iload hx hb dX8_top_153 (lv_at hl 3 rfl) ?_
                        refine wg_zld F hP f1027w (vp_in_nI (by omega) (by decide)) dX8_top_155 ?_
                        refine wg_topi (y := lm_b (lm_kd (st_pa S) (st_pb S) (k + 1) (k + 1))) ((by rw [nI_clamp (by omega)]; exact (hkd _ (by omega) (by omega)).1)) ?_
                        refine lv_if_ne (tgt := 223) hx hb dX8_top_156 (by decide) (fun c_156 => ?_) (fun c_156 => ?_)
                        · obtain ⟨x_223, ex_223⟩ : ∃ y : Int32, y = nI (k + 1) + (-1) := ⟨_, rfl⟩
                          refine lv_iinc (v := x_223) (lv' := [(5, .int x_223), (0, .ref (A 1000)), (1, .long x), (3, .long y)]) hx hb dX8_top_223 hl (k := 3) rfl (by rw [ex_223]; rfl) (by decide) rfl (fun ls hl => ?_)
                          refine lv_goto (tgt := 144) hx hb dX8_top_226 (by decide) ?_
                          exact ih_loop_c k x_223 fr fz (by omega) (by omega) (by rw [ex_223]; exact pk_m1 k) hkdn Cw f1000w f1024w f1025w f1027w f1028w (fun r h0 h1 => by rw [hbase r h0 h1]) _ _ _ hP hS (lv_sub hl [1, 2, 3, 0] rfl)
                        · refine lv_aload_n hx hb dX8_top_159 rfl (lv_at hl 0 rfl) ?_
                          refine wg_get F hP f1000w rfl iw_X8 27 (by decide) tb_576 rfl rfl dX8_top_160 ?_
                          refine lv_iconst (v := 2) hx hb dX8_top_163 (by decide) ?_
                          refine lv_iload hx hb dX8_top_164 (lv_at hl 3 rfl) ?_
                          refine lv_imul hx hb dX8_top_166 ?_
                          refine wg_topi (y := nI (2 * (k + 1))) (by rw [show (2 : Int32) = nI 2 from rfl, pk_mul]) ?_
                          refine wg_zld F hP f1027w (vp_in_nI (by omega) (by decide)) dX8_top_167 ?_
                          refine wg_topi (y := lm_b (lm_kd (st_pa S) (st_pb S) (k + 1) (2 * (k + 1)))) ((by rw [nI_clamp (by omega)]; exact (hkd _ (by omega) (by omega)).1)) ?_
                          refine lv_if_eq (tgt := 223) hx hb dX8_top_168 (by decide) (fun c_168 => ?_) (fun c_168 => ?_)
                          · obtain ⟨x_223, ex_223⟩ : ∃ y : Int32, y = nI (k + 1) + (-1) := ⟨_, rfl⟩
                            refine lv_iinc (v := x_223) (lv' := [(5, .int x_223), (0, .ref (A 1000)), (1, .long x), (3, .long y)]) hx hb dX8_top_223 hl (k := 3) rfl (by rw [ex_223]; rfl) (by decide) rfl (fun ls hl => ?_)
                            refine lv_goto (tgt := 144) hx hb dX8_top_226 (by decide) ?_
                            exact ih_loop_c k x_223 fr fz (by omega) (by omega) (by rw [ex_223]; exact pk_m1 k) hkdn Cw f1000w f1024w f1025w f1027w f1028w (fun r h0 h1 => by rw [hbase r h0 h1]) _ _ _ hP hS (lv_sub hl [1, 2, 3, 0] rfl)
                          · exact absurd (by rw [hb1]; rfl) c_168
                    · have kids := lc_on_kids ipa ipb (show k + 1 < 8 by omega) (by omega) hon
                      have kd0 := lm_kd_self hon (show k + 1 < 8 by omega)
                      have kd1 := lm_kd_kid (m := k + 1) (show k + 1 < 2 * (k + 1) by omega) kids.1
                      have kd2 := lm_kd_kid (m := k + 1) (show k + 1 < 2 * (k + 1) + 1 by omega) kids.2
                      refine lv_aload_n hx hb dX8_top_149 rfl (lv_at hl 0 rfl) ?_
                      refine wg_get F hP f1000w rfl iw_X8 27 (by decide) tb_576 rfl rfl dX8_top_150 ?_
                      refine lv_iload hx hb dX8_top_153 (lv_at hl 3 rfl) ?_
                      refine wg_zld F hP f1027w (vp_in_nI (by omega) (by decide)) dX8_top_155 ?_
                      refine wg_topi (y := lm_b (lm_kd (st_pa S) (st_pb S) (k + 1) (k + 1))) ((by rw [nI_clamp (by omega)]; exact (hkd _ (by omega) (by omega)).1)) ?_
                      refine lv_if_ne (tgt := 223) hx hb dX8_top_156 (by decide) (fun c_156 => ?_) (fun c_156 => ?_)
                      · exact absurd (by rw [kd0]; rfl) c_156
                      · refine lv_aload_n hx hb dX8_top_159 rfl (lv_at hl 0 rfl) ?_
                        refine wg_get F hP f1000w rfl iw_X8 27 (by decide) tb_576 rfl rfl dX8_top_160 ?_
                        refine lv_iconst (v := 2) hx hb dX8_top_163 (by decide) ?_
                        refine lv_iload hx hb dX8_top_164 (lv_at hl 3 rfl) ?_
                        refine lv_imul hx hb dX8_top_166 ?_
                        refine wg_topi (y := nI (2 * (k + 1))) (by rw [show (2 : Int32) = nI 2 from rfl, pk_mul]) ?_
                        refine wg_zld F hP f1027w (vp_in_nI (by omega) (by decide)) dX8_top_167 ?_
                        refine wg_topi (y := lm_b (lm_kd (st_pa S) (st_pb S) (k + 1) (2 * (k + 1)))) ((by rw [nI_clamp (by omega)]; exact (hkd _ (by omega) (by omega)).1)) ?_
                        refine lv_if_eq (tgt := 223) hx hb dX8_top_168 (by decide) (fun c_168 => ?_) (fun c_168 => ?_)
                        · rw [kd1] at c_168
                          exact absurd c_168 (by decide)
                        · refine lv_aload_n hx hb dX8_top_171 rfl (lv_at hl 0 rfl) ?_
                          refine wg_get F hP f1000w rfl iw_X8 27 (by decide) tb_576 rfl rfl dX8_top_172 ?_
                          refine lv_iconst (v := 2) hx hb dX8_top_175 (by decide) ?_
                          refine lv_iload hx hb dX8_top_176 (lv_at hl 3 rfl) ?_
                          refine lv_imul hx hb dX8_top_178 ?_
                          refine wg_topi (y := nI (2 * (k + 1))) (by rw [show (2 : Int32) = nI 2 from rfl, pk_mul]) ?_
                          refine lv_iconst (v := 1) hx hb dX8_top_179 (by decide) ?_
                          refine lv_iadd hx hb dX8_top_180 ?_
                          refine wg_topi (y := nI (2 * (k + 1) + 1)) (by rw [nI_1]) ?_
                          refine wg_zld F hP f1027w (vp_in_nI (by omega) (by decide)) dX8_top_181 ?_
                          refine wg_topi (y := lm_b (lm_kd (st_pa S) (st_pb S) (k + 1) (2 * (k + 1) + 1))) ((by rw [nI_clamp (by omega)]; exact (hkd _ (by omega) (by omega)).1)) ?_
                          refine lv_if_eq (tgt := 223) hx hb dX8_top_182 (by decide) (fun c_182 => ?_) (fun c_182 => ?_)
                          · rw [kd2] at c_182
                            exact absurd c_182 (by decide)
                          · refine lv_aload_n hx hb dX8_top_185 rfl (lv_at hl 0 rfl) ?_
                            refine wg_get F hP f1000w rfl iw_X8 28 (by decide) tb_577 rfl rfl dX8_top_186 ?_
                            refine lv_iload hx hb dX8_top_189 (lv_at hl 3 rfl) ?_
                            refine lv_aload_n hx hb dX8_top_191 rfl (lv_at hl 0 rfl) ?_
                            refine wg_get F hP f1000w rfl iw_X8 28 (by decide) tb_577 rfl rfl dX8_top_192 ?_
                            refine lv_iconst (v := 2) hx hb dX8_top_195 (by decide) ?_
                            refine lv_iload hx hb dX8_top_196 (lv_at hl 3 rfl) ?_
                            refine lv_imul hx hb dX8_top_198 ?_
                            refine wg_topi (y := nI (2 * (k + 1))) (by rw [show (2 : Int32) = nI 2 from rfl, pk_mul]) ?_
                            refine wg_lld F hP f1028w (vp_in_nI (by omega) (by decide)) dX8_top_199 ?_
                            refine wg_topl (y := lc_tv (st_pa S) (st_pb S) x y (st_pn S) (2 * (k + 1))) ((by rw [nI_clamp (by omega)]; exact (hkd _ (by omega) (by omega)).2 kd1)) ?_
                            refine lv_aload_n hx hb dX8_top_200 rfl (lv_at hl 0 rfl) ?_
                            refine wg_get F hP f1000w rfl iw_X8 28 (by decide) tb_577 rfl rfl dX8_top_201 ?_
                            refine lv_iconst (v := 2) hx hb dX8_top_204 (by decide) ?_
                            refine lv_iload hx hb dX8_top_205 (lv_at hl 3 rfl) ?_
                            refine lv_imul hx hb dX8_top_207 ?_
                            refine wg_topi (y := nI (2 * (k + 1))) (by rw [show (2 : Int32) = nI 2 from rfl, pk_mul]) ?_
                            refine lv_iconst (v := 1) hx hb dX8_top_208 (by decide) ?_
                            refine lv_iadd hx hb dX8_top_209 ?_
                            refine wg_topi (y := nI (2 * (k + 1) + 1)) (by rw [nI_1]) ?_
                            refine wg_lld F hP f1028w (vp_in_nI (by omega) (by decide)) dX8_top_210 ?_
                            refine wg_topl (y := lc_tv (st_pa S) (st_pb S) x y (st_pn S) (2 * (k + 1) + 1)) ((by rw [nI_clamp (by omega)]; exact (hkd _ (by omega) (by omega)).2 kd2)) ?_
                            refine wg_cl_ hS (wg_rS (As := [.long (lc_tv (st_pa S) (st_pb S) x y (st_pn S) (2 * (k + 1))), .long (lc_tv (st_pa S) (st_pb S) x y (st_pn S) (2 * (k + 1) + 1))]) (rest := [.int (nI (k + 1)), .ref (A 1028)]) F hP hS (c_X8_pair l E A Cw _ _) ok_X8_pair tb_544 rfl rfl ⟨Nat.le_of_ble_eq_true rfl, Nat.le_of_ble_eq_true rfl⟩ rfl hl.1 rfl (Nat.le_of_ble_eq_true rfl) dX8_top_211 ⟨Nat.le_of_ble_eq_true rfl, Nat.le_of_ble_eq_true rfl⟩) (fun r_211 A1 C_211 H locs w_211 hP hS => ?_)
                            obtain ⟨w_211, rfl, rfl⟩ := w_211
                            refine wg_topl (y := lc_tv (st_pa S) (st_pb S) x y (st_pn S) (k + 1)) (w_211.trans (lc_tv_lo hon (by omega) (by omega)).symm) ?_
                            refine wg_lst F hP hS f1028w (vp_in_nI (by omega) (by decide)) dX8_top_214 (fun H locs hP hS => ?_)
                            obtain ⟨C_214, hC_214⟩ : ∃ z : wg_C, z = va_up Cw 1028 (some (.inl (E.2.1 1, 16, .inr (.inl (vp_updL fr (nI (k + 1)).toNatClampNeg (lc_tv (st_pa S) (st_pb S) x y (st_pn S) (k + 1))))))) := ⟨_, rfl⟩
                            have hP : wg_P E A C_214 H := by rw [hC_214]; exact hP
                            have f1000w_c214 : C_214 1000 = some (.inr (8, [.int (nI (lc_ns (st_B S))), .ref (A 1001), .int (nI (lc_nh (st_B S))), .ref (A 1003), .ref (A 1004), .ref (A 1005), .ref (A 1006), .ref (A 1007), .ref (A 1008), .ref (A 1009), .ref (A 1010), .ref (A 1011), .ref (A 1012), .ref (A 1013), .ref (A 1014), .ref (A 1015), .ref (A 1016), .ref (A 1017), .ref (A 1018), .int (nI (st_pa S)), .int (nI (st_pb S)), .long (st_va S), .long (st_vb S), .int (nI (st_ct S)), .ref (A 1024), .ref (A 1025), .ref (A 1026), .ref (A 1027), .ref (A 1028)])) := by rw [hC_214]; rw [va_up_ne _ _ (by decide)]; exact f1000w
                            have f1024w_c214 : C_214 1024 = some (.inl (E.2.1 0, 4, .inl g24)) := by rw [hC_214]; rw [va_up_ne _ _ (by decide)]; exact f1024w
                            have f1025w_c214 : C_214 1025 = some (.inl (E.2.1 1, 4, .inr (.inl g25))) := by rw [hC_214]; rw [va_up_ne _ _ (by decide)]; exact f1025w
                            have f1027w_c214 : C_214 1027 = some (.inl (E.2.1 2, 16, .inl fz)) := by rw [hC_214]; rw [va_up_ne _ _ (by decide)]; exact f1027w
                            have f1028w_c214 : C_214 1028 = some (.inl (E.2.1 1, 16, .inr (.inl (vp_updL fr (nI (k + 1)).toNatClampNeg (lc_tv (st_pa S) (st_pb S) x y (st_pn S) (k + 1)))))) := by rw [hC_214]; exact va_up_self _ _ _
                            refine lv_aload_n hx hb dX8_top_215 rfl (lv_at hl 0 rfl) ?_
                            refine wg_get F hP f1000w_c214 rfl iw_X8 27 (by decide) tb_576 rfl rfl dX8_top_216 ?_
                            refine lv_iload hx hb dX8_top_219 (lv_at hl 3 rfl) ?_
                            refine lv_iconst (v := 1) hx hb dX8_top_221 (by decide) ?_
                            refine wg_zst F hP hS f1027w_c214 (Or.inr rfl) (vp_in_nI (by omega) (by decide)) dX8_top_222 (fun H locs hP hS => ?_)
                            obtain ⟨C_222, hC_222⟩ : ∃ z : wg_C, z = va_up C_214 1027 (some (.inl (E.2.1 2, 16, .inl (upd fz (nI (k + 1)).toNatClampNeg 1)))) := ⟨_, rfl⟩
                            have hP : wg_P E A C_222 H := by rw [hC_222]; exact hP
                            have f1000w_c222 : C_222 1000 = some (.inr (8, [.int (nI (lc_ns (st_B S))), .ref (A 1001), .int (nI (lc_nh (st_B S))), .ref (A 1003), .ref (A 1004), .ref (A 1005), .ref (A 1006), .ref (A 1007), .ref (A 1008), .ref (A 1009), .ref (A 1010), .ref (A 1011), .ref (A 1012), .ref (A 1013), .ref (A 1014), .ref (A 1015), .ref (A 1016), .ref (A 1017), .ref (A 1018), .int (nI (st_pa S)), .int (nI (st_pb S)), .long (st_va S), .long (st_vb S), .int (nI (st_ct S)), .ref (A 1024), .ref (A 1025), .ref (A 1026), .ref (A 1027), .ref (A 1028)])) := by rw [hC_222]; rw [va_up_ne _ _ (by decide)]; exact f1000w_c214
                            have f1024w_c222 : C_222 1024 = some (.inl (E.2.1 0, 4, .inl g24)) := by rw [hC_222]; rw [va_up_ne _ _ (by decide)]; exact f1024w_c214
                            have f1025w_c222 : C_222 1025 = some (.inl (E.2.1 1, 4, .inr (.inl g25))) := by rw [hC_222]; rw [va_up_ne _ _ (by decide)]; exact f1025w_c214
                            have f1027w_c222 : C_222 1027 = some (.inl (E.2.1 2, 16, .inl (upd fz (nI (k + 1)).toNatClampNeg 1))) := by rw [hC_222]; exact va_up_self _ _ _
                            have f1028w_c222 : C_222 1028 = some (.inl (E.2.1 1, 16, .inr (.inl (vp_updL fr (nI (k + 1)).toNatClampNeg (lc_tv (st_pa S) (st_pb S) x y (st_pn S) (k + 1)))))) := by rw [hC_222]; rw [va_up_ne _ _ (by decide)]; exact f1028w_c214
                            have hkdn : ∀ q, 1 ≤ q → q < 16 → (upd fz (nI (k + 1)).toNatClampNeg 1) q = lm_b (lm_kd (st_pa S) (st_pb S) k q) ∧ (lm_kd (st_pa S) (st_pb S) k q = true → (vp_updL fr (nI (k + 1)).toNatClampNeg (lc_tv (st_pa S) (st_pb S) x y (st_pn S) (k + 1))) q = lc_tv (st_pa S) (st_pb S) x y (st_pn S) q) := by rw [nI_clamp (show k + 1 < 2 ^ 31 by omega)]; exact lm_up1 hon (by omega) hkd
                            obtain ⟨x_223, ex_223⟩ : ∃ y : Int32, y = nI (k + 1) + (-1) := ⟨_, rfl⟩
                            refine lv_iinc (v := x_223) (lv' := [(5, .int x_223), (0, .ref (A 1000)), (1, .long x), (3, .long y)]) hx hb dX8_top_223 hl (k := 3) rfl (by rw [ex_223]; rfl) (by decide) rfl (fun ls hl => ?_)
                            refine lv_goto (tgt := 144) hx hb dX8_top_226 (by decide) ?_
                            exact ih_loop_c k x_223 (vp_updL fr (nI (k + 1)).toNatClampNeg (lc_tv (st_pa S) (st_pb S) x y (st_pn S) (k + 1))) (upd fz (nI (k + 1)).toNatClampNeg 1) (by omega) (by omega) (by rw [ex_223]; exact pk_m1 k) hkdn C_222 f1000w_c222 f1024w_c222 f1025w_c222 f1027w_c222 f1028w_c222 (fun r h0 h1 => by rw [hC_222, va_up_ne _ _ h0, hC_214, va_up_ne _ _ h1, hbase r h0 h1]) _ _ _ hP hS (lv_sub hl [1, 2, 3, 0] rfl)
              exact loop_c _ 7 7 fr fz (Nat.lt_succ_self _) (by omega) rfl hkd0 Cw f1000w f1024w f1025w f1027w f1028w (fun r h0 h1 => by rw [hbase r h0 h1]) _ _ _ hP hS (lv_sub hl [1, 2, 3, 0] rfl)
            · have hk9 : k < st_ct S := by rw [nI_leI (by omega) (by omega)] at c_99; omega
              obtain ⟨n1, n2, n3, n4⟩ := lc_nth_ok ipa ipb ipab hk9
              refine lv_aload_n hx hb dX8_top_102 rfl (lv_at hl 0 rfl) ?_
              refine wg_get F hP f1000w rfl iw_X8 28 (by decide) tb_577 rfl rfl dX8_top_103 ?_
              refine lv_aload_n hx hb dX8_top_106 rfl (lv_at hl 0 rfl) ?_
              refine wg_get F hP f1000w rfl iw_X8 24 (by decide) tb_573 rfl rfl dX8_top_107 ?_
              refine lv_iload hx hb dX8_top_110 (lv_at hl 3 rfl) ?_
              refine wg_ild F hP f1024w (vp_in_nI (by omega) (by decide)) dX8_top_112 ?_
              refine wg_topi (y := nI (lc_nth (st_pa S) (st_pb S) k)) ((by rw [nI_clamp (by omega)]; exact r24 k hk9)) ?_
              refine lv_aload_n hx hb dX8_top_113 rfl (lv_at hl 0 rfl) ?_
              refine wg_get F hP f1000w rfl iw_X8 25 (by decide) tb_574 rfl rfl dX8_top_114 ?_
              refine lv_iload hx hb dX8_top_117 (lv_at hl 3 rfl) ?_
              refine wg_lld F hP f1025w (vp_in_nI (by omega) (by decide)) dX8_top_119 ?_
              refine wg_topl (y := st_pn S k) ((by rw [nI_clamp (by omega)]; exact r25 k hk9)) ?_
              refine wg_lst F hP hS f1028w (vp_in_nI (by omega) (by decide)) dX8_top_120 (fun H locs hP hS => ?_)
              obtain ⟨C_120, hC_120⟩ : ∃ z : wg_C, z = va_up Cw 1028 (some (.inl (E.2.1 1, 16, .inr (.inl (vp_updL fr (nI (lc_nth (st_pa S) (st_pb S) k)).toNatClampNeg (st_pn S k)))))) := ⟨_, rfl⟩
              have hP : wg_P E A C_120 H := by rw [hC_120]; exact hP
              have f1000w_c120 : C_120 1000 = some (.inr (8, [.int (nI (lc_ns (st_B S))), .ref (A 1001), .int (nI (lc_nh (st_B S))), .ref (A 1003), .ref (A 1004), .ref (A 1005), .ref (A 1006), .ref (A 1007), .ref (A 1008), .ref (A 1009), .ref (A 1010), .ref (A 1011), .ref (A 1012), .ref (A 1013), .ref (A 1014), .ref (A 1015), .ref (A 1016), .ref (A 1017), .ref (A 1018), .int (nI (st_pa S)), .int (nI (st_pb S)), .long (st_va S), .long (st_vb S), .int (nI (st_ct S)), .ref (A 1024), .ref (A 1025), .ref (A 1026), .ref (A 1027), .ref (A 1028)])) := by rw [hC_120]; rw [va_up_ne _ _ (by decide)]; exact f1000w
              have f1024w_c120 : C_120 1024 = some (.inl (E.2.1 0, 4, .inl g24)) := by rw [hC_120]; rw [va_up_ne _ _ (by decide)]; exact f1024w
              have f1025w_c120 : C_120 1025 = some (.inl (E.2.1 1, 4, .inr (.inl g25))) := by rw [hC_120]; rw [va_up_ne _ _ (by decide)]; exact f1025w
              have f1027w_c120 : C_120 1027 = some (.inl (E.2.1 2, 16, .inl fz)) := by rw [hC_120]; rw [va_up_ne _ _ (by decide)]; exact f1027w
              have f1028w_c120 : C_120 1028 = some (.inl (E.2.1 1, 16, .inr (.inl (vp_updL fr (nI (lc_nth (st_pa S) (st_pb S) k)).toNatClampNeg (st_pn S k))))) := by rw [hC_120]; exact va_up_self _ _ _
              refine lv_aload_n hx hb dX8_top_121 rfl (lv_at hl 0 rfl) ?_
              refine wg_get F hP f1000w_c120 rfl iw_X8 27 (by decide) tb_576 rfl rfl dX8_top_122 ?_
              refine lv_aload_n hx hb dX8_top_125 rfl (lv_at hl 0 rfl) ?_
              refine wg_get F hP f1000w_c120 rfl iw_X8 24 (by decide) tb_573 rfl rfl dX8_top_126 ?_
              refine lv_iload hx hb dX8_top_129 (lv_at hl 3 rfl) ?_
              refine wg_ild F hP f1024w_c120 (vp_in_nI (by omega) (by decide)) dX8_top_131 ?_
              refine wg_topi (y := nI (lc_nth (st_pa S) (st_pb S) k)) ((by rw [nI_clamp (by omega)]; exact r24 k hk9)) ?_
              refine lv_iconst (v := 1) hx hb dX8_top_132 (by decide) ?_
              refine wg_zst F hP hS f1027w_c120 (Or.inr rfl) (vp_in_nI (by omega) (by decide)) dX8_top_133 (fun H locs hP hS => ?_)
              obtain ⟨C_133, hC_133⟩ : ∃ z : wg_C, z = va_up C_120 1027 (some (.inl (E.2.1 2, 16, .inl (upd fz (nI (lc_nth (st_pa S) (st_pb S) k)).toNatClampNeg 1)))) := ⟨_, rfl⟩
              have hP : wg_P E A C_133 H := by rw [hC_133]; exact hP
              have f1000w_c133 : C_133 1000 = some (.inr (8, [.int (nI (lc_ns (st_B S))), .ref (A 1001), .int (nI (lc_nh (st_B S))), .ref (A 1003), .ref (A 1004), .ref (A 1005), .ref (A 1006), .ref (A 1007), .ref (A 1008), .ref (A 1009), .ref (A 1010), .ref (A 1011), .ref (A 1012), .ref (A 1013), .ref (A 1014), .ref (A 1015), .ref (A 1016), .ref (A 1017), .ref (A 1018), .int (nI (st_pa S)), .int (nI (st_pb S)), .long (st_va S), .long (st_vb S), .int (nI (st_ct S)), .ref (A 1024), .ref (A 1025), .ref (A 1026), .ref (A 1027), .ref (A 1028)])) := by rw [hC_133]; rw [va_up_ne _ _ (by decide)]; exact f1000w_c120
              have f1024w_c133 : C_133 1024 = some (.inl (E.2.1 0, 4, .inl g24)) := by rw [hC_133]; rw [va_up_ne _ _ (by decide)]; exact f1024w_c120
              have f1025w_c133 : C_133 1025 = some (.inl (E.2.1 1, 4, .inr (.inl g25))) := by rw [hC_133]; rw [va_up_ne _ _ (by decide)]; exact f1025w_c120
              have f1027w_c133 : C_133 1027 = some (.inl (E.2.1 2, 16, .inl (upd fz (nI (lc_nth (st_pa S) (st_pb S) k)).toNatClampNeg 1))) := by rw [hC_133]; exact va_up_self _ _ _
              have f1028w_c133 : C_133 1028 = some (.inl (E.2.1 1, 16, .inr (.inl (vp_updL fr (nI (lc_nth (st_pa S) (st_pb S) k)).toNatClampNeg (st_pn S k))))) := by rw [hC_133]; rw [va_up_ne _ _ (by decide)]; exact f1028w_c120
              have hknn : ∀ q, 1 ≤ q → q < 16 → (upd fz (nI (lc_nth (st_pa S) (st_pb S) k)).toNatClampNeg 1) q = lm_b (lm_kn (st_pa S) (st_pb S) (k + 1) q) ∧ (lm_kn (st_pa S) (st_pb S) (k + 1) q = true → (vp_updL fr (nI (lc_nth (st_pa S) (st_pb S) k)).toNatClampNeg (st_pn S k)) q = lc_tv (st_pa S) (st_pb S) x y (st_pn S) q) := by rw [nI_clamp (show lc_nth (st_pa S) (st_pb S) k < 2 ^ 31 by omega)]; exact lm_laid ipa ipb ipab hk9 hkn
              obtain ⟨x_134, ex_134⟩ : ∃ y : Int32, y = nI k + 1 := ⟨_, rfl⟩
              refine lv_iinc (v := x_134) (lv' := [(5, .int x_134), (0, .ref (A 1000)), (1, .long x), (3, .long y)]) hx hb dX8_top_134 hl (k := 3) rfl (by rw [ex_134]; rfl) (by decide) rfl (fun ls hl => ?_)
              refine lv_goto (tgt := 93) hx hb dX8_top_137 (by decide) ?_
              exact ih_loop_b (k + 1) x_134 (vp_updL fr (nI (lc_nth (st_pa S) (st_pb S) k)).toNatClampNeg (st_pn S k)) (upd fz (nI (lc_nth (st_pa S) (st_pb S) k)).toNatClampNeg 1) (by omega) (by omega) (by rw [ex_134, nI_1]) hknn C_133 f1000w_c133 f1024w_c133 f1025w_c133 f1027w_c133 f1028w_c133 (fun r h0 h1 => by rw [hC_133, va_up_ne _ _ h0, hC_120, va_up_ne _ _ h1, hbase r h0 h1]) _ _ _ hP hS (lv_sub hl [1, 2, 3, 0] rfl)
        exact loop_b _ 0 0 (vp_updL (vp_updL fr (nI (8 + st_pa S)).toNatClampNeg (lc_mix x)) (nI (8 + st_pb S)).toNatClampNeg (lc_mix y)) (upd (upd fz (nI (8 + st_pa S)).toNatClampNeg 1) (nI (8 + st_pb S)).toNatClampNeg 1) (Nat.lt_succ_self _) (by omega) rfl hkn0 C_89 f1000w_c89 f1024w_c89 f1025w_c89 f1027w_c89 f1028w_c89 (fun r h0 h1 => by rw [hC_89, va_up_ne _ _ h0, hC_76, va_up_ne _ _ h0, hC_63, va_up_ne _ _ h1, hC_47, va_up_ne _ _ h1, hbase r h0 h1]) _ _ _ hP hS (lv_sub hl [1, 2, 3, 0] rfl)
      · rw [show (16 : Int32) = nI 16 from rfl, nI_leI (by decide) (by omega)] at c_7
        have hk9 : k < 16 := by omega
        refine lv_aload_n hx hb dX8_top_10 rfl (lv_at hl 0 rfl) ?_
        refine wg_get F hP f1000w rfl iw_X8 28 (by decide) tb_577 rfl rfl dX8_top_11 ?_
        refine lv_iload hx hb dX8_top_14 (lv_at hl 3 rfl) ?_
        refine lv_lconst (v := 0) hx hb dX8_top_16 (by decide) ?_
        refine wg_lst F hP hS f1028w (vp_in_nI (by omega) (by decide)) dX8_top_17 (fun H locs hP hS => ?_)
        obtain ⟨C_17, hC_17⟩ : ∃ z : wg_C, z = va_up Cw 1028 (some (.inl (E.2.1 1, 16, .inr (.inl (vp_updL fr (nI k).toNatClampNeg 0))))) := ⟨_, rfl⟩
        have hP : wg_P E A C_17 H := by rw [hC_17]; exact hP
        have f1000w_c17 : C_17 1000 = some (.inr (8, [.int (nI (lc_ns (st_B S))), .ref (A 1001), .int (nI (lc_nh (st_B S))), .ref (A 1003), .ref (A 1004), .ref (A 1005), .ref (A 1006), .ref (A 1007), .ref (A 1008), .ref (A 1009), .ref (A 1010), .ref (A 1011), .ref (A 1012), .ref (A 1013), .ref (A 1014), .ref (A 1015), .ref (A 1016), .ref (A 1017), .ref (A 1018), .int (nI (st_pa S)), .int (nI (st_pb S)), .long (st_va S), .long (st_vb S), .int (nI (st_ct S)), .ref (A 1024), .ref (A 1025), .ref (A 1026), .ref (A 1027), .ref (A 1028)])) := by rw [hC_17]; rw [va_up_ne _ _ (by decide)]; exact f1000w
        have f1024w_c17 : C_17 1024 = some (.inl (E.2.1 0, 4, .inl g24)) := by rw [hC_17]; rw [va_up_ne _ _ (by decide)]; exact f1024w
        have f1025w_c17 : C_17 1025 = some (.inl (E.2.1 1, 4, .inr (.inl g25))) := by rw [hC_17]; rw [va_up_ne _ _ (by decide)]; exact f1025w
        have f1027w_c17 : C_17 1027 = some (.inl (E.2.1 2, 16, .inl fz)) := by rw [hC_17]; rw [va_up_ne _ _ (by decide)]; exact f1027w
        have f1028w_c17 : C_17 1028 = some (.inl (E.2.1 1, 16, .inr (.inl (vp_updL fr (nI k).toNatClampNeg 0)))) := by rw [hC_17]; exact va_up_self _ _ _
        refine lv_aload_n hx hb dX8_top_18 rfl (lv_at hl 0 rfl) ?_
        refine wg_get F hP f1000w_c17 rfl iw_X8 27 (by decide) tb_576 rfl rfl dX8_top_19 ?_
        refine lv_iload hx hb dX8_top_22 (lv_at hl 3 rfl) ?_
        refine lv_iconst (v := 0) hx hb dX8_top_24 (by decide) ?_
        refine wg_zst F hP hS f1027w_c17 (Or.inl rfl) (vp_in_nI (by omega) (by decide)) dX8_top_25 (fun H locs hP hS => ?_)
        obtain ⟨C_25, hC_25⟩ : ∃ z : wg_C, z = va_up C_17 1027 (some (.inl (E.2.1 2, 16, .inl (upd fz (nI k).toNatClampNeg 0)))) := ⟨_, rfl⟩
        have hP : wg_P E A C_25 H := by rw [hC_25]; exact hP
        have f1000w_c25 : C_25 1000 = some (.inr (8, [.int (nI (lc_ns (st_B S))), .ref (A 1001), .int (nI (lc_nh (st_B S))), .ref (A 1003), .ref (A 1004), .ref (A 1005), .ref (A 1006), .ref (A 1007), .ref (A 1008), .ref (A 1009), .ref (A 1010), .ref (A 1011), .ref (A 1012), .ref (A 1013), .ref (A 1014), .ref (A 1015), .ref (A 1016), .ref (A 1017), .ref (A 1018), .int (nI (st_pa S)), .int (nI (st_pb S)), .long (st_va S), .long (st_vb S), .int (nI (st_ct S)), .ref (A 1024), .ref (A 1025), .ref (A 1026), .ref (A 1027), .ref (A 1028)])) := by rw [hC_25]; rw [va_up_ne _ _ (by decide)]; exact f1000w_c17
        have f1024w_c25 : C_25 1024 = some (.inl (E.2.1 0, 4, .inl g24)) := by rw [hC_25]; rw [va_up_ne _ _ (by decide)]; exact f1024w_c17
        have f1025w_c25 : C_25 1025 = some (.inl (E.2.1 1, 4, .inr (.inl g25))) := by rw [hC_25]; rw [va_up_ne _ _ (by decide)]; exact f1025w_c17
        have f1027w_c25 : C_25 1027 = some (.inl (E.2.1 2, 16, .inl (upd fz (nI k).toNatClampNeg 0))) := by rw [hC_25]; exact va_up_self _ _ _
        have f1028w_c25 : C_25 1028 = some (.inl (E.2.1 1, 16, .inr (.inl (vp_updL fr (nI k).toNatClampNeg 0)))) := by rw [hC_25]; rw [va_up_ne _ _ (by decide)]; exact f1028w_c17
        have hzn : ∀ q, q < k + 1 → (upd fz (nI k).toNatClampNeg 0) q = 0 := fun q hq => by
          rw [nI_clamp (by omega)]
          by_cases e : q = k
          · rw [e, pk_us]
          · rw [pk_un e]; exact hz q (by omega)
        obtain ⟨x_26, ex_26⟩ : ∃ y : Int32, y = nI k + 1 := ⟨_, rfl⟩
        refine lv_iinc (v := x_26) (lv' := [(5, .int x_26), (0, .ref (A 1000)), (1, .long x), (3, .long y)]) hx hb dX8_top_26 hl (k := 3) rfl (by rw [ex_26]; rfl) (by decide) rfl (fun ls hl => ?_)
        refine lv_goto (tgt := 3) hx hb dX8_top_29 (by decide) ?_
        exact ih_loop_a (k + 1) x_26 (vp_updL fr (nI k).toNatClampNeg 0) (upd fz (nI k).toNatClampNeg 0) (by omega) (by omega) (by rw [ex_26, nI_1]) hzn C_25 f1000w_c25 f1024w_c25 f1025w_c25 f1027w_c25 f1028w_c25 (fun r h0 h1 => by rw [hC_25, va_up_ne _ _ h0, hC_17, va_up_ne _ _ h1, hbase r h0 h1]) _ _ _ hP hS (lv_sub hl [1, 2, 3, 0] rfl)
  exact loop_a _ 0 0 g28 g27 (Nat.lt_succ_self _) (by omega) rfl (fun q hq => absurd hq (Nat.not_lt_zero _)) C mo m24 m25 m27 m28 (fun r _ _ => rfl) _ _ _ hP hS (lv_sub hl [1, 2, 3, 0] rfl)
set_option maxHeartbeats 4000000 in
set_option maxRecDepth 100000 in
theorem c_X8_fraud (l : Launch) (E : wg_E) (A : Nat → Nat) (C : wg_C) (S : lc_S) (b0 h : Int32) (am : Int64) (hM : lm E A C S) (hI : lc_inv S)  : Met l yX8_fraud (wg_ws yX8_fraud cX8_fraud 8 (some .int)) (wg_rm 3 0 0) (wg_Pc E A C [.ref (A 1000), .int b0, .int h, .long am]) (wg_Qi E (fun r A1 C1 => A = A1 ∧ r = op_fraud S b0 h am ∧ lm E A C1 S ∧ ∀ q, q < 1000 → C1 q = C q)) 0 0 (wg_A E) := by
  refine wg_met (by decide) (Nat.le_of_ble_eq_true rfl) ?_
  intro p e s m below meth c ls F hr hlk hnm hP hS hl
  have F : wg_F p m c cX8_fraud 8 s ([.ref (A 1000), .int b0, .int h, .long am] : List Value).toArray "LightChecksModel" E := F
  have hx := F.1
  have hb := F.2.1
  have hml := F.2.2.1
  have hown := F.2.2.2.1
  have hts := F.2.2.2.2.1
  have hl : lv_has ls 8 [(0, .ref (A 1000)), (1, .int b0), (2, .int h), (3, .long am)] := hl
  obtain ⟨mo, ⟨g1, m1, r1⟩, ⟨g3, m3, r3⟩, ⟨g4, m4, r4⟩, ⟨g5, m5, r5⟩, ⟨g6, m6, r6⟩, ⟨g7, m7, r7⟩, ⟨g8, m8, r8⟩, ⟨g9, m9, r9⟩, ⟨g10, m10, r10⟩, ⟨g11, m11, r11⟩, ⟨g12, m12, r12⟩, ⟨g13, m13, r13⟩, ⟨g14, m14, r14⟩, ⟨g15, m15, r15⟩, ⟨g16, m16, r16⟩, ⟨g17, m17, r17⟩, ⟨g18, m18, r18⟩, ⟨g24, m24, r24⟩, ⟨g25, m25, r25⟩, ⟨g26, m26, r26⟩, ⟨g27, m27⟩, ⟨g28, m28, r28⟩⟩ := id hM
  obtain ⟨iok, ⟨itm, itm3a, itm3b⟩, icl, igv, ipa, ipb, ipab⟩ := id hI
  have ins := iok.1
  have inh := iok.2.1
  refine lv_aload_n hx hb dX8_fraud_0 rfl (lv_at hl 0 rfl) ?_
  refine lv_iload_n hx hb dX8_fraud_1 rfl (lv_at hl 1 rfl) ?_
  refine wg_ci hS (wg_rV (As := [.int b0]) (rest := []) F hP hS (c_X8_isHead l E A C S b0 hM hI) ok_X8_isHead tb_658 rfl rfl ⟨Nat.le_of_ble_eq_true rfl, Nat.le_of_ble_eq_true rfl⟩ mo rfl rfl rfl hl.1 rfl (Nat.le_of_ble_eq_true rfl) dX8_fraud_2 ⟨Nat.le_of_ble_eq_true rfl, Nat.le_of_ble_eq_true rfl⟩) (fun r_2 A1 C_2 H locs w_2 hP hS => ?_)
  obtain ⟨w_2, rfl, rfl⟩ := w_2
  rcases hx_i : lc_ix b0 (lc_nh (st_B S)) with _ | i
  · have w2_i : r_2 = 0 := lc_ixr0 w_2 hx_i
    refine lv_if_eq (tgt := 22) hx hb dX8_fraud_5 (by decide) (fun c_5 => ?_) (fun c_5 => ?_)
    · refine lv_iconst (v := (-1)) hx hb dX8_fraud_22 (by decide) ?_
      exact wg_iret F hP hS hr hlk (⟨rfl, by unfold op_fraud; first | (rw [hx_i]; done) | (rw [hx_i]; rfl) | (rw [hx_i]; exact (if_pos (by omega)).symm), hM, fun _ _ => rfl⟩) dX8_fraud_23
    · exact absurd w2_i c_5
  · have w2_i : r_2 = 1 := lc_ixr1 w_2 hx_i
    obtain ⟨hi, ei, ti⟩ := lc_ix_some hx_i
    refine lv_if_eq (tgt := 22) hx hb dX8_fraud_5 (by decide) (fun c_5 => ?_) (fun c_5 => ?_)
    · exact absurd (w2_i.symm.trans c_5) (by decide)
    · refine lv_aload_n hx hb dX8_fraud_8 rfl (lv_at hl 0 rfl) ?_
      refine lv_iload_n hx hb dX8_fraud_9 rfl (lv_at hl 2 rfl) ?_
      refine wg_ci hS (wg_rV (As := [.int h]) (rest := []) F hP hS (c_X8_isHead l E A C S h hM hI) ok_X8_isHead tb_658 rfl rfl ⟨Nat.le_of_ble_eq_true rfl, Nat.le_of_ble_eq_true rfl⟩ mo rfl rfl rfl hl.1 rfl (Nat.le_of_ble_eq_true rfl) dX8_fraud_10 ⟨Nat.le_of_ble_eq_true rfl, Nat.le_of_ble_eq_true rfl⟩) (fun r_10 A1 C_10 H locs w_10 hP hS => ?_)
      obtain ⟨w_10, rfl, rfl⟩ := w_10
      rcases hx_j : lc_ix h (lc_nh (st_B S)) with _ | j
      · have w2_j : r_10 = 0 := lc_ixr0 w_10 hx_j
        refine lv_if_eq (tgt := 22) hx hb dX8_fraud_13 (by decide) (fun c_13 => ?_) (fun c_13 => ?_)
        · refine lv_iconst (v := (-1)) hx hb dX8_fraud_22 (by decide) ?_
          exact wg_iret F hP hS hr hlk (⟨rfl, by unfold op_fraud; first | (rw [hx_i, hx_j]; done) | (rw [hx_i, hx_j]; rfl) | (rw [hx_i, hx_j]; exact (if_pos (by omega)).symm), hM, fun _ _ => rfl⟩) dX8_fraud_23
        · exact absurd w2_j c_13
      · have w2_j : r_10 = 1 := lc_ixr1 w_10 hx_j
        obtain ⟨hj, ej, tj⟩ := lc_ix_some hx_j
        refine lv_if_eq (tgt := 22) hx hb dX8_fraud_13 (by decide) (fun c_13 => ?_) (fun c_13 => ?_)
        · exact absurd (w2_j.symm.trans c_13) (by decide)
        · refine lv_lload_n hx hb dX8_fraud_16 rfl (lv_at hl 3 rfl) ?_
          refine lv_lconst (v := 1) hx hb dX8_fraud_17 (by decide) ?_
          refine W.lcmp hx hb dX8_fraud_18 ?_
          refine lv_if_ge (tgt := 24) hx hb dX8_fraud_19 (by decide) (fun c_19 => ?_) (fun c_19 => ?_)
          · rw [lg_cmp_ge, Int64.le_iff_toInt_le, show (1 : Int64).toInt = 1 from by decide] at c_19
            refine lv_aload_n hx hb dX8_fraud_24 rfl (lv_at hl 0 rfl) ?_
            refine lv_aload_n hx hb dX8_fraud_25 rfl (lv_at hl 0 rfl) ?_
            refine wg_get F hP mo rfl iw_X8 21 (by decide) tb_570 rfl rfl dX8_fraud_26 ?_
            refine lv_aload_n hx hb dX8_fraud_29 rfl (lv_at hl 0 rfl) ?_
            refine wg_get F hP mo rfl iw_X8 22 (by decide) tb_571 rfl rfl dX8_fraud_30 ?_
            refine wg_cl_ hS (wg_rV (As := [.long (st_va S), .long (st_vb S)]) (rest := []) F hP hS (c_X8_top l E A C S _ _ hM hI) ok_X8_top tb_781 rfl rfl ⟨Nat.le_of_ble_eq_true rfl, Nat.le_of_ble_eq_true rfl⟩ mo rfl rfl rfl hl.1 rfl (Nat.le_of_ble_eq_true rfl) dX8_fraud_33 ⟨Nat.le_of_ble_eq_true rfl, Nat.le_of_ble_eq_true rfl⟩) (fun r_33 A1 C_33 H locs w_33 hP hS => ?_)
            obtain ⟨w_33, rfl, hfr_33, hM2⟩ := w_33
            have mo_c33 : C_33 1000 = some (.inr (8, [.int (nI (lc_ns (st_B S))), .ref (A 1001), .int (nI (lc_nh (st_B S))), .ref (A 1003), .ref (A 1004), .ref (A 1005), .ref (A 1006), .ref (A 1007), .ref (A 1008), .ref (A 1009), .ref (A 1010), .ref (A 1011), .ref (A 1012), .ref (A 1013), .ref (A 1014), .ref (A 1015), .ref (A 1016), .ref (A 1017), .ref (A 1018), .int (nI (st_pa S)), .int (nI (st_pb S)), .long (st_va S), .long (st_vb S), .int (nI (st_ct S)), .ref (A 1024), .ref (A 1025), .ref (A 1026), .ref (A 1027), .ref (A 1028)])) := by rw [hfr_33 1000 (by decide) (by decide)]; exact mo
            have m7_c33 : C_33 1007 = some (.inl (E.2.1 1, 60, .inr (.inl g7))) := by rw [hfr_33 1007 (by decide) (by decide)]; exact m7
            refine lv_aload_n hx hb dX8_fraud_36 rfl (lv_at hl 0 rfl) ?_
            refine wg_get F hP mo_c33 rfl iw_X8 7 (by decide) tb_556 rfl rfl dX8_fraud_37 ?_
            refine lv_iload_n hx hb dX8_fraud_40 rfl (lv_at hl 1 rfl) ?_
            refine wg_topi (y := nI i) ei ?_
            refine wg_lld F hP m7_c33 (vp_in_nI (by omega) (by decide)) dX8_fraud_41 ?_
            refine wg_topl (y := lc_hr (st_B S) i) ((by rw [nI_clamp (by omega)]; exact r7 i hi)) ?_
            refine W.lcmp hx hb dX8_fraud_42 ?_
            refine lv_if_eq (tgt := 49) hx hb dX8_fraud_43 (by decide) (fun c_43 => ?_) (fun c_43 => ?_)
            · rw [lg_cmp_eq, w_33] at c_43
              refine lv_aload_n hx hb dX8_fraud_49 rfl (lv_at hl 0 rfl) ?_
              refine wg_get F hP mo_c33 rfl iw_X8 21 (by decide) tb_570 rfl rfl dX8_fraud_50 ?_
              refine lv_lload_n hx hb dX8_fraud_53 rfl (lv_at hl 3 rfl) ?_
              refine W.lcmp hx hb dX8_fraud_54 ?_
              refine lv_if_lt (tgt := 62) hx hb dX8_fraud_55 (by decide) (fun c_55 => ?_) (fun c_55 => ?_)
              · rw [lg_cmp_lt, Int64.lt_iff_toInt_lt] at c_55
                refine lv_iconst (v := 0) hx hb dX8_fraud_62 (by decide) ?_
                refine lv_istore (lv' := [(5, .int 0), (0, .ref (A 1000)), (1, .int b0), (2, .int h), (3, .long am)]) hx hb dX8_fraud_63 hl (by decide) rfl (fun ls hl => ?_)
                refine lv_aload_n hx hb dX8_fraud_65 rfl (lv_at hl 1 rfl) ?_
                refine lv_iload hx hb dX8_fraud_66 (lv_at hl 0 rfl) ?_
                refine lv_if_eq (tgt := 80) hx hb dX8_fraud_68 (by decide) (fun c_68 => ?_) (fun c_68 => ?_)
                · refine lv_aload_n hx hb dX8_fraud_80 rfl (lv_at hl 1 rfl) ?_
                  refine wg_get F hP mo_c33 rfl iw_X8 21 (by decide) tb_570 rfl rfl dX8_fraud_81 ?_
                  refine lv_iload hx hb dX8_fraud_84 (lv_at hl 0 rfl) ?_
                  refine lv_if_eq (tgt := 98) hx hb dX8_fraud_86 (by decide) (fun c_86 => ?_) (fun c_86 => ?_)
                  · refine lv_aload_n hx hb dX8_fraud_98 rfl (lv_at hl 1 rfl) ?_
                    refine wg_get F hP mo_c33 rfl iw_X8 22 (by decide) tb_571 rfl rfl dX8_fraud_99 ?_
                    refine wg_cl_ hS (wg_rV (As := [.long (st_va S), .long (st_vb S)]) (rest := []) F hP hS (c_X8_top l E A C_33 S _ _ hM2 hI) ok_X8_top tb_781 rfl rfl ⟨Nat.le_of_ble_eq_true rfl, Nat.le_of_ble_eq_true rfl⟩ mo_c33 rfl rfl rfl hl.1 rfl (Nat.le_of_ble_eq_true rfl) dX8_fraud_102 ⟨Nat.le_of_ble_eq_true rfl, Nat.le_of_ble_eq_true rfl⟩) (fun r_102 A1 C_102 H locs w_102 hP hS => ?_)
                    obtain ⟨w_102, rfl, hfr_102, hM3⟩ := w_102
                    have mo_c102 : C_102 1000 = some (.inr (8, [.int (nI (lc_ns (st_B S))), .ref (A 1001), .int (nI (lc_nh (st_B S))), .ref (A 1003), .ref (A 1004), .ref (A 1005), .ref (A 1006), .ref (A 1007), .ref (A 1008), .ref (A 1009), .ref (A 1010), .ref (A 1011), .ref (A 1012), .ref (A 1013), .ref (A 1014), .ref (A 1015), .ref (A 1016), .ref (A 1017), .ref (A 1018), .int (nI (st_pa S)), .int (nI (st_pb S)), .long (st_va S), .long (st_vb S), .int (nI (st_ct S)), .ref (A 1024), .ref (A 1025), .ref (A 1026), .ref (A 1027), .ref (A 1028)])) := by rw [hfr_102 1000 (by decide) (by decide)]; exact mo_c33
                    have m7_c102 : C_102 1007 = some (.inl (E.2.1 1, 60, .inr (.inl g7))) := by rw [hfr_102 1007 (by decide) (by decide)]; exact m7_c33
                    refine lv_lstore (lv' := [(6, .long r_102), (5, .int 0), (0, .ref (A 1000)), (1, .int b0), (2, .int h), (3, .long am)]) hx hb dX8_fraud_105 hl (by decide) rfl (fun ls hl => ?_)
                    refine lv_lload hx hb dX8_fraud_107 (lv_at hl 0 rfl) ?_
                    refine lv_aload_n hx hb dX8_fraud_109 rfl (lv_at hl 2 rfl) ?_
                    refine wg_get F hP mo_c102 rfl iw_X8 7 (by decide) tb_556 rfl rfl dX8_fraud_110 ?_
                    refine lv_iload_n hx hb dX8_fraud_113 rfl (lv_at hl 4 rfl) ?_
                    refine wg_topi (y := nI j) ej ?_
                    refine wg_lld F hP m7_c102 (vp_in_nI (by omega) (by decide)) dX8_fraud_114 ?_
                    refine wg_topl (y := lc_hr (st_B S) j) ((by rw [nI_clamp (by omega)]; exact r7 j hj)) ?_
                    refine W.lcmp hx hb dX8_fraud_115 ?_
                    refine lv_if_ne (tgt := 123) hx hb dX8_fraud_116 (by decide) (fun c_116 => ?_) (fun c_116 => ?_)
                    · rw [lg_cmp_eq, w_102] at c_116
                      refine lv_iconst (v := 1) hx hb dX8_fraud_123 (by decide) ?_
                      exact wg_iret F hP hS hr hlk (⟨rfl, by unfold op_fraud; rw [hx_i, hx_j]; simp only []; rw [if_neg (by omega), if_pos c_43, if_pos c_55]; exact (if_neg c_116).symm, hM3, fun q hq => (hfr_102 q (by omega) (by omega)).trans (hfr_33 q (by omega) (by omega))⟩) dX8_fraud_124
                    · rw [lg_cmp_eq, w_102] at c_116
                      refine lv_iconst (v := 0) hx hb dX8_fraud_119 (by decide) ?_
                      refine lv_goto (tgt := 124) hx hb dX8_fraud_120 (by decide) ?_
                      exact wg_iret F hP hS hr hlk (⟨rfl, by unfold op_fraud; rw [hx_i, hx_j]; simp only []; rw [if_neg (by omega), if_pos c_43, if_pos c_55]; exact (if_pos c_116).symm, hM3, fun q hq => (hfr_102 q (by omega) (by omega)).trans (hfr_33 q (by omega) (by omega))⟩) dX8_fraud_124
                  · exact absurd rfl c_86
                · exact absurd rfl c_68
              · rw [lg_cmp_lt, Int64.lt_iff_toInt_lt] at c_55
                refine lv_iconst (v := 1) hx hb dX8_fraud_58 (by decide) ?_
                refine lv_goto (tgt := 63) hx hb dX8_fraud_59 (by decide) ?_
                refine lv_istore (lv' := [(5, .int 1), (0, .ref (A 1000)), (1, .int b0), (2, .int h), (3, .long am)]) hx hb dX8_fraud_63 hl (by decide) rfl (fun ls hl => ?_)
                refine lv_aload_n hx hb dX8_fraud_65 rfl (lv_at hl 1 rfl) ?_
                refine lv_iload hx hb dX8_fraud_66 (lv_at hl 0 rfl) ?_
                refine lv_if_eq (tgt := 80) hx hb dX8_fraud_68 (by decide) (fun c_68 => ?_) (fun c_68 => ?_)
                · exact absurd c_68 (by decide)
                · refine lv_aload_n hx hb dX8_fraud_71 rfl (lv_at hl 1 rfl) ?_
                  refine wg_get F hP mo_c33 rfl iw_X8 21 (by decide) tb_570 rfl rfl dX8_fraud_72 ?_
                  refine lv_lload_n hx hb dX8_fraud_75 rfl (lv_at hl 4 rfl) ?_
                  refine lv_lsub hx hb dX8_fraud_76 ?_
                  refine lv_goto (tgt := 84) hx hb dX8_fraud_77 (by decide) ?_
                  refine lv_iload hx hb dX8_fraud_84 (lv_at hl 0 rfl) ?_
                  refine lv_if_eq (tgt := 98) hx hb dX8_fraud_86 (by decide) (fun c_86 => ?_) (fun c_86 => ?_)
                  · exact absurd c_86 (by decide)
                  · refine lv_aload_n hx hb dX8_fraud_89 rfl (lv_at hl 1 rfl) ?_
                    refine wg_get F hP mo_c33 rfl iw_X8 22 (by decide) tb_571 rfl rfl dX8_fraud_90 ?_
                    refine lv_lload_n hx hb dX8_fraud_93 rfl (lv_at hl 4 rfl) ?_
                    refine lv_ladd hx hb dX8_fraud_94 ?_
                    refine lv_goto (tgt := 102) hx hb dX8_fraud_95 (by decide) ?_
                    refine wg_cl_ hS (wg_rV (As := [.long ((st_va S) - am), .long ((st_vb S) + am)]) (rest := []) F hP hS (c_X8_top l E A C_33 S _ _ hM2 hI) ok_X8_top tb_781 rfl rfl ⟨Nat.le_of_ble_eq_true rfl, Nat.le_of_ble_eq_true rfl⟩ mo_c33 rfl rfl rfl hl.1 rfl (Nat.le_of_ble_eq_true rfl) dX8_fraud_102 ⟨Nat.le_of_ble_eq_true rfl, Nat.le_of_ble_eq_true rfl⟩) (fun r_102 A1 C_102 H locs w_102 hP hS => ?_)
                    obtain ⟨w_102, rfl, hfr_102, hM3⟩ := w_102
                    have mo_c102 : C_102 1000 = some (.inr (8, [.int (nI (lc_ns (st_B S))), .ref (A 1001), .int (nI (lc_nh (st_B S))), .ref (A 1003), .ref (A 1004), .ref (A 1005), .ref (A 1006), .ref (A 1007), .ref (A 1008), .ref (A 1009), .ref (A 1010), .ref (A 1011), .ref (A 1012), .ref (A 1013), .ref (A 1014), .ref (A 1015), .ref (A 1016), .ref (A 1017), .ref (A 1018), .int (nI (st_pa S)), .int (nI (st_pb S)), .long (st_va S), .long (st_vb S), .int (nI (st_ct S)), .ref (A 1024), .ref (A 1025), .ref (A 1026), .ref (A 1027), .ref (A 1028)])) := by rw [hfr_102 1000 (by decide) (by decide)]; exact mo_c33
                    have m7_c102 : C_102 1007 = some (.inl (E.2.1 1, 60, .inr (.inl g7))) := by rw [hfr_102 1007 (by decide) (by decide)]; exact m7_c33
                    refine lv_lstore (lv' := [(6, .long r_102), (5, .int 1), (0, .ref (A 1000)), (1, .int b0), (2, .int h), (3, .long am)]) hx hb dX8_fraud_105 hl (by decide) rfl (fun ls hl => ?_)
                    refine lv_lload hx hb dX8_fraud_107 (lv_at hl 0 rfl) ?_
                    refine lv_aload_n hx hb dX8_fraud_109 rfl (lv_at hl 2 rfl) ?_
                    refine wg_get F hP mo_c102 rfl iw_X8 7 (by decide) tb_556 rfl rfl dX8_fraud_110 ?_
                    refine lv_iload_n hx hb dX8_fraud_113 rfl (lv_at hl 4 rfl) ?_
                    refine wg_topi (y := nI j) ej ?_
                    refine wg_lld F hP m7_c102 (vp_in_nI (by omega) (by decide)) dX8_fraud_114 ?_
                    refine wg_topl (y := lc_hr (st_B S) j) ((by rw [nI_clamp (by omega)]; exact r7 j hj)) ?_
                    refine W.lcmp hx hb dX8_fraud_115 ?_
                    refine lv_if_ne (tgt := 123) hx hb dX8_fraud_116 (by decide) (fun c_116 => ?_) (fun c_116 => ?_)
                    · rw [lg_cmp_eq, w_102] at c_116
                      refine lv_iconst (v := 1) hx hb dX8_fraud_123 (by decide) ?_
                      exact wg_iret F hP hS hr hlk (⟨rfl, by unfold op_fraud; rw [hx_i, hx_j]; simp only []; rw [if_neg (by omega), if_pos c_43, if_neg c_55]; exact (if_neg c_116).symm, hM3, fun q hq => (hfr_102 q (by omega) (by omega)).trans (hfr_33 q (by omega) (by omega))⟩) dX8_fraud_124
                    · rw [lg_cmp_eq, w_102] at c_116
                      refine lv_iconst (v := 0) hx hb dX8_fraud_119 (by decide) ?_
                      refine lv_goto (tgt := 124) hx hb dX8_fraud_120 (by decide) ?_
                      exact wg_iret F hP hS hr hlk (⟨rfl, by unfold op_fraud; rw [hx_i, hx_j]; simp only []; rw [if_neg (by omega), if_pos c_43, if_neg c_55]; exact (if_pos c_116).symm, hM3, fun q hq => (hfr_102 q (by omega) (by omega)).trans (hfr_33 q (by omega) (by omega))⟩) dX8_fraud_124
            · rw [lg_cmp_eq, w_33] at c_43
              refine lv_bipush (v := (-2)) hx hb dX8_fraud_46 (by decide) ?_
              exact wg_iret F hP hS hr hlk (⟨rfl, by unfold op_fraud; rw [hx_i, hx_j]; simp only []; rw [if_neg (by omega), if_neg c_43], hM2, fun q hq => hfr_33 q (by omega) (by omega)⟩) dX8_fraud_48
          · rw [lg_cmp_ge, Int64.le_iff_toInt_le, show (1 : Int64).toInt = 1 from by decide] at c_19
            refine lv_iconst (v := (-1)) hx hb dX8_fraud_22 (by decide) ?_
            exact wg_iret F hP hS hr hlk (⟨rfl, by unfold op_fraud; first | (rw [hx_i, hx_j]; done) | (rw [hx_i, hx_j]; rfl) | (rw [hx_i, hx_j]; exact (if_pos (by omega)).symm), hM, fun _ _ => rfl⟩) dX8_fraud_23
set_option maxHeartbeats 4000000 in
set_option maxRecDepth 100000 in
theorem c_X8_prove (l : Launch) (E : wg_E) (A : Nat → Nat) (C : wg_C) (S : lc_S) (a b : Int32) (hM : lm E A C S) (hI : lc_inv S)  : Met l yX8_prove (wg_ws yX8_prove cX8_prove 5 (some .int)) (wg_rm 3 0 0) (wg_Pc E A C [.ref (A 1000), .int a, .int b]) (wg_Qi E (fun r A1 C1 => A = A1 ∧ r = (op_prove S a b).1 ∧ lm E A C1 (op_prove S a b).2 ∧ ∀ q, q < 1000 → C1 q = C q)) 0 0 (wg_A E) := by
  refine wg_met (by decide) (Nat.le_of_ble_eq_true rfl) ?_
  intro p e s m below meth c ls F hr hlk hnm hP hS hl
  have F : wg_F p m c cX8_prove 5 s ([.ref (A 1000), .int a, .int b] : List Value).toArray "LightChecksModel" E := F
  have hx := F.1
  have hb := F.2.1
  have hml := F.2.2.1
  have hown := F.2.2.2.1
  have hts := F.2.2.2.2.1
  have hl : lv_has ls 5 [(0, .ref (A 1000)), (1, .int a), (2, .int b)] := hl
  obtain ⟨mo, ⟨g1, m1, r1⟩, ⟨g3, m3, r3⟩, ⟨g4, m4, r4⟩, ⟨g5, m5, r5⟩, ⟨g6, m6, r6⟩, ⟨g7, m7, r7⟩, ⟨g8, m8, r8⟩, ⟨g9, m9, r9⟩, ⟨g10, m10, r10⟩, ⟨g11, m11, r11⟩, ⟨g12, m12, r12⟩, ⟨g13, m13, r13⟩, ⟨g14, m14, r14⟩, ⟨g15, m15, r15⟩, ⟨g16, m16, r16⟩, ⟨g17, m17, r17⟩, ⟨g18, m18, r18⟩, ⟨g24, m24, r24⟩, ⟨g25, m25, r25⟩, ⟨g26, m26, r26⟩, ⟨g27, m27⟩, ⟨g28, m28, r28⟩⟩ := id hM
  obtain ⟨iok, ⟨itm, itm3a, itm3b⟩, icl, igv, ipa, ipb, ipab⟩ := id hI
  have ins := iok.1
  have inh := iok.2.1
  refine lv_iload_n hx hb dX8_prove_0 rfl (lv_at hl 1 rfl) ?_
  refine lv_i2l (v := a.toInt64) hx hb dX8_prove_1 rfl ?_
  refine lv_lconst (v := 0) hx hb dX8_prove_2 (by decide) ?_
  refine lv_ldc2 (v := 7) hx hb hown (hts _ tb_531) dX8_prove_3 ?_
  refine wg_ci hS (wg_rS (As := [.long a.toInt64, .long 0, .long 7]) (rest := []) F hP hS (c_X8_in l E A C _ _ _) ok_X8_in tb_532 rfl rfl ⟨Nat.le_of_ble_eq_true rfl, Nat.le_of_ble_eq_true rfl⟩ rfl hl.1 rfl (Nat.le_of_ble_eq_true rfl) dX8_prove_6 ⟨Nat.le_of_ble_eq_true rfl, Nat.le_of_ble_eq_true rfl⟩) (fun r_6 A1 C_6 H locs w_6 hP hS => ?_)
  obtain ⟨w_6, rfl, rfl⟩ := w_6
  simp only [lc_i2l, show (0 : Int64).toInt = 0 from by decide, show (1 : Int64).toInt = 1 from by decide, show (2 : Int64).toInt = 2 from by decide, show (3 : Int64).toInt = 3 from by decide, show (4 : Int64).toInt = 4 from by decide, show (5 : Int64).toInt = 5 from by decide, show (7 : Int64).toInt = 7 from by decide, show (9 : Int64).toInt = 9 from by decide, show (10 : Int64).toInt = 10 from by decide, show (15 : Int64).toInt = 15 from by decide, show (60 : Int64).toInt = 60 from by decide, show (1000 : Int64).toInt = 1000 from by decide, show (100000 : Int64).toInt = 100000 from by decide, show (1000000 : Int64).toInt = 1000000 from by decide] at w_6
  refine lv_if_eq (tgt := 29) hx hb dX8_prove_9 (by decide) (fun c_9 => ?_) (fun c_9 => ?_)
  · have q_9 := lc_if1 w_6 c_9
    have hop : op_prove S a b = (-1, S) := by unfold op_prove; rw [lc_ix_no (k := a) (by omega)]
    refine lv_iconst (v := (-1)) hx hb dX8_prove_29 (by decide) ?_
    exact wg_iret F hP hS hr hlk (⟨rfl, by rw [hop], by rw [hop]; exact hM, fun _ _ => rfl⟩) dX8_prove_30
  · have q_9 := lc_if2 w_6 c_9
    obtain ⟨i, hi31, ei⟩ := nI_of (x := a) (by rw [Int32.lt_iff_toInt_lt, lc_t0i]; omega)
    have ti : a.toInt = (i : Int) := by rw [ei, nI_toInt hi31]
    have hi : i < 8 := by omega
    have hx_i : lc_ix a 8 = some i := by rw [ei]; exact lc_ix_in hi (by decide)
    refine lv_iload_n hx hb dX8_prove_12 rfl (lv_at hl 2 rfl) ?_
    refine lv_i2l (v := b.toInt64) hx hb dX8_prove_13 rfl ?_
    refine lv_lconst (v := 0) hx hb dX8_prove_14 (by decide) ?_
    refine lv_ldc2 (v := 7) hx hb hown (hts _ tb_531) dX8_prove_15 ?_
    refine wg_ci hS (wg_rS (As := [.long b.toInt64, .long 0, .long 7]) (rest := []) F hP hS (c_X8_in l E A C _ _ _) ok_X8_in tb_532 rfl rfl ⟨Nat.le_of_ble_eq_true rfl, Nat.le_of_ble_eq_true rfl⟩ rfl hl.1 rfl (Nat.le_of_ble_eq_true rfl) dX8_prove_18 ⟨Nat.le_of_ble_eq_true rfl, Nat.le_of_ble_eq_true rfl⟩) (fun r_18 A1 C_18 H locs w_18 hP hS => ?_)
    obtain ⟨w_18, rfl, rfl⟩ := w_18
    simp only [lc_i2l, show (0 : Int64).toInt = 0 from by decide, show (1 : Int64).toInt = 1 from by decide, show (2 : Int64).toInt = 2 from by decide, show (3 : Int64).toInt = 3 from by decide, show (4 : Int64).toInt = 4 from by decide, show (5 : Int64).toInt = 5 from by decide, show (7 : Int64).toInt = 7 from by decide, show (9 : Int64).toInt = 9 from by decide, show (10 : Int64).toInt = 10 from by decide, show (15 : Int64).toInt = 15 from by decide, show (60 : Int64).toInt = 60 from by decide, show (1000 : Int64).toInt = 1000 from by decide, show (100000 : Int64).toInt = 100000 from by decide, show (1000000 : Int64).toInt = 1000000 from by decide] at w_18
    refine lv_if_eq (tgt := 29) hx hb dX8_prove_21 (by decide) (fun c_21 => ?_) (fun c_21 => ?_)
    · have q_21 := lc_if1 w_18 c_21
      have hop : op_prove S a b = (-1, S) := by unfold op_prove; rw [hx_i, lc_ix_no (k := b) (by omega)]
      refine lv_iconst (v := (-1)) hx hb dX8_prove_29 (by decide) ?_
      exact wg_iret F hP hS hr hlk (⟨rfl, by rw [hop], by rw [hop]; exact hM, fun _ _ => rfl⟩) dX8_prove_30
    · have q_21 := lc_if2 w_18 c_21
      obtain ⟨j, hj31, ej⟩ := nI_of (x := b) (by rw [Int32.lt_iff_toInt_lt, lc_t0i]; omega)
      have tj : b.toInt = (j : Int) := by rw [ej, nI_toInt hj31]
      have hj : j < 8 := by omega
      have hx_j : lc_ix b 8 = some j := by rw [ej]; exact lc_ix_in hj (by decide)
      refine lv_iload_n hx hb dX8_prove_24 rfl (lv_at hl 1 rfl) ?_
      refine lv_iload_n hx hb dX8_prove_25 rfl (lv_at hl 2 rfl) ?_
      refine lv_icmp_ne (tgt := 31) hx hb dX8_prove_26 (by decide) (fun c_26 => ?_) (fun c_26 => ?_)
      · have hij : i ≠ j := fun q => c_26 (by rw [ei, ej, q])
        have hop : op_prove S a b = (nI (lc_cnt i j 1), up_pf S i j (st_lf S i) (st_lf S j) (lc_tk i j (st_lf S) (st_pn S) 1)) := by unfold op_prove; rw [hx_i, hx_j]; exact if_neg hij
        have hc4 := lc_cnt_le i hi j hj hij
        refine lv_aload_n hx hb dX8_prove_31 rfl (lv_at hl 0 rfl) ?_
        refine wg_cv hS (wg_rV (As := []) (rest := []) F hP hS (c_X8_grow l E A C S hM hI) ok_X8_grow tb_535 rfl rfl ⟨Nat.le_of_ble_eq_true rfl, Nat.le_of_ble_eq_true rfl⟩ mo rfl rfl rfl hl.1 rfl (Nat.le_of_ble_eq_true rfl) dX8_prove_32 ⟨Nat.le_of_ble_eq_true rfl, Nat.le_of_ble_eq_true rfl⟩) (fun A1 C_32 H locs w_32 hP hS => ?_)
        obtain ⟨rfl, hfr_32, nd, hnd, hn⟩ := w_32
        have mo_c32 : C_32 1000 = some (.inr (8, [.int (nI (lc_ns (st_B S))), .ref (A 1001), .int (nI (lc_nh (st_B S))), .ref (A 1003), .ref (A 1004), .ref (A 1005), .ref (A 1006), .ref (A 1007), .ref (A 1008), .ref (A 1009), .ref (A 1010), .ref (A 1011), .ref (A 1012), .ref (A 1013), .ref (A 1014), .ref (A 1015), .ref (A 1016), .ref (A 1017), .ref (A 1018), .int (nI (st_pa S)), .int (nI (st_pb S)), .long (st_va S), .long (st_vb S), .int (nI (st_ct S)), .ref (A 1024), .ref (A 1025), .ref (A 1026), .ref (A 1027), .ref (A 1028)])) := by rw [hfr_32 1000 (by decide)]; exact mo
        have m17_c32 : C_32 1017 = some (.inl (E.2.1 1, 8, .inr (.inl g17))) := by rw [hfr_32 1017 (by decide)]; exact m17
        have m24_c32 : C_32 1024 = some (.inl (E.2.1 0, 4, .inl g24)) := by rw [hfr_32 1024 (by decide)]; exact m24
        have m25_c32 : C_32 1025 = some (.inl (E.2.1 1, 4, .inr (.inl g25))) := by rw [hfr_32 1025 (by decide)]; exact m25
        have m27_c32 : C_32 1027 = some (.inl (E.2.1 2, 16, .inl g27)) := by rw [hfr_32 1027 (by decide)]; exact m27
        have f1018_c32 : C_32 1018 = some (.inl (E.2.1 1, 16, .inr (.inl nd))) := hnd
        refine lv_iconst (v := 0) hx hb dX8_prove_35 (by decide) ?_
        refine lv_istore_n (lv' := [(3, .int 0), (0, .ref (A 1000)), (1, .int a), (2, .int b)]) hx hb dX8_prove_36 rfl hl (by decide) rfl (fun ls hl => ?_)
        have loop_37 : ∀ (fuel : Nat) (k : Nat) (y3 : Int32) (fz : Nat → Int32), 16 - k < fuel → (k ≤ 16) → (y3 = nI k) → (∀ q, q < k → fz q = if q = 8 + i ∨ q = 8 + j then 1 else 0) → ∀ (Cw : wg_C) , Cw 1000 = some (.inr (8, [.int (nI (lc_ns (st_B S))), .ref (A 1001), .int (nI (lc_nh (st_B S))), .ref (A 1003), .ref (A 1004), .ref (A 1005), .ref (A 1006), .ref (A 1007), .ref (A 1008), .ref (A 1009), .ref (A 1010), .ref (A 1011), .ref (A 1012), .ref (A 1013), .ref (A 1014), .ref (A 1015), .ref (A 1016), .ref (A 1017), .ref (A 1018), .int (nI (st_pa S)), .int (nI (st_pb S)), .long (st_va S), .long (st_vb S), .int (nI (st_ct S)), .ref (A 1024), .ref (A 1025), .ref (A 1026), .ref (A 1027), .ref (A 1028)])) → Cw 1017 = some (.inl (E.2.1 1, 8, .inr (.inl g17))) → Cw 1018 = some (.inl (E.2.1 1, 16, .inr (.inl nd))) → Cw 1024 = some (.inl (E.2.1 0, 4, .inl g24)) → Cw 1025 = some (.inl (E.2.1 1, 4, .inr (.inl g25))) → Cw 1027 = some (.inl (E.2.1 2, 16, .inl fz)) → (∀ r, r ≠ 1018 → r ≠ 1027 → Cw r = C r) → ∀ (H : Heap) (locs : List Loc) (ls : Array Slot), wg_P E A Cw H → va_S (wg_A E) s.heap H locs → lv_has ls 5 [(0, .ref (A 1000)), (1, .int a), (2, .int b), (3, .int y3)] → W p l e (wg_rm 3 0 0) s m ([.ref (A 1000), .int a, .int b] : List Value).toArray below meth c H locs 0 0 (MQ below (wg_Qi E (fun r A1 C1 => A = A1 ∧ r = (op_prove S a b).1 ∧ lm E A C1 (op_prove S a b).2 ∧ ∀ q, q < 1000 → C1 q = C q)) ([.ref (A 1000), .int a, .int b] : List Value).toArray s 0 0 (wg_A E)) (F0 m 37 ls []) := by
          intro fuel
          induction fuel with
          | zero => intro k y3 fz hm; exact absurd hm (Nat.not_lt_zero _)
          | succ fuel ih_loop_37 =>
            intro k y3 fz hm_loop_37 hk ey3 hz Cw f1000w f1017w f1018w f1024w f1025w f1027w hbase H locs ls hP hS hl
            subst ey3
            refine lv_iload_n hx hb dX8_prove_37 rfl (lv_at hl 3 rfl) ?_
            refine lv_bipush (v := 16) hx hb dX8_prove_38 (by decide) ?_
            refine lv_icmp_ge (tgt := 76) hx hb dX8_prove_40 (by decide) (fun c_40 => ?_) (fun c_40 => ?_)
            · have hk9 : k = 16 := by rw [show (16 : Int32) = nI 16 from rfl, nI_leI (by decide) (by omega)] at c_40; omega
              rw [hk9] at hz
              have hpk0 := lm_pk0 hi hj hz
              refine lv_aload_n hx hb dX8_prove_76 rfl (lv_at hl 0 rfl) ?_
              refine lv_iload_n hx hb dX8_prove_77 rfl (lv_at hl 1 rfl) ?_
              refine wg_topi (y := nI i) ei ?_
              refine wg_put F hP hS f1000w rfl iw_X8 tyX8_ok nmX8 19 (by decide) tb_568 rfl rfl rfl (Nat.le_of_ble_eq_true rfl) dX8_prove_78 (fun H locs hP hS => ?_)
              obtain ⟨C_78, hC_78⟩ : ∃ z : wg_C, z = va_up Cw 1000 (some (.inr (8, [.int (nI (lc_ns (st_B S))), .ref (A 1001), .int (nI (lc_nh (st_B S))), .ref (A 1003), .ref (A 1004), .ref (A 1005), .ref (A 1006), .ref (A 1007), .ref (A 1008), .ref (A 1009), .ref (A 1010), .ref (A 1011), .ref (A 1012), .ref (A 1013), .ref (A 1014), .ref (A 1015), .ref (A 1016), .ref (A 1017), .ref (A 1018), .int (nI i), .int (nI (st_pb S)), .long (st_va S), .long (st_vb S), .int (nI (st_ct S)), .ref (A 1024), .ref (A 1025), .ref (A 1026), .ref (A 1027), .ref (A 1028)]))) := ⟨_, rfl⟩
              have hP : wg_P E A C_78 H := by rw [hC_78]; exact hP
              have f1000w_c78 : C_78 1000 = some (.inr (8, [.int (nI (lc_ns (st_B S))), .ref (A 1001), .int (nI (lc_nh (st_B S))), .ref (A 1003), .ref (A 1004), .ref (A 1005), .ref (A 1006), .ref (A 1007), .ref (A 1008), .ref (A 1009), .ref (A 1010), .ref (A 1011), .ref (A 1012), .ref (A 1013), .ref (A 1014), .ref (A 1015), .ref (A 1016), .ref (A 1017), .ref (A 1018), .int (nI i), .int (nI (st_pb S)), .long (st_va S), .long (st_vb S), .int (nI (st_ct S)), .ref (A 1024), .ref (A 1025), .ref (A 1026), .ref (A 1027), .ref (A 1028)])) := by rw [hC_78]; exact va_up_self _ _ _
              have f1017w_c78 : C_78 1017 = some (.inl (E.2.1 1, 8, .inr (.inl g17))) := by rw [hC_78]; rw [va_up_ne _ _ (by decide)]; exact f1017w
              have f1018w_c78 : C_78 1018 = some (.inl (E.2.1 1, 16, .inr (.inl nd))) := by rw [hC_78]; rw [va_up_ne _ _ (by decide)]; exact f1018w
              have f1024w_c78 : C_78 1024 = some (.inl (E.2.1 0, 4, .inl g24)) := by rw [hC_78]; rw [va_up_ne _ _ (by decide)]; exact f1024w
              have f1025w_c78 : C_78 1025 = some (.inl (E.2.1 1, 4, .inr (.inl g25))) := by rw [hC_78]; rw [va_up_ne _ _ (by decide)]; exact f1025w
              have f1027w_c78 : C_78 1027 = some (.inl (E.2.1 2, 16, .inl fz)) := by rw [hC_78]; rw [va_up_ne _ _ (by decide)]; exact f1027w
              refine lv_aload_n hx hb dX8_prove_81 rfl (lv_at hl 0 rfl) ?_
              refine lv_iload_n hx hb dX8_prove_82 rfl (lv_at hl 2 rfl) ?_
              refine wg_topi (y := nI j) ej ?_
              refine wg_put F hP hS f1000w_c78 rfl iw_X8 tyX8_ok nmX8 20 (by decide) tb_569 rfl rfl rfl (Nat.le_of_ble_eq_true rfl) dX8_prove_83 (fun H locs hP hS => ?_)
              obtain ⟨C_83, hC_83⟩ : ∃ z : wg_C, z = va_up C_78 1000 (some (.inr (8, [.int (nI (lc_ns (st_B S))), .ref (A 1001), .int (nI (lc_nh (st_B S))), .ref (A 1003), .ref (A 1004), .ref (A 1005), .ref (A 1006), .ref (A 1007), .ref (A 1008), .ref (A 1009), .ref (A 1010), .ref (A 1011), .ref (A 1012), .ref (A 1013), .ref (A 1014), .ref (A 1015), .ref (A 1016), .ref (A 1017), .ref (A 1018), .int (nI i), .int (nI j), .long (st_va S), .long (st_vb S), .int (nI (st_ct S)), .ref (A 1024), .ref (A 1025), .ref (A 1026), .ref (A 1027), .ref (A 1028)]))) := ⟨_, rfl⟩
              have hP : wg_P E A C_83 H := by rw [hC_83]; exact hP
              have f1000w_c83 : C_83 1000 = some (.inr (8, [.int (nI (lc_ns (st_B S))), .ref (A 1001), .int (nI (lc_nh (st_B S))), .ref (A 1003), .ref (A 1004), .ref (A 1005), .ref (A 1006), .ref (A 1007), .ref (A 1008), .ref (A 1009), .ref (A 1010), .ref (A 1011), .ref (A 1012), .ref (A 1013), .ref (A 1014), .ref (A 1015), .ref (A 1016), .ref (A 1017), .ref (A 1018), .int (nI i), .int (nI j), .long (st_va S), .long (st_vb S), .int (nI (st_ct S)), .ref (A 1024), .ref (A 1025), .ref (A 1026), .ref (A 1027), .ref (A 1028)])) := by rw [hC_83]; exact va_up_self _ _ _
              have f1017w_c83 : C_83 1017 = some (.inl (E.2.1 1, 8, .inr (.inl g17))) := by rw [hC_83]; rw [va_up_ne _ _ (by decide)]; exact f1017w_c78
              have f1018w_c83 : C_83 1018 = some (.inl (E.2.1 1, 16, .inr (.inl nd))) := by rw [hC_83]; rw [va_up_ne _ _ (by decide)]; exact f1018w_c78
              have f1024w_c83 : C_83 1024 = some (.inl (E.2.1 0, 4, .inl g24)) := by rw [hC_83]; rw [va_up_ne _ _ (by decide)]; exact f1024w_c78
              have f1025w_c83 : C_83 1025 = some (.inl (E.2.1 1, 4, .inr (.inl g25))) := by rw [hC_83]; rw [va_up_ne _ _ (by decide)]; exact f1025w_c78
              have f1027w_c83 : C_83 1027 = some (.inl (E.2.1 2, 16, .inl fz)) := by rw [hC_83]; rw [va_up_ne _ _ (by decide)]; exact f1027w_c78
              refine lv_aload_n hx hb dX8_prove_86 rfl (lv_at hl 0 rfl) ?_
              refine lv_aload_n hx hb dX8_prove_87 rfl (lv_at hl 0 rfl) ?_
              refine wg_get F hP f1000w_c83 rfl iw_X8 17 (by decide) tb_566 rfl rfl dX8_prove_88 ?_
              refine lv_iload_n hx hb dX8_prove_91 rfl (lv_at hl 1 rfl) ?_
              refine wg_topi (y := nI i) ei ?_
              refine wg_lld F hP f1017w_c83 (vp_in_nI (by omega) (by decide)) dX8_prove_92 ?_
              refine wg_topl (y := st_lf S i) ((by rw [nI_clamp (by omega)]; exact r17 i hi)) ?_
              refine wg_put F hP hS f1000w_c83 rfl iw_X8 tyX8_ok nmX8 21 (by decide) tb_570 rfl rfl rfl (Nat.le_of_ble_eq_true rfl) dX8_prove_93 (fun H locs hP hS => ?_)
              obtain ⟨C_93, hC_93⟩ : ∃ z : wg_C, z = va_up C_83 1000 (some (.inr (8, [.int (nI (lc_ns (st_B S))), .ref (A 1001), .int (nI (lc_nh (st_B S))), .ref (A 1003), .ref (A 1004), .ref (A 1005), .ref (A 1006), .ref (A 1007), .ref (A 1008), .ref (A 1009), .ref (A 1010), .ref (A 1011), .ref (A 1012), .ref (A 1013), .ref (A 1014), .ref (A 1015), .ref (A 1016), .ref (A 1017), .ref (A 1018), .int (nI i), .int (nI j), .long (st_lf S i), .long (st_vb S), .int (nI (st_ct S)), .ref (A 1024), .ref (A 1025), .ref (A 1026), .ref (A 1027), .ref (A 1028)]))) := ⟨_, rfl⟩
              have hP : wg_P E A C_93 H := by rw [hC_93]; exact hP
              have f1000w_c93 : C_93 1000 = some (.inr (8, [.int (nI (lc_ns (st_B S))), .ref (A 1001), .int (nI (lc_nh (st_B S))), .ref (A 1003), .ref (A 1004), .ref (A 1005), .ref (A 1006), .ref (A 1007), .ref (A 1008), .ref (A 1009), .ref (A 1010), .ref (A 1011), .ref (A 1012), .ref (A 1013), .ref (A 1014), .ref (A 1015), .ref (A 1016), .ref (A 1017), .ref (A 1018), .int (nI i), .int (nI j), .long (st_lf S i), .long (st_vb S), .int (nI (st_ct S)), .ref (A 1024), .ref (A 1025), .ref (A 1026), .ref (A 1027), .ref (A 1028)])) := by rw [hC_93]; exact va_up_self _ _ _
              have f1017w_c93 : C_93 1017 = some (.inl (E.2.1 1, 8, .inr (.inl g17))) := by rw [hC_93]; rw [va_up_ne _ _ (by decide)]; exact f1017w_c83
              have f1018w_c93 : C_93 1018 = some (.inl (E.2.1 1, 16, .inr (.inl nd))) := by rw [hC_93]; rw [va_up_ne _ _ (by decide)]; exact f1018w_c83
              have f1024w_c93 : C_93 1024 = some (.inl (E.2.1 0, 4, .inl g24)) := by rw [hC_93]; rw [va_up_ne _ _ (by decide)]; exact f1024w_c83
              have f1025w_c93 : C_93 1025 = some (.inl (E.2.1 1, 4, .inr (.inl g25))) := by rw [hC_93]; rw [va_up_ne _ _ (by decide)]; exact f1025w_c83
              have f1027w_c93 : C_93 1027 = some (.inl (E.2.1 2, 16, .inl fz)) := by rw [hC_93]; rw [va_up_ne _ _ (by decide)]; exact f1027w_c83
              refine lv_aload_n hx hb dX8_prove_96 rfl (lv_at hl 0 rfl) ?_
              refine lv_aload_n hx hb dX8_prove_97 rfl (lv_at hl 0 rfl) ?_
              refine wg_get F hP f1000w_c93 rfl iw_X8 17 (by decide) tb_566 rfl rfl dX8_prove_98 ?_
              refine lv_iload_n hx hb dX8_prove_101 rfl (lv_at hl 2 rfl) ?_
              refine wg_topi (y := nI j) ej ?_
              refine wg_lld F hP f1017w_c93 (vp_in_nI (by omega) (by decide)) dX8_prove_102 ?_
              refine wg_topl (y := st_lf S j) ((by rw [nI_clamp (by omega)]; exact r17 j hj)) ?_
              refine wg_put F hP hS f1000w_c93 rfl iw_X8 tyX8_ok nmX8 22 (by decide) tb_571 rfl rfl rfl (Nat.le_of_ble_eq_true rfl) dX8_prove_103 (fun H locs hP hS => ?_)
              obtain ⟨C_103, hC_103⟩ : ∃ z : wg_C, z = va_up C_93 1000 (some (.inr (8, [.int (nI (lc_ns (st_B S))), .ref (A 1001), .int (nI (lc_nh (st_B S))), .ref (A 1003), .ref (A 1004), .ref (A 1005), .ref (A 1006), .ref (A 1007), .ref (A 1008), .ref (A 1009), .ref (A 1010), .ref (A 1011), .ref (A 1012), .ref (A 1013), .ref (A 1014), .ref (A 1015), .ref (A 1016), .ref (A 1017), .ref (A 1018), .int (nI i), .int (nI j), .long (st_lf S i), .long (st_lf S j), .int (nI (st_ct S)), .ref (A 1024), .ref (A 1025), .ref (A 1026), .ref (A 1027), .ref (A 1028)]))) := ⟨_, rfl⟩
              have hP : wg_P E A C_103 H := by rw [hC_103]; exact hP
              have f1000w_c103 : C_103 1000 = some (.inr (8, [.int (nI (lc_ns (st_B S))), .ref (A 1001), .int (nI (lc_nh (st_B S))), .ref (A 1003), .ref (A 1004), .ref (A 1005), .ref (A 1006), .ref (A 1007), .ref (A 1008), .ref (A 1009), .ref (A 1010), .ref (A 1011), .ref (A 1012), .ref (A 1013), .ref (A 1014), .ref (A 1015), .ref (A 1016), .ref (A 1017), .ref (A 1018), .int (nI i), .int (nI j), .long (st_lf S i), .long (st_lf S j), .int (nI (st_ct S)), .ref (A 1024), .ref (A 1025), .ref (A 1026), .ref (A 1027), .ref (A 1028)])) := by rw [hC_103]; exact va_up_self _ _ _
              have f1017w_c103 : C_103 1017 = some (.inl (E.2.1 1, 8, .inr (.inl g17))) := by rw [hC_103]; rw [va_up_ne _ _ (by decide)]; exact f1017w_c93
              have f1018w_c103 : C_103 1018 = some (.inl (E.2.1 1, 16, .inr (.inl nd))) := by rw [hC_103]; rw [va_up_ne _ _ (by decide)]; exact f1018w_c93
              have f1024w_c103 : C_103 1024 = some (.inl (E.2.1 0, 4, .inl g24)) := by rw [hC_103]; rw [va_up_ne _ _ (by decide)]; exact f1024w_c93
              have f1025w_c103 : C_103 1025 = some (.inl (E.2.1 1, 4, .inr (.inl g25))) := by rw [hC_103]; rw [va_up_ne _ _ (by decide)]; exact f1025w_c93
              have f1027w_c103 : C_103 1027 = some (.inl (E.2.1 2, 16, .inl fz)) := by rw [hC_103]; rw [va_up_ne _ _ (by decide)]; exact f1027w_c93
              refine lv_aload_n hx hb dX8_prove_106 rfl (lv_at hl 0 rfl) ?_
              refine lv_iconst (v := 0) hx hb dX8_prove_107 (by decide) ?_
              refine wg_topi (y := nI (lc_cnt i j 15)) rfl ?_
              refine wg_put F hP hS f1000w_c103 rfl iw_X8 tyX8_ok nmX8 23 (by decide) tb_572 rfl rfl rfl (Nat.le_of_ble_eq_true rfl) dX8_prove_108 (fun H locs hP hS => ?_)
              obtain ⟨C_108, hC_108⟩ : ∃ z : wg_C, z = va_up C_103 1000 (some (.inr (8, [.int (nI (lc_ns (st_B S))), .ref (A 1001), .int (nI (lc_nh (st_B S))), .ref (A 1003), .ref (A 1004), .ref (A 1005), .ref (A 1006), .ref (A 1007), .ref (A 1008), .ref (A 1009), .ref (A 1010), .ref (A 1011), .ref (A 1012), .ref (A 1013), .ref (A 1014), .ref (A 1015), .ref (A 1016), .ref (A 1017), .ref (A 1018), .int (nI i), .int (nI j), .long (st_lf S i), .long (st_lf S j), .int (nI (lc_cnt i j 15)), .ref (A 1024), .ref (A 1025), .ref (A 1026), .ref (A 1027), .ref (A 1028)]))) := ⟨_, rfl⟩
              have hP : wg_P E A C_108 H := by rw [hC_108]; exact hP
              have f1000w_c108 : C_108 1000 = some (.inr (8, [.int (nI (lc_ns (st_B S))), .ref (A 1001), .int (nI (lc_nh (st_B S))), .ref (A 1003), .ref (A 1004), .ref (A 1005), .ref (A 1006), .ref (A 1007), .ref (A 1008), .ref (A 1009), .ref (A 1010), .ref (A 1011), .ref (A 1012), .ref (A 1013), .ref (A 1014), .ref (A 1015), .ref (A 1016), .ref (A 1017), .ref (A 1018), .int (nI i), .int (nI j), .long (st_lf S i), .long (st_lf S j), .int (nI (lc_cnt i j 15)), .ref (A 1024), .ref (A 1025), .ref (A 1026), .ref (A 1027), .ref (A 1028)])) := by rw [hC_108]; exact va_up_self _ _ _
              have f1017w_c108 : C_108 1017 = some (.inl (E.2.1 1, 8, .inr (.inl g17))) := by rw [hC_108]; rw [va_up_ne _ _ (by decide)]; exact f1017w_c103
              have f1018w_c108 : C_108 1018 = some (.inl (E.2.1 1, 16, .inr (.inl nd))) := by rw [hC_108]; rw [va_up_ne _ _ (by decide)]; exact f1018w_c103
              have f1024w_c108 : C_108 1024 = some (.inl (E.2.1 0, 4, .inl g24)) := by rw [hC_108]; rw [va_up_ne _ _ (by decide)]; exact f1024w_c103
              have f1025w_c108 : C_108 1025 = some (.inl (E.2.1 1, 4, .inr (.inl g25))) := by rw [hC_108]; rw [va_up_ne _ _ (by decide)]; exact f1025w_c103
              have f1027w_c108 : C_108 1027 = some (.inl (E.2.1 2, 16, .inl fz)) := by rw [hC_108]; rw [va_up_ne _ _ (by decide)]; exact f1027w_c103
              refine lv_bipush (v := 15) hx hb dX8_prove_111 (by decide) ?_
              refine lv_istore_n (lv' := [(3, .int 15), (0, .ref (A 1000)), (1, .int a), (2, .int b)]) hx hb dX8_prove_113 rfl hl (by decide) rfl (fun ls hl => ?_)
              have loop_114 : ∀ (fuel : Nat) (k : Nat) (y3 : Int32) (fz : Nat → Int32) (fn : Nat → Int32) (fv : Nat → Int64), k < fuel → (k ≤ 15) → (k % 2 = 1) → (y3 = nI k) → (∀ q, 1 ≤ q → q < 16 → fz q = lm_b (lm_pk i j k q)) → (∀ z, z < lc_cnt i j k → fn z = nI (lc_nth i j z)) → (∀ z, z < lc_cnt i j k → fv z = lc_node (st_lf S) (lc_nth i j z)) → ∀ (Cw : wg_C) , Cw 1000 = some (.inr (8, [.int (nI (lc_ns (st_B S))), .ref (A 1001), .int (nI (lc_nh (st_B S))), .ref (A 1003), .ref (A 1004), .ref (A 1005), .ref (A 1006), .ref (A 1007), .ref (A 1008), .ref (A 1009), .ref (A 1010), .ref (A 1011), .ref (A 1012), .ref (A 1013), .ref (A 1014), .ref (A 1015), .ref (A 1016), .ref (A 1017), .ref (A 1018), .int (nI i), .int (nI j), .long (st_lf S i), .long (st_lf S j), .int (nI (lc_cnt i j k)), .ref (A 1024), .ref (A 1025), .ref (A 1026), .ref (A 1027), .ref (A 1028)])) → Cw 1018 = some (.inl (E.2.1 1, 16, .inr (.inl nd))) → Cw 1024 = some (.inl (E.2.1 0, 4, .inl fn)) → Cw 1025 = some (.inl (E.2.1 1, 4, .inr (.inl fv))) → Cw 1027 = some (.inl (E.2.1 2, 16, .inl fz)) → (∀ r, r ≠ 1000 → r ≠ 1018 → r ≠ 1024 → r ≠ 1025 → r ≠ 1027 → Cw r = C r) → ∀ (H : Heap) (locs : List Loc) (ls : Array Slot), wg_P E A Cw H → va_S (wg_A E) s.heap H locs → lv_has ls 5 [(0, .ref (A 1000)), (1, .int a), (2, .int b), (3, .int y3)] → W p l e (wg_rm 3 0 0) s m ([.ref (A 1000), .int a, .int b] : List Value).toArray below meth c H locs 0 0 (MQ below (wg_Qi E (fun r A1 C1 => A = A1 ∧ r = (op_prove S a b).1 ∧ lm E A C1 (op_prove S a b).2 ∧ ∀ q, q < 1000 → C1 q = C q)) ([.ref (A 1000), .int a, .int b] : List Value).toArray s 0 0 (wg_A E)) (F0 m 114 ls []) := by
                intro fuel
                induction fuel with
                | zero => intro k y3 fz fn fv hm; exact absurd hm (Nat.not_lt_zero _)
                | succ fuel ih_loop_114 =>
                  intro k y3 fz fn fv hm_loop_114 hk hodd ey3 hpk hfn hfv Cw f1000w f1018w f1024w f1025w f1027w hbase H locs ls hP hS hl
                  subst ey3
                  refine lv_iload_n hx hb dX8_prove_114 rfl (lv_at hl 3 rfl) ?_
                  refine lv_iconst (v := 1) hx hb dX8_prove_115 (by decide) ?_
                  refine lv_icmp_le (tgt := 241) hx hb dX8_prove_116 (by decide) (fun c_116 => ?_) (fun c_116 => ?_)
                  · have hk1 : k = 1 := by rw [show (1 : Int32) = nI 1 from rfl, nI_leI (by omega) (by decide)] at c_116; omega
                    subst hk1
                    refine lv_aload_n hx hb dX8_prove_241 rfl (lv_at hl 0 rfl) ?_
                    refine wg_get F hP f1000w rfl iw_X8 23 (by decide) tb_572 rfl rfl dX8_prove_242 ?_
                    exact wg_iret F hP hS hr hlk (⟨rfl, by rw [hop], by rw [hop]; exact ⟨f1000w, hM.2.1.same (hbase 1001 (by decide) (by decide) (by decide) (by decide) (by decide)), hM.2.2.1.same (hbase 1003 (by decide) (by decide) (by decide) (by decide) (by decide)), hM.2.2.2.1.same (hbase 1004 (by decide) (by decide) (by decide) (by decide) (by decide)), hM.2.2.2.2.1.same (hbase 1005 (by decide) (by decide) (by decide) (by decide) (by decide)), hM.2.2.2.2.2.1.same (hbase 1006 (by decide) (by decide) (by decide) (by decide) (by decide)), hM.2.2.2.2.2.2.1.same (hbase 1007 (by decide) (by decide) (by decide) (by decide) (by decide)), hM.2.2.2.2.2.2.2.1.same (hbase 1008 (by decide) (by decide) (by decide) (by decide) (by decide)), hM.2.2.2.2.2.2.2.2.1.same (hbase 1009 (by decide) (by decide) (by decide) (by decide) (by decide)), hM.2.2.2.2.2.2.2.2.2.1.same (hbase 1010 (by decide) (by decide) (by decide) (by decide) (by decide)), hM.2.2.2.2.2.2.2.2.2.2.1.same (hbase 1011 (by decide) (by decide) (by decide) (by decide) (by decide)), hM.2.2.2.2.2.2.2.2.2.2.2.1.same (hbase 1012 (by decide) (by decide) (by decide) (by decide) (by decide)), hM.2.2.2.2.2.2.2.2.2.2.2.2.1.same (hbase 1013 (by decide) (by decide) (by decide) (by decide) (by decide)), hM.2.2.2.2.2.2.2.2.2.2.2.2.2.1.same (hbase 1014 (by decide) (by decide) (by decide) (by decide) (by decide)), hM.2.2.2.2.2.2.2.2.2.2.2.2.2.2.1.same (hbase 1015 (by decide) (by decide) (by decide) (by decide) (by decide)), hM.2.2.2.2.2.2.2.2.2.2.2.2.2.2.2.1.same (hbase 1016 (by decide) (by decide) (by decide) (by decide) (by decide)), hM.2.2.2.2.2.2.2.2.2.2.2.2.2.2.2.2.1.same (hbase 1017 (by decide) (by decide) (by decide) (by decide) (by decide)), ⟨nd, f1018w, trivial⟩, ⟨fn, f1024w, hfn⟩, ⟨fv, f1025w, fun z hz => (hfv z hz).trans (if_pos hz).symm⟩, hM.2.2.2.2.2.2.2.2.2.2.2.2.2.2.2.2.2.2.2.2.1.same (hbase 1026 (by decide) (by decide) (by decide) (by decide) (by decide)), ⟨fz, f1027w⟩, hM.2.2.2.2.2.2.2.2.2.2.2.2.2.2.2.2.2.2.2.2.2.2.same (hbase 1028 (by decide) (by decide) (by decide) (by decide) (by decide))⟩, fun q hq => hbase q (by omega) (by omega) (by omega) (by omega) (by omega)⟩) dX8_prove_245
                  · have h3 : 3 ≤ k := by rw [show (1 : Int32) = nI 1 from rfl, nI_leI (by omega) (by decide)] at c_116; omega
                    have pt := lm_prv hi hj (show k < 16 by omega) ⟨hij, hodd, h3⟩
                    have k0 : fz (k / 2) = 0 := by rw [hpk _ (by omega) (by omega), lm_pk_no (by omega) (by omega)]; rfl
                    have k3 : fz k = lm_b (lc_on i j (k)) := by rw [hpk _ (by omega) (by omega), lm_pk_at (Or.inr (by omega))]
                    have k2 : fz (k - 1) = lm_b (lc_on i j (k - 1)) := by rw [hpk _ (by omega) (by omega), lm_pk_at (Or.inr (by omega))]
                    cases hk1 : lc_on i j (k) <;> cases hk2 : lc_on i j (k - 1)
                    · rw [hk1] at k3
                      rw [hk2] at k2
                      have ho : lc_on i j (k / 2) = false := by rw [pt.1, hk1, hk2]; rfl
                      have hct : lc_cnt i j (k - 2) = lc_cnt i j k := pt.2.1 (hk1.trans hk2.symm)
                      refine lv_aload_n hx hb dX8_prove_119 rfl (lv_at hl 0 rfl) ?_
                      refine wg_get F hP f1000w rfl iw_X8 27 (by decide) tb_576 rfl rfl dX8_prove_120 ?_
                      refine lv_iload_n hx hb dX8_prove_123 rfl (lv_at hl 3 rfl) ?_
                      refine wg_zld F hP f1027w (vp_in_nI (by omega) (by decide)) dX8_prove_124 ?_
                      refine wg_topi (y := 0) ((by rw [nI_clamp (by omega)]; exact k3)) ?_
                      refine lv_aload_n hx hb dX8_prove_125 rfl (lv_at hl 0 rfl) ?_
                      refine wg_get F hP f1000w rfl iw_X8 27 (by decide) tb_576 rfl rfl dX8_prove_126 ?_
                      refine lv_iload_n hx hb dX8_prove_129 rfl (lv_at hl 3 rfl) ?_
                      refine lv_iconst (v := 1) hx hb dX8_prove_130 (by decide) ?_
                      refine lv_isub hx hb dX8_prove_131 ?_
                      refine wg_topi (y := nI (k - 1)) (by rw [show (1 : Int32) = nI 1 from rfl, pk_sub (by omega)]) ?_
                      refine wg_zld F hP f1027w (vp_in_nI (by omega) (by decide)) dX8_prove_132 ?_
                      refine wg_topi (y := 0) ((by rw [nI_clamp (by omega)]; exact k2)) ?_
                      refine lv_icmp_eq (tgt := 191) hx hb dX8_prove_133 (by decide) (fun c_133 => ?_) (fun c_133 => ?_)
                      · refine lv_aload_n hx hb dX8_prove_191 rfl (lv_at hl 0 rfl) ?_
                        refine wg_get F hP f1000w rfl iw_X8 27 (by decide) tb_576 rfl rfl dX8_prove_192 ?_
                        refine lv_iload_n hx hb dX8_prove_195 rfl (lv_at hl 3 rfl) ?_
                        refine lv_iconst (v := 2) hx hb dX8_prove_196 (by decide) ?_
                        refine lv_idiv hx hb dX8_prove_197 (by decide) ?_
                        refine wg_topi (y := nI (k / 2)) (by rw [show (2 : Int32) = nI 2 from rfl, pk_div (by omega) (by decide) (by decide)]) ?_
                        refine lv_aload_n hx hb dX8_prove_198 rfl (lv_at hl 0 rfl) ?_
                        refine wg_get F hP f1000w rfl iw_X8 27 (by decide) tb_576 rfl rfl dX8_prove_199 ?_
                        refine lv_iload_n hx hb dX8_prove_202 rfl (lv_at hl 3 rfl) ?_
                        refine lv_iconst (v := 2) hx hb dX8_prove_203 (by decide) ?_
                        refine lv_idiv hx hb dX8_prove_204 (by decide) ?_
                        refine wg_topi (y := nI (k / 2)) (by rw [show (2 : Int32) = nI 2 from rfl, pk_div (by omega) (by decide) (by decide)]) ?_
                        refine wg_zld F hP f1027w (vp_in_nI (by omega) (by decide)) dX8_prove_205 ?_
                        refine wg_topi (y := 0) ((by rw [nI_clamp (by omega)]; exact k0)) ?_
                        refine lv_if_ne (tgt := 229) hx hb dX8_prove_206 (by decide) (fun c_206 => ?_) (fun c_206 => ?_)
                        · exact absurd rfl c_206
                        · refine lv_aload_n hx hb dX8_prove_209 rfl (lv_at hl 0 rfl) ?_
                          refine wg_get F hP f1000w rfl iw_X8 27 (by decide) tb_576 rfl rfl dX8_prove_210 ?_
                          refine lv_iload_n hx hb dX8_prove_213 rfl (lv_at hl 3 rfl) ?_
                          refine wg_zld F hP f1027w (vp_in_nI (by omega) (by decide)) dX8_prove_214 ?_
                          refine wg_topi (y := 0) ((by rw [nI_clamp (by omega)]; exact k3)) ?_
                          refine lv_if_ne (tgt := 229) hx hb dX8_prove_215 (by decide) (fun c_215 => ?_) (fun c_215 => ?_)
                          · exact absurd rfl c_215
                          · refine lv_aload_n hx hb dX8_prove_218 rfl (lv_at hl 0 rfl) ?_
                            refine wg_get F hP f1000w rfl iw_X8 27 (by decide) tb_576 rfl rfl dX8_prove_219 ?_
                            refine lv_iload_n hx hb dX8_prove_222 rfl (lv_at hl 3 rfl) ?_
                            refine lv_iconst (v := 1) hx hb dX8_prove_223 (by decide) ?_
                            refine lv_isub hx hb dX8_prove_224 ?_
                            refine wg_topi (y := nI (k - 1)) (by rw [show (1 : Int32) = nI 1 from rfl, pk_sub (by omega)]) ?_
                            refine wg_zld F hP f1027w (vp_in_nI (by omega) (by decide)) dX8_prove_225 ?_
                            refine wg_topi (y := 0) ((by rw [nI_clamp (by omega)]; exact k2)) ?_
                            refine lv_if_eq (tgt := 233) hx hb dX8_prove_226 (by decide) (fun c_226 => ?_) (fun c_226 => ?_)
                            · refine lv_iconst (v := 0) hx hb dX8_prove_233 (by decide) ?_
                              refine wg_zst F hP hS f1027w (by decide) (vp_in_nI (by omega) (by decide)) dX8_prove_234 (fun H locs hP hS => ?_)
                              obtain ⟨C_234, hC_234⟩ : ∃ z : wg_C, z = va_up Cw 1027 (some (.inl (E.2.1 2, 16, .inl (upd fz (nI (k / 2)).toNatClampNeg 0)))) := ⟨_, rfl⟩
                              have hP : wg_P E A C_234 H := by rw [hC_234]; exact hP
                              have f1000w_c234 : C_234 1000 = some (.inr (8, [.int (nI (lc_ns (st_B S))), .ref (A 1001), .int (nI (lc_nh (st_B S))), .ref (A 1003), .ref (A 1004), .ref (A 1005), .ref (A 1006), .ref (A 1007), .ref (A 1008), .ref (A 1009), .ref (A 1010), .ref (A 1011), .ref (A 1012), .ref (A 1013), .ref (A 1014), .ref (A 1015), .ref (A 1016), .ref (A 1017), .ref (A 1018), .int (nI i), .int (nI j), .long (st_lf S i), .long (st_lf S j), .int (nI (lc_cnt i j k)), .ref (A 1024), .ref (A 1025), .ref (A 1026), .ref (A 1027), .ref (A 1028)])) := by rw [hC_234]; rw [va_up_ne _ _ (by decide)]; exact f1000w
                              have f1018w_c234 : C_234 1018 = some (.inl (E.2.1 1, 16, .inr (.inl nd))) := by rw [hC_234]; rw [va_up_ne _ _ (by decide)]; exact f1018w
                              have f1024w_c234 : C_234 1024 = some (.inl (E.2.1 0, 4, .inl fn)) := by rw [hC_234]; rw [va_up_ne _ _ (by decide)]; exact f1024w
                              have f1025w_c234 : C_234 1025 = some (.inl (E.2.1 1, 4, .inr (.inl fv))) := by rw [hC_234]; rw [va_up_ne _ _ (by decide)]; exact f1025w
                              have f1027w_c234 : C_234 1027 = some (.inl (E.2.1 2, 16, .inl (upd fz (nI (k / 2)).toNatClampNeg 0))) := by rw [hC_234]; exact va_up_self _ _ _
                              have hpkn : ∀ q, 1 ≤ q → q < 16 → (upd fz (nI (k / 2)).toNatClampNeg 0) q = lm_b (lm_pk i j (k - 2) q) := by
                                have hp := lm_pks (show k < 16 by omega) hodd h3 hpk
                                rw [ho] at hp
                                rw [nI_clamp (by omega)]
                                exact hp
                              have mo9 : C_234 1000 = some (.inr (8, [.int (nI (lc_ns (st_B S))), .ref (A 1001), .int (nI (lc_nh (st_B S))), .ref (A 1003), .ref (A 1004), .ref (A 1005), .ref (A 1006), .ref (A 1007), .ref (A 1008), .ref (A 1009), .ref (A 1010), .ref (A 1011), .ref (A 1012), .ref (A 1013), .ref (A 1014), .ref (A 1015), .ref (A 1016), .ref (A 1017), .ref (A 1018), .int (nI i), .int (nI j), .long (st_lf S i), .long (st_lf S j), .int (nI (lc_cnt i j (k - 2))), .ref (A 1024), .ref (A 1025), .ref (A 1026), .ref (A 1027), .ref (A 1028)])) := by rw [hct]; exact f1000w_c234
                              have hfnn : ∀ z, z < lc_cnt i j (k - 2) → fn z = nI (lc_nth i j z) := by rw [hct]; exact hfn
                              have hfvn : ∀ z, z < lc_cnt i j (k - 2) → fv z = lc_node (st_lf S) (lc_nth i j z) := by rw [hct]; exact hfv
                              obtain ⟨x_235, ex_235⟩ : ∃ y : Int32, y = nI k + (-2) := ⟨_, rfl⟩
                              refine lv_iinc (v := x_235) (lv' := [(3, .int x_235), (0, .ref (A 1000)), (1, .int a), (2, .int b)]) hx hb dX8_prove_235 hl (k := 3) rfl (by rw [ex_235]; rfl) (by decide) rfl (fun ls hl => ?_)
                              refine lv_goto (tgt := 114) hx hb dX8_prove_238 (by decide) ?_
                              exact ih_loop_114 (k - 2) x_235 (upd fz (nI (k / 2)).toNatClampNeg 0) fn fv (by omega) (by omega) (by omega) (by rw [ex_235]; exact lm_m2 (by omega)) hpkn hfnn hfvn C_234 mo9 f1018w_c234 f1024w_c234 f1025w_c234 f1027w_c234 (fun r h0 h1 h2 h3 h4 => by rw [hC_234, va_up_ne _ _ h4, hbase r h0 h1 h2 h3 h4]) _ _ _ hP hS (lv_sub hl [1, 2, 3, 0] rfl)
                            · exact absurd rfl c_226
                      · exact absurd rfl c_133
                    · rw [hk1] at k3
                      rw [hk2] at k2
                      have ho : lc_on i j (k / 2) = true := by rw [pt.1, hk1, hk2]; rfl
                      obtain ⟨hnt, hct, hc3⟩ := pt.2.2.2 ⟨hk1, hk2⟩
                      refine lv_aload_n hx hb dX8_prove_119 rfl (lv_at hl 0 rfl) ?_
                      refine wg_get F hP f1000w rfl iw_X8 27 (by decide) tb_576 rfl rfl dX8_prove_120 ?_
                      refine lv_iload_n hx hb dX8_prove_123 rfl (lv_at hl 3 rfl) ?_
                      refine wg_zld F hP f1027w (vp_in_nI (by omega) (by decide)) dX8_prove_124 ?_
                      refine wg_topi (y := 0) ((by rw [nI_clamp (by omega)]; exact k3)) ?_
                      refine lv_aload_n hx hb dX8_prove_125 rfl (lv_at hl 0 rfl) ?_
                      refine wg_get F hP f1000w rfl iw_X8 27 (by decide) tb_576 rfl rfl dX8_prove_126 ?_
                      refine lv_iload_n hx hb dX8_prove_129 rfl (lv_at hl 3 rfl) ?_
                      refine lv_iconst (v := 1) hx hb dX8_prove_130 (by decide) ?_
                      refine lv_isub hx hb dX8_prove_131 ?_
                      refine wg_topi (y := nI (k - 1)) (by rw [show (1 : Int32) = nI 1 from rfl, pk_sub (by omega)]) ?_
                      refine wg_zld F hP f1027w (vp_in_nI (by omega) (by decide)) dX8_prove_132 ?_
                      refine wg_topi (y := 1) ((by rw [nI_clamp (by omega)]; exact k2)) ?_
                      refine lv_icmp_eq (tgt := 191) hx hb dX8_prove_133 (by decide) (fun c_133 => ?_) (fun c_133 => ?_)
                      · exact absurd c_133 (by decide)
                      · refine lv_aload_n hx hb dX8_prove_136 rfl (lv_at hl 0 rfl) ?_
                        refine wg_get F hP f1000w rfl iw_X8 27 (by decide) tb_576 rfl rfl dX8_prove_137 ?_
                        refine lv_iload_n hx hb dX8_prove_140 rfl (lv_at hl 3 rfl) ?_
                        refine wg_zld F hP f1027w (vp_in_nI (by omega) (by decide)) dX8_prove_141 ?_
                        refine wg_topi (y := 0) ((by rw [nI_clamp (by omega)]; exact k3)) ?_
                        refine lv_if_eq (tgt := 151) hx hb dX8_prove_142 (by decide) (fun c_142 => ?_) (fun c_142 => ?_)
                        · refine lv_iload_n hx hb dX8_prove_151 rfl (lv_at hl 3 rfl) ?_
                          refine lv_istore (lv' := [(4, .int (nI k)), (0, .ref (A 1000)), (1, .int a), (2, .int b), (3, .int (nI k))]) hx hb dX8_prove_152 hl (by decide) rfl (fun ls hl => ?_)
                          refine lv_aload_n hx hb dX8_prove_154 rfl (lv_at hl 1 rfl) ?_
                          refine wg_get F hP f1000w rfl iw_X8 24 (by decide) tb_573 rfl rfl dX8_prove_155 ?_
                          refine lv_aload_n hx hb dX8_prove_158 rfl (lv_at hl 1 rfl) ?_
                          refine wg_get F hP f1000w rfl iw_X8 23 (by decide) tb_572 rfl rfl dX8_prove_159 ?_
                          refine lv_iload hx hb dX8_prove_162 (lv_at hl 0 rfl) ?_
                          refine wg_ist F hP hS f1024w (vp_in_nI (by omega) (by decide)) dX8_prove_164 (fun H locs hP hS => ?_)
                          obtain ⟨C_164, hC_164⟩ : ∃ z : wg_C, z = va_up Cw 1024 (some (.inl (E.2.1 0, 4, .inl (upd fn (nI (lc_cnt i j k)).toNatClampNeg (nI k))))) := ⟨_, rfl⟩
                          have hP : wg_P E A C_164 H := by rw [hC_164]; exact hP
                          have f1000w_c164 : C_164 1000 = some (.inr (8, [.int (nI (lc_ns (st_B S))), .ref (A 1001), .int (nI (lc_nh (st_B S))), .ref (A 1003), .ref (A 1004), .ref (A 1005), .ref (A 1006), .ref (A 1007), .ref (A 1008), .ref (A 1009), .ref (A 1010), .ref (A 1011), .ref (A 1012), .ref (A 1013), .ref (A 1014), .ref (A 1015), .ref (A 1016), .ref (A 1017), .ref (A 1018), .int (nI i), .int (nI j), .long (st_lf S i), .long (st_lf S j), .int (nI (lc_cnt i j k)), .ref (A 1024), .ref (A 1025), .ref (A 1026), .ref (A 1027), .ref (A 1028)])) := by rw [hC_164]; rw [va_up_ne _ _ (by decide)]; exact f1000w
                          have f1018w_c164 : C_164 1018 = some (.inl (E.2.1 1, 16, .inr (.inl nd))) := by rw [hC_164]; rw [va_up_ne _ _ (by decide)]; exact f1018w
                          have f1024w_c164 : C_164 1024 = some (.inl (E.2.1 0, 4, .inl (upd fn (nI (lc_cnt i j k)).toNatClampNeg (nI k)))) := by rw [hC_164]; exact va_up_self _ _ _
                          have f1025w_c164 : C_164 1025 = some (.inl (E.2.1 1, 4, .inr (.inl fv))) := by rw [hC_164]; rw [va_up_ne _ _ (by decide)]; exact f1025w
                          have f1027w_c164 : C_164 1027 = some (.inl (E.2.1 2, 16, .inl fz)) := by rw [hC_164]; rw [va_up_ne _ _ (by decide)]; exact f1027w
                          refine lv_aload_n hx hb dX8_prove_165 rfl (lv_at hl 1 rfl) ?_
                          refine wg_get F hP f1000w_c164 rfl iw_X8 25 (by decide) tb_574 rfl rfl dX8_prove_166 ?_
                          refine lv_aload_n hx hb dX8_prove_169 rfl (lv_at hl 1 rfl) ?_
                          refine wg_get F hP f1000w_c164 rfl iw_X8 23 (by decide) tb_572 rfl rfl dX8_prove_170 ?_
                          refine lv_aload_n hx hb dX8_prove_173 rfl (lv_at hl 1 rfl) ?_
                          refine wg_get F hP f1000w_c164 rfl iw_X8 18 (by decide) tb_567 rfl rfl dX8_prove_174 ?_
                          refine lv_iload hx hb dX8_prove_177 (lv_at hl 0 rfl) ?_
                          refine wg_lld F hP f1018w_c164 (vp_in_nI (by omega) (by decide)) dX8_prove_179 ?_
                          refine wg_topl (y := lc_node (st_lf S) (k)) ((by rw [nI_clamp (by omega)]; exact hn _ (by omega) (by omega))) ?_
                          refine wg_lst F hP hS f1025w_c164 (vp_in_nI (by omega) (by decide)) dX8_prove_180 (fun H locs hP hS => ?_)
                          obtain ⟨C_180, hC_180⟩ : ∃ z : wg_C, z = va_up C_164 1025 (some (.inl (E.2.1 1, 4, .inr (.inl (vp_updL fv (nI (lc_cnt i j k)).toNatClampNeg (lc_node (st_lf S) (k))))))) := ⟨_, rfl⟩
                          have hP : wg_P E A C_180 H := by rw [hC_180]; exact hP
                          have f1000w_c180 : C_180 1000 = some (.inr (8, [.int (nI (lc_ns (st_B S))), .ref (A 1001), .int (nI (lc_nh (st_B S))), .ref (A 1003), .ref (A 1004), .ref (A 1005), .ref (A 1006), .ref (A 1007), .ref (A 1008), .ref (A 1009), .ref (A 1010), .ref (A 1011), .ref (A 1012), .ref (A 1013), .ref (A 1014), .ref (A 1015), .ref (A 1016), .ref (A 1017), .ref (A 1018), .int (nI i), .int (nI j), .long (st_lf S i), .long (st_lf S j), .int (nI (lc_cnt i j k)), .ref (A 1024), .ref (A 1025), .ref (A 1026), .ref (A 1027), .ref (A 1028)])) := by rw [hC_180]; rw [va_up_ne _ _ (by decide)]; exact f1000w_c164
                          have f1018w_c180 : C_180 1018 = some (.inl (E.2.1 1, 16, .inr (.inl nd))) := by rw [hC_180]; rw [va_up_ne _ _ (by decide)]; exact f1018w_c164
                          have f1024w_c180 : C_180 1024 = some (.inl (E.2.1 0, 4, .inl (upd fn (nI (lc_cnt i j k)).toNatClampNeg (nI k)))) := by rw [hC_180]; rw [va_up_ne _ _ (by decide)]; exact f1024w_c164
                          have f1025w_c180 : C_180 1025 = some (.inl (E.2.1 1, 4, .inr (.inl (vp_updL fv (nI (lc_cnt i j k)).toNatClampNeg (lc_node (st_lf S) (k)))))) := by rw [hC_180]; exact va_up_self _ _ _
                          have f1027w_c180 : C_180 1027 = some (.inl (E.2.1 2, 16, .inl fz)) := by rw [hC_180]; rw [va_up_ne _ _ (by decide)]; exact f1027w_c164
                          refine lv_aload_n hx hb dX8_prove_181 rfl (lv_at hl 1 rfl) ?_
                          refine lv_dup hx hb dX8_prove_182 rfl ?_
                          refine wg_get F hP f1000w_c180 rfl iw_X8 23 (by decide) tb_572 rfl rfl dX8_prove_183 ?_
                          refine lv_iconst (v := 1) hx hb dX8_prove_186 (by decide) ?_
                          refine lv_iadd hx hb dX8_prove_187 ?_
                          refine wg_topi (y := nI (lc_cnt i j k + 1)) (by rw [nI_1]) ?_
                          refine wg_put F hP hS f1000w_c180 rfl iw_X8 tyX8_ok nmX8 23 (by decide) tb_572 rfl rfl rfl (Nat.le_of_ble_eq_true rfl) dX8_prove_188 (fun H locs hP hS => ?_)
                          obtain ⟨C_188, hC_188⟩ : ∃ z : wg_C, z = va_up C_180 1000 (some (.inr (8, [.int (nI (lc_ns (st_B S))), .ref (A 1001), .int (nI (lc_nh (st_B S))), .ref (A 1003), .ref (A 1004), .ref (A 1005), .ref (A 1006), .ref (A 1007), .ref (A 1008), .ref (A 1009), .ref (A 1010), .ref (A 1011), .ref (A 1012), .ref (A 1013), .ref (A 1014), .ref (A 1015), .ref (A 1016), .ref (A 1017), .ref (A 1018), .int (nI i), .int (nI j), .long (st_lf S i), .long (st_lf S j), .int (nI (lc_cnt i j k + 1)), .ref (A 1024), .ref (A 1025), .ref (A 1026), .ref (A 1027), .ref (A 1028)]))) := ⟨_, rfl⟩
                          have hP : wg_P E A C_188 H := by rw [hC_188]; exact hP
                          have f1000w_c188 : C_188 1000 = some (.inr (8, [.int (nI (lc_ns (st_B S))), .ref (A 1001), .int (nI (lc_nh (st_B S))), .ref (A 1003), .ref (A 1004), .ref (A 1005), .ref (A 1006), .ref (A 1007), .ref (A 1008), .ref (A 1009), .ref (A 1010), .ref (A 1011), .ref (A 1012), .ref (A 1013), .ref (A 1014), .ref (A 1015), .ref (A 1016), .ref (A 1017), .ref (A 1018), .int (nI i), .int (nI j), .long (st_lf S i), .long (st_lf S j), .int (nI (lc_cnt i j k + 1)), .ref (A 1024), .ref (A 1025), .ref (A 1026), .ref (A 1027), .ref (A 1028)])) := by rw [hC_188]; exact va_up_self _ _ _
                          have f1018w_c188 : C_188 1018 = some (.inl (E.2.1 1, 16, .inr (.inl nd))) := by rw [hC_188]; rw [va_up_ne _ _ (by decide)]; exact f1018w_c180
                          have f1024w_c188 : C_188 1024 = some (.inl (E.2.1 0, 4, .inl (upd fn (nI (lc_cnt i j k)).toNatClampNeg (nI k)))) := by rw [hC_188]; rw [va_up_ne _ _ (by decide)]; exact f1024w_c180
                          have f1025w_c188 : C_188 1025 = some (.inl (E.2.1 1, 4, .inr (.inl (vp_updL fv (nI (lc_cnt i j k)).toNatClampNeg (lc_node (st_lf S) (k)))))) := by rw [hC_188]; rw [va_up_ne _ _ (by decide)]; exact f1025w_c180
                          have f1027w_c188 : C_188 1027 = some (.inl (E.2.1 2, 16, .inl fz)) := by rw [hC_188]; rw [va_up_ne _ _ (by decide)]; exact f1027w_c180
                          refine lv_aload_n hx hb dX8_prove_191 rfl (lv_at hl 1 rfl) ?_
                          refine wg_get F hP f1000w_c188 rfl iw_X8 27 (by decide) tb_576 rfl rfl dX8_prove_192 ?_
                          refine lv_iload_n hx hb dX8_prove_195 rfl (lv_at hl 4 rfl) ?_
                          refine lv_iconst (v := 2) hx hb dX8_prove_196 (by decide) ?_
                          refine lv_idiv hx hb dX8_prove_197 (by decide) ?_
                          refine wg_topi (y := nI (k / 2)) (by rw [show (2 : Int32) = nI 2 from rfl, pk_div (by omega) (by decide) (by decide)]) ?_
                          refine lv_aload_n hx hb dX8_prove_198 rfl (lv_at hl 1 rfl) ?_
                          refine wg_get F hP f1000w_c188 rfl iw_X8 27 (by decide) tb_576 rfl rfl dX8_prove_199 ?_
                          refine lv_iload_n hx hb dX8_prove_202 rfl (lv_at hl 4 rfl) ?_
                          refine lv_iconst (v := 2) hx hb dX8_prove_203 (by decide) ?_
                          refine lv_idiv hx hb dX8_prove_204 (by decide) ?_
                          refine wg_topi (y := nI (k / 2)) (by rw [show (2 : Int32) = nI 2 from rfl, pk_div (by omega) (by decide) (by decide)]) ?_
                          refine wg_zld F hP f1027w_c188 (vp_in_nI (by omega) (by decide)) dX8_prove_205 ?_
                          refine wg_topi (y := 0) ((by rw [nI_clamp (by omega)]; exact k0)) ?_
                          refine lv_if_ne (tgt := 229) hx hb dX8_prove_206 (by decide) (fun c_206 => ?_) (fun c_206 => ?_)
                          · exact absurd rfl c_206
                          · refine lv_aload_n hx hb dX8_prove_209 rfl (lv_at hl 1 rfl) ?_
                            refine wg_get F hP f1000w_c188 rfl iw_X8 27 (by decide) tb_576 rfl rfl dX8_prove_210 ?_
                            refine lv_iload_n hx hb dX8_prove_213 rfl (lv_at hl 4 rfl) ?_
                            refine wg_zld F hP f1027w_c188 (vp_in_nI (by omega) (by decide)) dX8_prove_214 ?_
                            refine wg_topi (y := 0) ((by rw [nI_clamp (by omega)]; exact k3)) ?_
                            refine lv_if_ne (tgt := 229) hx hb dX8_prove_215 (by decide) (fun c_215 => ?_) (fun c_215 => ?_)
                            · exact absurd rfl c_215
                            · refine lv_aload_n hx hb dX8_prove_218 rfl (lv_at hl 1 rfl) ?_
                              refine wg_get F hP f1000w_c188 rfl iw_X8 27 (by decide) tb_576 rfl rfl dX8_prove_219 ?_
                              refine lv_iload_n hx hb dX8_prove_222 rfl (lv_at hl 4 rfl) ?_
                              refine lv_iconst (v := 1) hx hb dX8_prove_223 (by decide) ?_
                              refine lv_isub hx hb dX8_prove_224 ?_
                              refine wg_topi (y := nI (k - 1)) (by rw [show (1 : Int32) = nI 1 from rfl, pk_sub (by omega)]) ?_
                              refine wg_zld F hP f1027w_c188 (vp_in_nI (by omega) (by decide)) dX8_prove_225 ?_
                              refine wg_topi (y := 1) ((by rw [nI_clamp (by omega)]; exact k2)) ?_
                              refine lv_if_eq (tgt := 233) hx hb dX8_prove_226 (by decide) (fun c_226 => ?_) (fun c_226 => ?_)
                              · exact absurd c_226 (by decide)
                              · refine lv_iconst (v := 1) hx hb dX8_prove_229 (by decide) ?_
                                refine lv_goto (tgt := 234) hx hb dX8_prove_230 (by decide) ?_
                                refine wg_zst F hP hS f1027w_c188 (by decide) (vp_in_nI (by omega) (by decide)) dX8_prove_234 (fun H locs hP hS => ?_)
                                obtain ⟨C_234_1, hC_234_1⟩ : ∃ z : wg_C, z = va_up C_188 1027 (some (.inl (E.2.1 2, 16, .inl (upd fz (nI (k / 2)).toNatClampNeg 1)))) := ⟨_, rfl⟩
                                have hP : wg_P E A C_234_1 H := by rw [hC_234_1]; exact hP
                                have f1000w_c234_1 : C_234_1 1000 = some (.inr (8, [.int (nI (lc_ns (st_B S))), .ref (A 1001), .int (nI (lc_nh (st_B S))), .ref (A 1003), .ref (A 1004), .ref (A 1005), .ref (A 1006), .ref (A 1007), .ref (A 1008), .ref (A 1009), .ref (A 1010), .ref (A 1011), .ref (A 1012), .ref (A 1013), .ref (A 1014), .ref (A 1015), .ref (A 1016), .ref (A 1017), .ref (A 1018), .int (nI i), .int (nI j), .long (st_lf S i), .long (st_lf S j), .int (nI (lc_cnt i j k + 1)), .ref (A 1024), .ref (A 1025), .ref (A 1026), .ref (A 1027), .ref (A 1028)])) := by rw [hC_234_1]; rw [va_up_ne _ _ (by decide)]; exact f1000w_c188
                                have f1018w_c234_1 : C_234_1 1018 = some (.inl (E.2.1 1, 16, .inr (.inl nd))) := by rw [hC_234_1]; rw [va_up_ne _ _ (by decide)]; exact f1018w_c188
                                have f1024w_c234_1 : C_234_1 1024 = some (.inl (E.2.1 0, 4, .inl (upd fn (nI (lc_cnt i j k)).toNatClampNeg (nI k)))) := by rw [hC_234_1]; rw [va_up_ne _ _ (by decide)]; exact f1024w_c188
                                have f1025w_c234_1 : C_234_1 1025 = some (.inl (E.2.1 1, 4, .inr (.inl (vp_updL fv (nI (lc_cnt i j k)).toNatClampNeg (lc_node (st_lf S) (k)))))) := by rw [hC_234_1]; rw [va_up_ne _ _ (by decide)]; exact f1025w_c188
                                have f1027w_c234_1 : C_234_1 1027 = some (.inl (E.2.1 2, 16, .inl (upd fz (nI (k / 2)).toNatClampNeg 1))) := by rw [hC_234_1]; exact va_up_self _ _ _
                                have hpkn : ∀ q, 1 ≤ q → q < 16 → (upd fz (nI (k / 2)).toNatClampNeg 1) q = lm_b (lm_pk i j (k - 2) q) := by
                                  have hp := lm_pks (show k < 16 by omega) hodd h3 hpk
                                  rw [ho] at hp
                                  rw [nI_clamp (by omega)]
                                  exact hp
                                have mo9 : C_234_1 1000 = some (.inr (8, [.int (nI (lc_ns (st_B S))), .ref (A 1001), .int (nI (lc_nh (st_B S))), .ref (A 1003), .ref (A 1004), .ref (A 1005), .ref (A 1006), .ref (A 1007), .ref (A 1008), .ref (A 1009), .ref (A 1010), .ref (A 1011), .ref (A 1012), .ref (A 1013), .ref (A 1014), .ref (A 1015), .ref (A 1016), .ref (A 1017), .ref (A 1018), .int (nI i), .int (nI j), .long (st_lf S i), .long (st_lf S j), .int (nI (lc_cnt i j (k - 2))), .ref (A 1024), .ref (A 1025), .ref (A 1026), .ref (A 1027), .ref (A 1028)])) := by rw [hct]; exact f1000w_c234_1
                                have hfnn : ∀ z, z < lc_cnt i j (k - 2) → (upd fn (nI (lc_cnt i j k)).toNatClampNeg (nI k)) z = nI (lc_nth i j z) := by rw [hct, nI_clamp (by omega)]; exact lm_ext1 hfn hnt
                                have hfvn : ∀ z, z < lc_cnt i j (k - 2) → (vp_updL fv (nI (lc_cnt i j k)).toNatClampNeg (lc_node (st_lf S) (k))) z = lc_node (st_lf S) (lc_nth i j z) := by rw [hct, nI_clamp (by omega)]; exact lm_ext2 (g := fun z => lc_node (st_lf S) (lc_nth i j z)) hfv (by show lc_node (st_lf S) (lc_nth i j (lc_cnt i j k)) = _; rw [hnt])
                                obtain ⟨x_235, ex_235⟩ : ∃ y : Int32, y = nI k + (-2) := ⟨_, rfl⟩
                                refine lv_iinc (v := x_235) (lv' := [(3, .int x_235), (4, .int (nI k)), (0, .ref (A 1000)), (1, .int a), (2, .int b)]) hx hb dX8_prove_235 hl (k := 4) rfl (by rw [ex_235]; rfl) (by decide) rfl (fun ls hl => ?_)
                                refine lv_goto (tgt := 114) hx hb dX8_prove_238 (by decide) ?_
                                exact ih_loop_114 (k - 2) x_235 (upd fz (nI (k / 2)).toNatClampNeg 1) (upd fn (nI (lc_cnt i j k)).toNatClampNeg (nI k)) (vp_updL fv (nI (lc_cnt i j k)).toNatClampNeg (lc_node (st_lf S) (k))) (by omega) (by omega) (by omega) (by rw [ex_235]; exact lm_m2 (by omega)) hpkn hfnn hfvn C_234_1 mo9 f1018w_c234_1 f1024w_c234_1 f1025w_c234_1 f1027w_c234_1 (fun r h0 h1 h2 h3 h4 => by rw [hC_234_1, va_up_ne _ _ h4, hC_188, va_up_ne _ _ h0, hC_180, va_up_ne _ _ h3, hC_164, va_up_ne _ _ h2, hbase r h0 h1 h2 h3 h4]) _ _ _ hP hS (lv_sub hl [2, 3, 4, 0] rfl)
                        · exact absurd rfl c_142
                    · rw [hk1] at k3
                      rw [hk2] at k2
                      have ho : lc_on i j (k / 2) = true := by rw [pt.1, hk1, hk2]; rfl
                      obtain ⟨hnt, hct, hc3⟩ := pt.2.2.1 ⟨hk1, hk2⟩
                      refine lv_aload_n hx hb dX8_prove_119 rfl (lv_at hl 0 rfl) ?_
                      refine wg_get F hP f1000w rfl iw_X8 27 (by decide) tb_576 rfl rfl dX8_prove_120 ?_
                      refine lv_iload_n hx hb dX8_prove_123 rfl (lv_at hl 3 rfl) ?_
                      refine wg_zld F hP f1027w (vp_in_nI (by omega) (by decide)) dX8_prove_124 ?_
                      refine wg_topi (y := 1) ((by rw [nI_clamp (by omega)]; exact k3)) ?_
                      refine lv_aload_n hx hb dX8_prove_125 rfl (lv_at hl 0 rfl) ?_
                      refine wg_get F hP f1000w rfl iw_X8 27 (by decide) tb_576 rfl rfl dX8_prove_126 ?_
                      refine lv_iload_n hx hb dX8_prove_129 rfl (lv_at hl 3 rfl) ?_
                      refine lv_iconst (v := 1) hx hb dX8_prove_130 (by decide) ?_
                      refine lv_isub hx hb dX8_prove_131 ?_
                      refine wg_topi (y := nI (k - 1)) (by rw [show (1 : Int32) = nI 1 from rfl, pk_sub (by omega)]) ?_
                      refine wg_zld F hP f1027w (vp_in_nI (by omega) (by decide)) dX8_prove_132 ?_
                      refine wg_topi (y := 0) ((by rw [nI_clamp (by omega)]; exact k2)) ?_
                      refine lv_icmp_eq (tgt := 191) hx hb dX8_prove_133 (by decide) (fun c_133 => ?_) (fun c_133 => ?_)
                      · exact absurd c_133 (by decide)
                      · refine lv_aload_n hx hb dX8_prove_136 rfl (lv_at hl 0 rfl) ?_
                        refine wg_get F hP f1000w rfl iw_X8 27 (by decide) tb_576 rfl rfl dX8_prove_137 ?_
                        refine lv_iload_n hx hb dX8_prove_140 rfl (lv_at hl 3 rfl) ?_
                        refine wg_zld F hP f1027w (vp_in_nI (by omega) (by decide)) dX8_prove_141 ?_
                        refine wg_topi (y := 1) ((by rw [nI_clamp (by omega)]; exact k3)) ?_
                        refine lv_if_eq (tgt := 151) hx hb dX8_prove_142 (by decide) (fun c_142 => ?_) (fun c_142 => ?_)
                        · exact absurd c_142 (by decide)
                        · refine lv_iload_n hx hb dX8_prove_145 rfl (lv_at hl 3 rfl) ?_
                          refine lv_iconst (v := 1) hx hb dX8_prove_146 (by decide) ?_
                          refine lv_isub hx hb dX8_prove_147 ?_
                          refine wg_topi (y := nI (k - 1)) (by rw [show (1 : Int32) = nI 1 from rfl, pk_sub (by omega)]) ?_
                          refine lv_goto (tgt := 152) hx hb dX8_prove_148 (by decide) ?_
                          refine lv_istore (lv' := [(4, .int (nI (k - 1))), (0, .ref (A 1000)), (1, .int a), (2, .int b), (3, .int (nI k))]) hx hb dX8_prove_152 hl (by decide) rfl (fun ls hl => ?_)
                          refine lv_aload_n hx hb dX8_prove_154 rfl (lv_at hl 1 rfl) ?_
                          refine wg_get F hP f1000w rfl iw_X8 24 (by decide) tb_573 rfl rfl dX8_prove_155 ?_
                          refine lv_aload_n hx hb dX8_prove_158 rfl (lv_at hl 1 rfl) ?_
                          refine wg_get F hP f1000w rfl iw_X8 23 (by decide) tb_572 rfl rfl dX8_prove_159 ?_
                          refine lv_iload hx hb dX8_prove_162 (lv_at hl 0 rfl) ?_
                          refine wg_ist F hP hS f1024w (vp_in_nI (by omega) (by decide)) dX8_prove_164 (fun H locs hP hS => ?_)
                          obtain ⟨C_164_1, hC_164_1⟩ : ∃ z : wg_C, z = va_up Cw 1024 (some (.inl (E.2.1 0, 4, .inl (upd fn (nI (lc_cnt i j k)).toNatClampNeg (nI (k - 1)))))) := ⟨_, rfl⟩
                          have hP : wg_P E A C_164_1 H := by rw [hC_164_1]; exact hP
                          have f1000w_c164_1 : C_164_1 1000 = some (.inr (8, [.int (nI (lc_ns (st_B S))), .ref (A 1001), .int (nI (lc_nh (st_B S))), .ref (A 1003), .ref (A 1004), .ref (A 1005), .ref (A 1006), .ref (A 1007), .ref (A 1008), .ref (A 1009), .ref (A 1010), .ref (A 1011), .ref (A 1012), .ref (A 1013), .ref (A 1014), .ref (A 1015), .ref (A 1016), .ref (A 1017), .ref (A 1018), .int (nI i), .int (nI j), .long (st_lf S i), .long (st_lf S j), .int (nI (lc_cnt i j k)), .ref (A 1024), .ref (A 1025), .ref (A 1026), .ref (A 1027), .ref (A 1028)])) := by rw [hC_164_1]; rw [va_up_ne _ _ (by decide)]; exact f1000w
                          have f1018w_c164_1 : C_164_1 1018 = some (.inl (E.2.1 1, 16, .inr (.inl nd))) := by rw [hC_164_1]; rw [va_up_ne _ _ (by decide)]; exact f1018w
                          have f1024w_c164_1 : C_164_1 1024 = some (.inl (E.2.1 0, 4, .inl (upd fn (nI (lc_cnt i j k)).toNatClampNeg (nI (k - 1))))) := by rw [hC_164_1]; exact va_up_self _ _ _
                          have f1025w_c164_1 : C_164_1 1025 = some (.inl (E.2.1 1, 4, .inr (.inl fv))) := by rw [hC_164_1]; rw [va_up_ne _ _ (by decide)]; exact f1025w
                          have f1027w_c164_1 : C_164_1 1027 = some (.inl (E.2.1 2, 16, .inl fz)) := by rw [hC_164_1]; rw [va_up_ne _ _ (by decide)]; exact f1027w
                          refine lv_aload_n hx hb dX8_prove_165 rfl (lv_at hl 1 rfl) ?_
                          refine wg_get F hP f1000w_c164_1 rfl iw_X8 25 (by decide) tb_574 rfl rfl dX8_prove_166 ?_
                          refine lv_aload_n hx hb dX8_prove_169 rfl (lv_at hl 1 rfl) ?_
                          refine wg_get F hP f1000w_c164_1 rfl iw_X8 23 (by decide) tb_572 rfl rfl dX8_prove_170 ?_
                          refine lv_aload_n hx hb dX8_prove_173 rfl (lv_at hl 1 rfl) ?_
                          refine wg_get F hP f1000w_c164_1 rfl iw_X8 18 (by decide) tb_567 rfl rfl dX8_prove_174 ?_
                          refine lv_iload hx hb dX8_prove_177 (lv_at hl 0 rfl) ?_
                          refine wg_lld F hP f1018w_c164_1 (vp_in_nI (by omega) (by decide)) dX8_prove_179 ?_
                          refine wg_topl (y := lc_node (st_lf S) (k - 1)) ((by rw [nI_clamp (by omega)]; exact hn _ (by omega) (by omega))) ?_
                          refine wg_lst F hP hS f1025w_c164_1 (vp_in_nI (by omega) (by decide)) dX8_prove_180 (fun H locs hP hS => ?_)
                          obtain ⟨C_180_1, hC_180_1⟩ : ∃ z : wg_C, z = va_up C_164_1 1025 (some (.inl (E.2.1 1, 4, .inr (.inl (vp_updL fv (nI (lc_cnt i j k)).toNatClampNeg (lc_node (st_lf S) (k - 1))))))) := ⟨_, rfl⟩
                          have hP : wg_P E A C_180_1 H := by rw [hC_180_1]; exact hP
                          have f1000w_c180_1 : C_180_1 1000 = some (.inr (8, [.int (nI (lc_ns (st_B S))), .ref (A 1001), .int (nI (lc_nh (st_B S))), .ref (A 1003), .ref (A 1004), .ref (A 1005), .ref (A 1006), .ref (A 1007), .ref (A 1008), .ref (A 1009), .ref (A 1010), .ref (A 1011), .ref (A 1012), .ref (A 1013), .ref (A 1014), .ref (A 1015), .ref (A 1016), .ref (A 1017), .ref (A 1018), .int (nI i), .int (nI j), .long (st_lf S i), .long (st_lf S j), .int (nI (lc_cnt i j k)), .ref (A 1024), .ref (A 1025), .ref (A 1026), .ref (A 1027), .ref (A 1028)])) := by rw [hC_180_1]; rw [va_up_ne _ _ (by decide)]; exact f1000w_c164_1
                          have f1018w_c180_1 : C_180_1 1018 = some (.inl (E.2.1 1, 16, .inr (.inl nd))) := by rw [hC_180_1]; rw [va_up_ne _ _ (by decide)]; exact f1018w_c164_1
                          have f1024w_c180_1 : C_180_1 1024 = some (.inl (E.2.1 0, 4, .inl (upd fn (nI (lc_cnt i j k)).toNatClampNeg (nI (k - 1))))) := by rw [hC_180_1]; rw [va_up_ne _ _ (by decide)]; exact f1024w_c164_1
                          have f1025w_c180_1 : C_180_1 1025 = some (.inl (E.2.1 1, 4, .inr (.inl (vp_updL fv (nI (lc_cnt i j k)).toNatClampNeg (lc_node (st_lf S) (k - 1)))))) := by rw [hC_180_1]; exact va_up_self _ _ _
                          have f1027w_c180_1 : C_180_1 1027 = some (.inl (E.2.1 2, 16, .inl fz)) := by rw [hC_180_1]; rw [va_up_ne _ _ (by decide)]; exact f1027w_c164_1
                          refine lv_aload_n hx hb dX8_prove_181 rfl (lv_at hl 1 rfl) ?_
                          refine lv_dup hx hb dX8_prove_182 rfl ?_
                          refine wg_get F hP f1000w_c180_1 rfl iw_X8 23 (by decide) tb_572 rfl rfl dX8_prove_183 ?_
                          refine lv_iconst (v := 1) hx hb dX8_prove_186 (by decide) ?_
                          refine lv_iadd hx hb dX8_prove_187 ?_
                          refine wg_topi (y := nI (lc_cnt i j k + 1)) (by rw [nI_1]) ?_
                          refine wg_put F hP hS f1000w_c180_1 rfl iw_X8 tyX8_ok nmX8 23 (by decide) tb_572 rfl rfl rfl (Nat.le_of_ble_eq_true rfl) dX8_prove_188 (fun H locs hP hS => ?_)
                          obtain ⟨C_188_1, hC_188_1⟩ : ∃ z : wg_C, z = va_up C_180_1 1000 (some (.inr (8, [.int (nI (lc_ns (st_B S))), .ref (A 1001), .int (nI (lc_nh (st_B S))), .ref (A 1003), .ref (A 1004), .ref (A 1005), .ref (A 1006), .ref (A 1007), .ref (A 1008), .ref (A 1009), .ref (A 1010), .ref (A 1011), .ref (A 1012), .ref (A 1013), .ref (A 1014), .ref (A 1015), .ref (A 1016), .ref (A 1017), .ref (A 1018), .int (nI i), .int (nI j), .long (st_lf S i), .long (st_lf S j), .int (nI (lc_cnt i j k + 1)), .ref (A 1024), .ref (A 1025), .ref (A 1026), .ref (A 1027), .ref (A 1028)]))) := ⟨_, rfl⟩
                          have hP : wg_P E A C_188_1 H := by rw [hC_188_1]; exact hP
                          have f1000w_c188_1 : C_188_1 1000 = some (.inr (8, [.int (nI (lc_ns (st_B S))), .ref (A 1001), .int (nI (lc_nh (st_B S))), .ref (A 1003), .ref (A 1004), .ref (A 1005), .ref (A 1006), .ref (A 1007), .ref (A 1008), .ref (A 1009), .ref (A 1010), .ref (A 1011), .ref (A 1012), .ref (A 1013), .ref (A 1014), .ref (A 1015), .ref (A 1016), .ref (A 1017), .ref (A 1018), .int (nI i), .int (nI j), .long (st_lf S i), .long (st_lf S j), .int (nI (lc_cnt i j k + 1)), .ref (A 1024), .ref (A 1025), .ref (A 1026), .ref (A 1027), .ref (A 1028)])) := by rw [hC_188_1]; exact va_up_self _ _ _
                          have f1018w_c188_1 : C_188_1 1018 = some (.inl (E.2.1 1, 16, .inr (.inl nd))) := by rw [hC_188_1]; rw [va_up_ne _ _ (by decide)]; exact f1018w_c180_1
                          have f1024w_c188_1 : C_188_1 1024 = some (.inl (E.2.1 0, 4, .inl (upd fn (nI (lc_cnt i j k)).toNatClampNeg (nI (k - 1))))) := by rw [hC_188_1]; rw [va_up_ne _ _ (by decide)]; exact f1024w_c180_1
                          have f1025w_c188_1 : C_188_1 1025 = some (.inl (E.2.1 1, 4, .inr (.inl (vp_updL fv (nI (lc_cnt i j k)).toNatClampNeg (lc_node (st_lf S) (k - 1)))))) := by rw [hC_188_1]; rw [va_up_ne _ _ (by decide)]; exact f1025w_c180_1
                          have f1027w_c188_1 : C_188_1 1027 = some (.inl (E.2.1 2, 16, .inl fz)) := by rw [hC_188_1]; rw [va_up_ne _ _ (by decide)]; exact f1027w_c180_1
                          refine lv_aload_n hx hb dX8_prove_191 rfl (lv_at hl 1 rfl) ?_
                          refine wg_get F hP f1000w_c188_1 rfl iw_X8 27 (by decide) tb_576 rfl rfl dX8_prove_192 ?_
                          refine lv_iload_n hx hb dX8_prove_195 rfl (lv_at hl 4 rfl) ?_
                          refine lv_iconst (v := 2) hx hb dX8_prove_196 (by decide) ?_
                          refine lv_idiv hx hb dX8_prove_197 (by decide) ?_
                          refine wg_topi (y := nI (k / 2)) (by rw [show (2 : Int32) = nI 2 from rfl, pk_div (by omega) (by decide) (by decide)]) ?_
                          refine lv_aload_n hx hb dX8_prove_198 rfl (lv_at hl 1 rfl) ?_
                          refine wg_get F hP f1000w_c188_1 rfl iw_X8 27 (by decide) tb_576 rfl rfl dX8_prove_199 ?_
                          refine lv_iload_n hx hb dX8_prove_202 rfl (lv_at hl 4 rfl) ?_
                          refine lv_iconst (v := 2) hx hb dX8_prove_203 (by decide) ?_
                          refine lv_idiv hx hb dX8_prove_204 (by decide) ?_
                          refine wg_topi (y := nI (k / 2)) (by rw [show (2 : Int32) = nI 2 from rfl, pk_div (by omega) (by decide) (by decide)]) ?_
                          refine wg_zld F hP f1027w_c188_1 (vp_in_nI (by omega) (by decide)) dX8_prove_205 ?_
                          refine wg_topi (y := 0) ((by rw [nI_clamp (by omega)]; exact k0)) ?_
                          refine lv_if_ne (tgt := 229) hx hb dX8_prove_206 (by decide) (fun c_206 => ?_) (fun c_206 => ?_)
                          · exact absurd rfl c_206
                          · refine lv_aload_n hx hb dX8_prove_209 rfl (lv_at hl 1 rfl) ?_
                            refine wg_get F hP f1000w_c188_1 rfl iw_X8 27 (by decide) tb_576 rfl rfl dX8_prove_210 ?_
                            refine lv_iload_n hx hb dX8_prove_213 rfl (lv_at hl 4 rfl) ?_
                            refine wg_zld F hP f1027w_c188_1 (vp_in_nI (by omega) (by decide)) dX8_prove_214 ?_
                            refine wg_topi (y := 1) ((by rw [nI_clamp (by omega)]; exact k3)) ?_
                            refine lv_if_ne (tgt := 229) hx hb dX8_prove_215 (by decide) (fun c_215 => ?_) (fun c_215 => ?_)
                            · refine lv_iconst (v := 1) hx hb dX8_prove_229 (by decide) ?_
                              refine lv_goto (tgt := 234) hx hb dX8_prove_230 (by decide) ?_
                              refine wg_zst F hP hS f1027w_c188_1 (by decide) (vp_in_nI (by omega) (by decide)) dX8_prove_234 (fun H locs hP hS => ?_)
                              obtain ⟨C_234_2, hC_234_2⟩ : ∃ z : wg_C, z = va_up C_188_1 1027 (some (.inl (E.2.1 2, 16, .inl (upd fz (nI (k / 2)).toNatClampNeg 1)))) := ⟨_, rfl⟩
                              have hP : wg_P E A C_234_2 H := by rw [hC_234_2]; exact hP
                              have f1000w_c234_2 : C_234_2 1000 = some (.inr (8, [.int (nI (lc_ns (st_B S))), .ref (A 1001), .int (nI (lc_nh (st_B S))), .ref (A 1003), .ref (A 1004), .ref (A 1005), .ref (A 1006), .ref (A 1007), .ref (A 1008), .ref (A 1009), .ref (A 1010), .ref (A 1011), .ref (A 1012), .ref (A 1013), .ref (A 1014), .ref (A 1015), .ref (A 1016), .ref (A 1017), .ref (A 1018), .int (nI i), .int (nI j), .long (st_lf S i), .long (st_lf S j), .int (nI (lc_cnt i j k + 1)), .ref (A 1024), .ref (A 1025), .ref (A 1026), .ref (A 1027), .ref (A 1028)])) := by rw [hC_234_2]; rw [va_up_ne _ _ (by decide)]; exact f1000w_c188_1
                              have f1018w_c234_2 : C_234_2 1018 = some (.inl (E.2.1 1, 16, .inr (.inl nd))) := by rw [hC_234_2]; rw [va_up_ne _ _ (by decide)]; exact f1018w_c188_1
                              have f1024w_c234_2 : C_234_2 1024 = some (.inl (E.2.1 0, 4, .inl (upd fn (nI (lc_cnt i j k)).toNatClampNeg (nI (k - 1))))) := by rw [hC_234_2]; rw [va_up_ne _ _ (by decide)]; exact f1024w_c188_1
                              have f1025w_c234_2 : C_234_2 1025 = some (.inl (E.2.1 1, 4, .inr (.inl (vp_updL fv (nI (lc_cnt i j k)).toNatClampNeg (lc_node (st_lf S) (k - 1)))))) := by rw [hC_234_2]; rw [va_up_ne _ _ (by decide)]; exact f1025w_c188_1
                              have f1027w_c234_2 : C_234_2 1027 = some (.inl (E.2.1 2, 16, .inl (upd fz (nI (k / 2)).toNatClampNeg 1))) := by rw [hC_234_2]; exact va_up_self _ _ _
                              have hpkn : ∀ q, 1 ≤ q → q < 16 → (upd fz (nI (k / 2)).toNatClampNeg 1) q = lm_b (lm_pk i j (k - 2) q) := by
                                have hp := lm_pks (show k < 16 by omega) hodd h3 hpk
                                rw [ho] at hp
                                rw [nI_clamp (by omega)]
                                exact hp
                              have mo9 : C_234_2 1000 = some (.inr (8, [.int (nI (lc_ns (st_B S))), .ref (A 1001), .int (nI (lc_nh (st_B S))), .ref (A 1003), .ref (A 1004), .ref (A 1005), .ref (A 1006), .ref (A 1007), .ref (A 1008), .ref (A 1009), .ref (A 1010), .ref (A 1011), .ref (A 1012), .ref (A 1013), .ref (A 1014), .ref (A 1015), .ref (A 1016), .ref (A 1017), .ref (A 1018), .int (nI i), .int (nI j), .long (st_lf S i), .long (st_lf S j), .int (nI (lc_cnt i j (k - 2))), .ref (A 1024), .ref (A 1025), .ref (A 1026), .ref (A 1027), .ref (A 1028)])) := by rw [hct]; exact f1000w_c234_2
                              have hfnn : ∀ z, z < lc_cnt i j (k - 2) → (upd fn (nI (lc_cnt i j k)).toNatClampNeg (nI (k - 1))) z = nI (lc_nth i j z) := by rw [hct, nI_clamp (by omega)]; exact lm_ext1 hfn hnt
                              have hfvn : ∀ z, z < lc_cnt i j (k - 2) → (vp_updL fv (nI (lc_cnt i j k)).toNatClampNeg (lc_node (st_lf S) (k - 1))) z = lc_node (st_lf S) (lc_nth i j z) := by rw [hct, nI_clamp (by omega)]; exact lm_ext2 (g := fun z => lc_node (st_lf S) (lc_nth i j z)) hfv (by show lc_node (st_lf S) (lc_nth i j (lc_cnt i j k)) = _; rw [hnt])
                              obtain ⟨x_235, ex_235⟩ : ∃ y : Int32, y = nI k + (-2) := ⟨_, rfl⟩
                              refine lv_iinc (v := x_235) (lv' := [(3, .int x_235), (4, .int (nI (k - 1))), (0, .ref (A 1000)), (1, .int a), (2, .int b)]) hx hb dX8_prove_235 hl (k := 4) rfl (by rw [ex_235]; rfl) (by decide) rfl (fun ls hl => ?_)
                              refine lv_goto (tgt := 114) hx hb dX8_prove_238 (by decide) ?_
                              exact ih_loop_114 (k - 2) x_235 (upd fz (nI (k / 2)).toNatClampNeg 1) (upd fn (nI (lc_cnt i j k)).toNatClampNeg (nI (k - 1))) (vp_updL fv (nI (lc_cnt i j k)).toNatClampNeg (lc_node (st_lf S) (k - 1))) (by omega) (by omega) (by omega) (by rw [ex_235]; exact lm_m2 (by omega)) hpkn hfnn hfvn C_234_2 mo9 f1018w_c234_2 f1024w_c234_2 f1025w_c234_2 f1027w_c234_2 (fun r h0 h1 h2 h3 h4 => by rw [hC_234_2, va_up_ne _ _ h4, hC_188_1, va_up_ne _ _ h0, hC_180_1, va_up_ne _ _ h3, hC_164_1, va_up_ne _ _ h2, hbase r h0 h1 h2 h3 h4]) _ _ _ hP hS (lv_sub hl [2, 3, 4, 0] rfl)
                            · exact absurd c_215 (by decide)
                    · rw [hk1] at k3
                      rw [hk2] at k2
                      have ho : lc_on i j (k / 2) = true := by rw [pt.1, hk1, hk2]; rfl
                      have hct : lc_cnt i j (k - 2) = lc_cnt i j k := pt.2.1 (hk1.trans hk2.symm)
                      refine lv_aload_n hx hb dX8_prove_119 rfl (lv_at hl 0 rfl) ?_
                      refine wg_get F hP f1000w rfl iw_X8 27 (by decide) tb_576 rfl rfl dX8_prove_120 ?_
                      refine lv_iload_n hx hb dX8_prove_123 rfl (lv_at hl 3 rfl) ?_
                      refine wg_zld F hP f1027w (vp_in_nI (by omega) (by decide)) dX8_prove_124 ?_
                      refine wg_topi (y := 1) ((by rw [nI_clamp (by omega)]; exact k3)) ?_
                      refine lv_aload_n hx hb dX8_prove_125 rfl (lv_at hl 0 rfl) ?_
                      refine wg_get F hP f1000w rfl iw_X8 27 (by decide) tb_576 rfl rfl dX8_prove_126 ?_
                      refine lv_iload_n hx hb dX8_prove_129 rfl (lv_at hl 3 rfl) ?_
                      refine lv_iconst (v := 1) hx hb dX8_prove_130 (by decide) ?_
                      refine lv_isub hx hb dX8_prove_131 ?_
                      refine wg_topi (y := nI (k - 1)) (by rw [show (1 : Int32) = nI 1 from rfl, pk_sub (by omega)]) ?_
                      refine wg_zld F hP f1027w (vp_in_nI (by omega) (by decide)) dX8_prove_132 ?_
                      refine wg_topi (y := 1) ((by rw [nI_clamp (by omega)]; exact k2)) ?_
                      refine lv_icmp_eq (tgt := 191) hx hb dX8_prove_133 (by decide) (fun c_133 => ?_) (fun c_133 => ?_)
                      · refine lv_aload_n hx hb dX8_prove_191 rfl (lv_at hl 0 rfl) ?_
                        refine wg_get F hP f1000w rfl iw_X8 27 (by decide) tb_576 rfl rfl dX8_prove_192 ?_
                        refine lv_iload_n hx hb dX8_prove_195 rfl (lv_at hl 3 rfl) ?_
                        refine lv_iconst (v := 2) hx hb dX8_prove_196 (by decide) ?_
                        refine lv_idiv hx hb dX8_prove_197 (by decide) ?_
                        refine wg_topi (y := nI (k / 2)) (by rw [show (2 : Int32) = nI 2 from rfl, pk_div (by omega) (by decide) (by decide)]) ?_
                        refine lv_aload_n hx hb dX8_prove_198 rfl (lv_at hl 0 rfl) ?_
                        refine wg_get F hP f1000w rfl iw_X8 27 (by decide) tb_576 rfl rfl dX8_prove_199 ?_
                        refine lv_iload_n hx hb dX8_prove_202 rfl (lv_at hl 3 rfl) ?_
                        refine lv_iconst (v := 2) hx hb dX8_prove_203 (by decide) ?_
                        refine lv_idiv hx hb dX8_prove_204 (by decide) ?_
                        refine wg_topi (y := nI (k / 2)) (by rw [show (2 : Int32) = nI 2 from rfl, pk_div (by omega) (by decide) (by decide)]) ?_
                        refine wg_zld F hP f1027w (vp_in_nI (by omega) (by decide)) dX8_prove_205 ?_
                        refine wg_topi (y := 0) ((by rw [nI_clamp (by omega)]; exact k0)) ?_
                        refine lv_if_ne (tgt := 229) hx hb dX8_prove_206 (by decide) (fun c_206 => ?_) (fun c_206 => ?_)
                        · exact absurd rfl c_206
                        · refine lv_aload_n hx hb dX8_prove_209 rfl (lv_at hl 0 rfl) ?_
                          refine wg_get F hP f1000w rfl iw_X8 27 (by decide) tb_576 rfl rfl dX8_prove_210 ?_
                          refine lv_iload_n hx hb dX8_prove_213 rfl (lv_at hl 3 rfl) ?_
                          refine wg_zld F hP f1027w (vp_in_nI (by omega) (by decide)) dX8_prove_214 ?_
                          refine wg_topi (y := 1) ((by rw [nI_clamp (by omega)]; exact k3)) ?_
                          refine lv_if_ne (tgt := 229) hx hb dX8_prove_215 (by decide) (fun c_215 => ?_) (fun c_215 => ?_)
                          · refine lv_iconst (v := 1) hx hb dX8_prove_229 (by decide) ?_
                            refine lv_goto (tgt := 234) hx hb dX8_prove_230 (by decide) ?_
                            refine wg_zst F hP hS f1027w (by decide) (vp_in_nI (by omega) (by decide)) dX8_prove_234 (fun H locs hP hS => ?_)
                            obtain ⟨C_234_3, hC_234_3⟩ : ∃ z : wg_C, z = va_up Cw 1027 (some (.inl (E.2.1 2, 16, .inl (upd fz (nI (k / 2)).toNatClampNeg 1)))) := ⟨_, rfl⟩
                            have hP : wg_P E A C_234_3 H := by rw [hC_234_3]; exact hP
                            have f1000w_c234_3 : C_234_3 1000 = some (.inr (8, [.int (nI (lc_ns (st_B S))), .ref (A 1001), .int (nI (lc_nh (st_B S))), .ref (A 1003), .ref (A 1004), .ref (A 1005), .ref (A 1006), .ref (A 1007), .ref (A 1008), .ref (A 1009), .ref (A 1010), .ref (A 1011), .ref (A 1012), .ref (A 1013), .ref (A 1014), .ref (A 1015), .ref (A 1016), .ref (A 1017), .ref (A 1018), .int (nI i), .int (nI j), .long (st_lf S i), .long (st_lf S j), .int (nI (lc_cnt i j k)), .ref (A 1024), .ref (A 1025), .ref (A 1026), .ref (A 1027), .ref (A 1028)])) := by rw [hC_234_3]; rw [va_up_ne _ _ (by decide)]; exact f1000w
                            have f1018w_c234_3 : C_234_3 1018 = some (.inl (E.2.1 1, 16, .inr (.inl nd))) := by rw [hC_234_3]; rw [va_up_ne _ _ (by decide)]; exact f1018w
                            have f1024w_c234_3 : C_234_3 1024 = some (.inl (E.2.1 0, 4, .inl fn)) := by rw [hC_234_3]; rw [va_up_ne _ _ (by decide)]; exact f1024w
                            have f1025w_c234_3 : C_234_3 1025 = some (.inl (E.2.1 1, 4, .inr (.inl fv))) := by rw [hC_234_3]; rw [va_up_ne _ _ (by decide)]; exact f1025w
                            have f1027w_c234_3 : C_234_3 1027 = some (.inl (E.2.1 2, 16, .inl (upd fz (nI (k / 2)).toNatClampNeg 1))) := by rw [hC_234_3]; exact va_up_self _ _ _
                            have hpkn : ∀ q, 1 ≤ q → q < 16 → (upd fz (nI (k / 2)).toNatClampNeg 1) q = lm_b (lm_pk i j (k - 2) q) := by
                              have hp := lm_pks (show k < 16 by omega) hodd h3 hpk
                              rw [ho] at hp
                              rw [nI_clamp (by omega)]
                              exact hp
                            have mo9 : C_234_3 1000 = some (.inr (8, [.int (nI (lc_ns (st_B S))), .ref (A 1001), .int (nI (lc_nh (st_B S))), .ref (A 1003), .ref (A 1004), .ref (A 1005), .ref (A 1006), .ref (A 1007), .ref (A 1008), .ref (A 1009), .ref (A 1010), .ref (A 1011), .ref (A 1012), .ref (A 1013), .ref (A 1014), .ref (A 1015), .ref (A 1016), .ref (A 1017), .ref (A 1018), .int (nI i), .int (nI j), .long (st_lf S i), .long (st_lf S j), .int (nI (lc_cnt i j (k - 2))), .ref (A 1024), .ref (A 1025), .ref (A 1026), .ref (A 1027), .ref (A 1028)])) := by rw [hct]; exact f1000w_c234_3
                            have hfnn : ∀ z, z < lc_cnt i j (k - 2) → fn z = nI (lc_nth i j z) := by rw [hct]; exact hfn
                            have hfvn : ∀ z, z < lc_cnt i j (k - 2) → fv z = lc_node (st_lf S) (lc_nth i j z) := by rw [hct]; exact hfv
                            obtain ⟨x_235, ex_235⟩ : ∃ y : Int32, y = nI k + (-2) := ⟨_, rfl⟩
                            refine lv_iinc (v := x_235) (lv' := [(3, .int x_235), (0, .ref (A 1000)), (1, .int a), (2, .int b)]) hx hb dX8_prove_235 hl (k := 3) rfl (by rw [ex_235]; rfl) (by decide) rfl (fun ls hl => ?_)
                            refine lv_goto (tgt := 114) hx hb dX8_prove_238 (by decide) ?_
                            exact ih_loop_114 (k - 2) x_235 (upd fz (nI (k / 2)).toNatClampNeg 1) fn fv (by omega) (by omega) (by omega) (by rw [ex_235]; exact lm_m2 (by omega)) hpkn hfnn hfvn C_234_3 mo9 f1018w_c234_3 f1024w_c234_3 f1025w_c234_3 f1027w_c234_3 (fun r h0 h1 h2 h3 h4 => by rw [hC_234_3, va_up_ne _ _ h4, hbase r h0 h1 h2 h3 h4]) _ _ _ hP hS (lv_sub hl [1, 2, 3, 0] rfl)
                          · exact absurd c_215 (by decide)
                      · exact absurd rfl c_133
              exact loop_114 _ 15 15 fz g24 g25 (Nat.lt_succ_self _) (by omega) (by omega) rfl hpk0 (fun z hz => absurd hz (Nat.not_lt_zero z)) (fun z hz => absurd hz (Nat.not_lt_zero z)) C_108 f1000w_c108 f1018w_c108 f1024w_c108 f1025w_c108 f1027w_c108 (fun r h0 h1 h2 h3 h4 => by rw [hC_108, va_up_ne _ _ h0, hC_103, va_up_ne _ _ h0, hC_93, va_up_ne _ _ h0, hC_83, va_up_ne _ _ h0, hC_78, va_up_ne _ _ h0, hbase r h1 h4]) _ _ _ hP hS (lv_sub hl [1, 2, 3, 0] rfl)
            · have hk9 : k < 16 := by rw [show (16 : Int32) = nI 16 from rfl, nI_leI (by decide) (by omega)] at c_40; omega
              refine lv_aload_n hx hb dX8_prove_43 rfl (lv_at hl 0 rfl) ?_
              refine wg_get F hP f1000w rfl iw_X8 27 (by decide) tb_576 rfl rfl dX8_prove_44 ?_
              refine lv_iload_n hx hb dX8_prove_47 rfl (lv_at hl 3 rfl) ?_
              refine lv_iload_n hx hb dX8_prove_48 rfl (lv_at hl 3 rfl) ?_
              refine lv_bipush (v := 8) hx hb dX8_prove_49 (by decide) ?_
              refine lv_iload_n hx hb dX8_prove_51 rfl (lv_at hl 1 rfl) ?_
              refine wg_topi (y := nI i) ei ?_
              refine lv_iadd hx hb dX8_prove_52 ?_
              refine wg_topi (y := nI (8 + i)) (by rw [show (8 : Int32) = nI 8 from rfl, nI_add]) ?_
              refine lv_icmp_eq (tgt := 64) hx hb dX8_prove_53 (by decide) (fun c_53 => ?_) (fun c_53 => ?_)
              · have hv : k = 8 + i ∨ k = 8 + j := Or.inl (by rw [nI_eq (by omega) (by omega)] at c_53; exact c_53)
                refine lv_iconst (v := 1) hx hb dX8_prove_64 (by decide) ?_
                refine lv_goto (tgt := 69) hx hb dX8_prove_65 (by decide) ?_
                refine wg_zst F hP hS f1027w (by decide) (vp_in_nI (by omega) (by decide)) dX8_prove_69 (fun H locs hP hS => ?_)
                obtain ⟨C_69, hC_69⟩ : ∃ z : wg_C, z = va_up Cw 1027 (some (.inl (E.2.1 2, 16, .inl (upd fz (nI k).toNatClampNeg 1)))) := ⟨_, rfl⟩
                have hP : wg_P E A C_69 H := by rw [hC_69]; exact hP
                have f1000w_c69 : C_69 1000 = some (.inr (8, [.int (nI (lc_ns (st_B S))), .ref (A 1001), .int (nI (lc_nh (st_B S))), .ref (A 1003), .ref (A 1004), .ref (A 1005), .ref (A 1006), .ref (A 1007), .ref (A 1008), .ref (A 1009), .ref (A 1010), .ref (A 1011), .ref (A 1012), .ref (A 1013), .ref (A 1014), .ref (A 1015), .ref (A 1016), .ref (A 1017), .ref (A 1018), .int (nI (st_pa S)), .int (nI (st_pb S)), .long (st_va S), .long (st_vb S), .int (nI (st_ct S)), .ref (A 1024), .ref (A 1025), .ref (A 1026), .ref (A 1027), .ref (A 1028)])) := by rw [hC_69]; rw [va_up_ne _ _ (by decide)]; exact f1000w
                have f1017w_c69 : C_69 1017 = some (.inl (E.2.1 1, 8, .inr (.inl g17))) := by rw [hC_69]; rw [va_up_ne _ _ (by decide)]; exact f1017w
                have f1018w_c69 : C_69 1018 = some (.inl (E.2.1 1, 16, .inr (.inl nd))) := by rw [hC_69]; rw [va_up_ne _ _ (by decide)]; exact f1018w
                have f1024w_c69 : C_69 1024 = some (.inl (E.2.1 0, 4, .inl g24)) := by rw [hC_69]; rw [va_up_ne _ _ (by decide)]; exact f1024w
                have f1025w_c69 : C_69 1025 = some (.inl (E.2.1 1, 4, .inr (.inl g25))) := by rw [hC_69]; rw [va_up_ne _ _ (by decide)]; exact f1025w
                have f1027w_c69 : C_69 1027 = some (.inl (E.2.1 2, 16, .inl (upd fz (nI k).toNatClampNeg 1))) := by rw [hC_69]; exact va_up_self _ _ _
                have hzn : ∀ q, q < k + 1 → (upd fz (nI k).toNatClampNeg 1) q = (if q = 8 + i ∨ q = 8 + j then 1 else 0) := fun q hq => by
                  rw [nI_clamp (by omega)]
                  by_cases e : q = k
                  · rw [e, pk_us]; first | rw [if_pos hv] | rw [if_neg hv]
                  · rw [pk_un e]; exact hz q (by omega)
                obtain ⟨x_70, ex_70⟩ : ∃ y : Int32, y = nI k + 1 := ⟨_, rfl⟩
                refine lv_iinc (v := x_70) (lv' := [(3, .int x_70), (0, .ref (A 1000)), (1, .int a), (2, .int b)]) hx hb dX8_prove_70 hl (k := 3) rfl (by rw [ex_70]; rfl) (by decide) rfl (fun ls hl => ?_)
                refine lv_goto (tgt := 37) hx hb dX8_prove_73 (by decide) ?_
                exact ih_loop_37 (k + 1) x_70 (upd fz (nI k).toNatClampNeg 1) (by omega) (by omega) (by rw [ex_70, nI_1]) hzn C_69 f1000w_c69 f1017w_c69 f1018w_c69 f1024w_c69 f1025w_c69 f1027w_c69 (fun r h0 h1 => by rw [hC_69, va_up_ne _ _ h1, hbase r h0 h1]) _ _ _ hP hS (lv_sub hl [1, 2, 3, 0] rfl)
              · have hv1 : ¬ k = 8 + i := by rw [nI_eq (by omega) (by omega)] at c_53; exact c_53
                refine lv_iload_n hx hb dX8_prove_56 rfl (lv_at hl 3 rfl) ?_
                refine lv_bipush (v := 8) hx hb dX8_prove_57 (by decide) ?_
                refine lv_iload_n hx hb dX8_prove_59 rfl (lv_at hl 2 rfl) ?_
                refine wg_topi (y := nI j) ej ?_
                refine lv_iadd hx hb dX8_prove_60 ?_
                refine wg_topi (y := nI (8 + j)) (by rw [show (8 : Int32) = nI 8 from rfl, nI_add]) ?_
                refine lv_icmp_ne (tgt := 68) hx hb dX8_prove_61 (by decide) (fun c_61 => ?_) (fun c_61 => ?_)
                · have hv : ¬ (k = 8 + i ∨ k = 8 + j) := by rw [nI_eq (by omega) (by omega)] at c_61; omega
                  refine lv_iconst (v := 0) hx hb dX8_prove_68 (by decide) ?_
                  refine wg_zst F hP hS f1027w (by decide) (vp_in_nI (by omega) (by decide)) dX8_prove_69 (fun H locs hP hS => ?_)
                  obtain ⟨C_69_1, hC_69_1⟩ : ∃ z : wg_C, z = va_up Cw 1027 (some (.inl (E.2.1 2, 16, .inl (upd fz (nI k).toNatClampNeg 0)))) := ⟨_, rfl⟩
                  have hP : wg_P E A C_69_1 H := by rw [hC_69_1]; exact hP
                  have f1000w_c69_1 : C_69_1 1000 = some (.inr (8, [.int (nI (lc_ns (st_B S))), .ref (A 1001), .int (nI (lc_nh (st_B S))), .ref (A 1003), .ref (A 1004), .ref (A 1005), .ref (A 1006), .ref (A 1007), .ref (A 1008), .ref (A 1009), .ref (A 1010), .ref (A 1011), .ref (A 1012), .ref (A 1013), .ref (A 1014), .ref (A 1015), .ref (A 1016), .ref (A 1017), .ref (A 1018), .int (nI (st_pa S)), .int (nI (st_pb S)), .long (st_va S), .long (st_vb S), .int (nI (st_ct S)), .ref (A 1024), .ref (A 1025), .ref (A 1026), .ref (A 1027), .ref (A 1028)])) := by rw [hC_69_1]; rw [va_up_ne _ _ (by decide)]; exact f1000w
                  have f1017w_c69_1 : C_69_1 1017 = some (.inl (E.2.1 1, 8, .inr (.inl g17))) := by rw [hC_69_1]; rw [va_up_ne _ _ (by decide)]; exact f1017w
                  have f1018w_c69_1 : C_69_1 1018 = some (.inl (E.2.1 1, 16, .inr (.inl nd))) := by rw [hC_69_1]; rw [va_up_ne _ _ (by decide)]; exact f1018w
                  have f1024w_c69_1 : C_69_1 1024 = some (.inl (E.2.1 0, 4, .inl g24)) := by rw [hC_69_1]; rw [va_up_ne _ _ (by decide)]; exact f1024w
                  have f1025w_c69_1 : C_69_1 1025 = some (.inl (E.2.1 1, 4, .inr (.inl g25))) := by rw [hC_69_1]; rw [va_up_ne _ _ (by decide)]; exact f1025w
                  have f1027w_c69_1 : C_69_1 1027 = some (.inl (E.2.1 2, 16, .inl (upd fz (nI k).toNatClampNeg 0))) := by rw [hC_69_1]; exact va_up_self _ _ _
                  have hzn : ∀ q, q < k + 1 → (upd fz (nI k).toNatClampNeg 0) q = (if q = 8 + i ∨ q = 8 + j then 1 else 0) := fun q hq => by
                    rw [nI_clamp (by omega)]
                    by_cases e : q = k
                    · rw [e, pk_us]; first | rw [if_pos hv] | rw [if_neg hv]
                    · rw [pk_un e]; exact hz q (by omega)
                  obtain ⟨x_70, ex_70⟩ : ∃ y : Int32, y = nI k + 1 := ⟨_, rfl⟩
                  refine lv_iinc (v := x_70) (lv' := [(3, .int x_70), (0, .ref (A 1000)), (1, .int a), (2, .int b)]) hx hb dX8_prove_70 hl (k := 3) rfl (by rw [ex_70]; rfl) (by decide) rfl (fun ls hl => ?_)
                  refine lv_goto (tgt := 37) hx hb dX8_prove_73 (by decide) ?_
                  exact ih_loop_37 (k + 1) x_70 (upd fz (nI k).toNatClampNeg 0) (by omega) (by omega) (by rw [ex_70, nI_1]) hzn C_69_1 f1000w_c69_1 f1017w_c69_1 f1018w_c69_1 f1024w_c69_1 f1025w_c69_1 f1027w_c69_1 (fun r h0 h1 => by rw [hC_69_1, va_up_ne _ _ h1, hbase r h0 h1]) _ _ _ hP hS (lv_sub hl [1, 2, 3, 0] rfl)
                · have hv : k = 8 + i ∨ k = 8 + j := Or.inr (by rw [nI_eq (by omega) (by omega)] at c_61; exact c_61)
                  refine lv_iconst (v := 1) hx hb dX8_prove_64 (by decide) ?_
                  refine lv_goto (tgt := 69) hx hb dX8_prove_65 (by decide) ?_
                  refine wg_zst F hP hS f1027w (by decide) (vp_in_nI (by omega) (by decide)) dX8_prove_69 (fun H locs hP hS => ?_)
                  obtain ⟨C_69_2, hC_69_2⟩ : ∃ z : wg_C, z = va_up Cw 1027 (some (.inl (E.2.1 2, 16, .inl (upd fz (nI k).toNatClampNeg 1)))) := ⟨_, rfl⟩
                  have hP : wg_P E A C_69_2 H := by rw [hC_69_2]; exact hP
                  have f1000w_c69_2 : C_69_2 1000 = some (.inr (8, [.int (nI (lc_ns (st_B S))), .ref (A 1001), .int (nI (lc_nh (st_B S))), .ref (A 1003), .ref (A 1004), .ref (A 1005), .ref (A 1006), .ref (A 1007), .ref (A 1008), .ref (A 1009), .ref (A 1010), .ref (A 1011), .ref (A 1012), .ref (A 1013), .ref (A 1014), .ref (A 1015), .ref (A 1016), .ref (A 1017), .ref (A 1018), .int (nI (st_pa S)), .int (nI (st_pb S)), .long (st_va S), .long (st_vb S), .int (nI (st_ct S)), .ref (A 1024), .ref (A 1025), .ref (A 1026), .ref (A 1027), .ref (A 1028)])) := by rw [hC_69_2]; rw [va_up_ne _ _ (by decide)]; exact f1000w
                  have f1017w_c69_2 : C_69_2 1017 = some (.inl (E.2.1 1, 8, .inr (.inl g17))) := by rw [hC_69_2]; rw [va_up_ne _ _ (by decide)]; exact f1017w
                  have f1018w_c69_2 : C_69_2 1018 = some (.inl (E.2.1 1, 16, .inr (.inl nd))) := by rw [hC_69_2]; rw [va_up_ne _ _ (by decide)]; exact f1018w
                  have f1024w_c69_2 : C_69_2 1024 = some (.inl (E.2.1 0, 4, .inl g24)) := by rw [hC_69_2]; rw [va_up_ne _ _ (by decide)]; exact f1024w
                  have f1025w_c69_2 : C_69_2 1025 = some (.inl (E.2.1 1, 4, .inr (.inl g25))) := by rw [hC_69_2]; rw [va_up_ne _ _ (by decide)]; exact f1025w
                  have f1027w_c69_2 : C_69_2 1027 = some (.inl (E.2.1 2, 16, .inl (upd fz (nI k).toNatClampNeg 1))) := by rw [hC_69_2]; exact va_up_self _ _ _
                  have hzn : ∀ q, q < k + 1 → (upd fz (nI k).toNatClampNeg 1) q = (if q = 8 + i ∨ q = 8 + j then 1 else 0) := fun q hq => by
                    rw [nI_clamp (by omega)]
                    by_cases e : q = k
                    · rw [e, pk_us]; first | rw [if_pos hv] | rw [if_neg hv]
                    · rw [pk_un e]; exact hz q (by omega)
                  obtain ⟨x_70, ex_70⟩ : ∃ y : Int32, y = nI k + 1 := ⟨_, rfl⟩
                  refine lv_iinc (v := x_70) (lv' := [(3, .int x_70), (0, .ref (A 1000)), (1, .int a), (2, .int b)]) hx hb dX8_prove_70 hl (k := 3) rfl (by rw [ex_70]; rfl) (by decide) rfl (fun ls hl => ?_)
                  refine lv_goto (tgt := 37) hx hb dX8_prove_73 (by decide) ?_
                  exact ih_loop_37 (k + 1) x_70 (upd fz (nI k).toNatClampNeg 1) (by omega) (by omega) (by rw [ex_70, nI_1]) hzn C_69_2 f1000w_c69_2 f1017w_c69_2 f1018w_c69_2 f1024w_c69_2 f1025w_c69_2 f1027w_c69_2 (fun r h0 h1 => by rw [hC_69_2, va_up_ne _ _ h1, hbase r h0 h1]) _ _ _ hP hS (lv_sub hl [1, 2, 3, 0] rfl)
        exact loop_37 _ 0 0 g27 (Nat.lt_succ_self _) (by omega) rfl (fun q hq => absurd hq (Nat.not_lt_zero _)) C_32 mo_c32 m17_c32 f1018_c32 m24_c32 m25_c32 m27_c32 (fun r h0 _ => hfr_32 r h0) _ _ _ hP hS (lv_sub hl [1, 2, 3, 0] rfl)
      · have hij : i = j := by rw [ei, ej, nI_eq (by omega) (by omega)] at c_26; exact c_26
        have hop : op_prove S a b = (-1, S) := by unfold op_prove; rw [hx_i, hx_j]; exact if_pos hij
        refine lv_iconst (v := (-1)) hx hb dX8_prove_29 (by decide) ?_
        exact wg_iret F hP hS hr hlk (⟨rfl, by rw [hop], by rw [hop]; exact hM, fun _ _ => rfl⟩) dX8_prove_30
