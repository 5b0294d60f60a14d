/-! the calls that change the state: the answer, and the state behind -/
abbrev up_sg (B : lc_B) (j v : Nat) : lc_B := (B.1, B.2.1, B.2.2.1, B.2.2.2.1, B.2.2.2.2.1, B.2.2.2.2.2.1, B.2.2.2.2.2.2.1, va_up (lc_sg B) j v)
abbrev up_set (B : lc_B) (x y : Nat) : lc_B := ((lc_ns B + 1, va_up (lc_sa B) (lc_ns B) x, va_up (lc_sb B) (lc_ns B) y), B.2)
abbrev up_hd (B : lc_B) (ht : Nat) (p : Int64) (o x : Nat) (r : Int64) : lc_B := (B.1, (lc_nh B + 1, va_up (lc_hh B) (lc_nh B) ht, va_up (lc_hp B) (lc_nh B) p, va_up (lc_ho B) (lc_nh B) o, va_up (lc_hx B) (lc_nh B) x, va_up (lc_hr B) (lc_nh B) r, va_up (lc_sg B) (lc_nh B) 0))
abbrev lc_nat (x : Int64) : Nat := x.toBitVec.toNat
theorem lc_nat_eq (x : Int64) : x = lN (lc_nat x) ∧ lc_nat x < 2 ^ 64 := by
  obtain ⟨n, h, e⟩ := wb_of x
  have : lc_nat x = n := by rw [e]; exact wb_tn h
  rw [this]
  exact ⟨e, h⟩
def lc_wellb (x : Nat) : Bool := (decide (lc_wt x 0 ≤ 100) && decide (lc_wt x 1 ≤ 100) && decide (lc_wt x 2 ≤ 100) && decide (lc_wt x 3 ≤ 100) && decide (lc_wt x 4 ≤ 100)) && decide (x < 2 ^ 35)
theorem lc_wellb_iff (x : Nat) : lc_wellb x = true ↔ lc_well x := by
  unfold lc_wellb lc_well
  simp only [Bool.and_eq_true, decide_eq_true_eq]
  constructor
  · rintro ⟨⟨⟨⟨⟨h0, h1⟩, h2⟩, h3⟩, h4⟩, h5⟩
    refine ⟨fun i hi => ?_, h5⟩
    rcases (show i = 0 ∨ i = 1 ∨ i = 2 ∨ i = 3 ∨ i = 4 by omega) with rfl | rfl | rfl | rfl | rfl <;> assumption
  · rintro ⟨h, h5⟩
    exact ⟨⟨⟨⟨⟨h 0 (by decide), h 1 (by decide)⟩, h 2 (by decide)⟩, h 3 (by decide)⟩, h 4 (by decide)⟩, h5⟩
def op_set (S : lc_S) (a b : Int64) : Int32 × lc_S := if lc_wellb (lc_nat a) = true ∧ lc_wellb (lc_nat b) = true then (if lc_ns (st_B S) < 16 then (nI (lc_ns (st_B S)), up_B S (up_set (st_B S) (lc_nat a) (lc_nat b))) else (-3, S)) else (-1, S)
def op_head (S : lc_S) (ht : Int32) (p : Int64) (o x : Int32) (r : Int64) : Int32 × lc_S := match lc_ix ht 100001, lc_ix o (lc_ns (st_B S)), lc_ix x (lc_ns (st_B S)) with
  | some h, some i, some k => if lc_nh (st_B S) < 60 then (nI (lc_nh (st_B S)), up_B S (up_hd (st_B S) h p i k r)) else (-3, S)
  | _, _, _ => (-1, S)
def op_sign (S : lc_S) (h n : Int32) : Int32 × lc_S := match lc_ix h (lc_nh (st_B S)), lc_ix n 10 with
  | some j, some k => if lc_bit (lc_sg (st_B S) j) k = 0 then (1, up_B S (up_sg (st_B S) j (lc_sg (st_B S) j + 2 ^ k))) else (0, S)
  | _, _ => (-1, S)
def op_term (S : lc_S) (w v : Int32) : Int32 × lc_S := match lc_ix w 4 with
  | some k => if (if k = 3 then 2 else 1) ≤ v.toInt ∧ v.toInt ≤ (if k = 2 then 1000 else 10) then (nI (st_tm S k), up_tm S (va_up (st_tm S) k v.toInt.toNat)) else (-1, S)
  | none => (-1, S)
def op_start (S : lc_S) (c h : Int32) : Int32 × lc_S := match lc_ix c 4, lc_ix h (lc_nh (st_B S)) with
  | some i, some j => (1, up_cl S (va_up (st_cn S) i 1) (va_up (st_cg S) i (va_up (st_cg S i) 0 j)) (va_up (st_co S) i 0) (va_up (st_rb S) i (-2)) (va_up (st_ra S) i (-2)))
  | _, _ => (-1, S)
def st_keep (S : lc_S) (i j : Nat) : lc_S := up_cl S (va_up (st_cn S) i (lc_kn (st_cn S i) (st_tm S 3))) (va_up (st_cg S) i (lc_kg (st_cn S i) (st_tm S 3) (st_cg S i) j)) (st_co S) (st_rb S) (st_ra S)
def st_ref (S : lc_S) (i : Nat) (y x : Int32) : lc_S := up_cl S (st_cn S) (st_cg S) (st_co S) (va_up (st_rb S) i y) (va_up (st_ra S) i x)
def st_pay (S : lc_S) (i : Nat) : lc_S := up_cl S (st_cn S) (st_cg S) (va_up (st_co S) i (st_co S i + 1)) (st_rb S) (st_ra S)
/-- TRUSTED of a client -/
abbrev st_t (S : lc_S) (i : Nat) : Nat := st_cg S i (st_cn S i - 1)
def op_follow (S : lc_S) (c h : Int32) : Int32 × lc_S := match lc_ix c 4, lc_ix h (lc_nh (st_B S)) with
  | some i, some j => if st_cn S i = 0 then (-2, S) else if lc_why (st_B S) (st_tm S) (st_t S i) j = 0 then (1, st_keep S i j) else (-10 - nI (lc_why (st_B S) (st_tm S) (st_t S i) j), st_ref S i (nI (lc_why (st_B S) (st_tm S) (st_t S i) j)) (nI (lc_hh (st_B S) j)))
  | _, _ => (-1, S)
def op_give (S : lc_S) (g h : Int32) : Int32 × lc_S := match lc_ix g 4, lc_ix h (lc_nh (st_B S)) with
  | some i, some j => (lc_I ((lc_pl (fun k => lc_hh (st_B S) (st_gg S i k)) (lc_hh (st_B S) j) (st_gn S i)).map (st_gg S i)), up_gv S (va_up (st_gn S) i (lc_gn (st_gn S i) (lc_pl (fun k => lc_hh (st_B S) (st_gg S i k)) (lc_hh (st_B S) j) (st_gn S i)))) (va_up (st_gg S) i (lc_gg (st_gn S i) (st_gg S i) j (lc_pl (fun k => lc_hh (st_B S) (st_gg S i k)) (lc_hh (st_B S) j) (st_gn S i)))))
  | _, _ => (-1, S)
/-- the pile of heights, the uppermost first -/
def op_climb (i g : Nat) : Nat → lc_S → List Nat → Int32 × lc_S
  | 0, S, _ => (1, S)
  | _ + 1, S, [] => (1, S)
  | q + 1, S, w :: ps => match op_hat S g w with
    | none => (-17, st_ref (st_pay S i) i 7 (nI w))
    | some h => if lc_why (st_B S) (st_tm S) (st_t S i) h = 0 then op_climb i g q (st_keep (st_pay S i) i h) ps
      else if lc_why (st_B S) (st_tm S) (st_t S i) h = 5 ∨ lc_why (st_B S) (st_tm S) (st_t S i) h = 6 then op_climb i g q (st_pay S i) ((lc_hh (st_B S) (st_t S i) + w) / 2 :: w :: ps)
      else (-10 - nI (lc_why (st_B S) (st_tm S) (st_t S i) h), st_ref (st_pay S i) i (nI (lc_why (st_B S) (st_tm S) (st_t S i) h)) (nI w))
def op_seek (S : lc_S) (c g ht : Int32) : Int32 × lc_S := match lc_ix c 4, lc_ix g 4, lc_ix ht 100001 with
  | some i, some k, some x => if st_cn S i = 0 then (-2, S) else op_climb i k 200020 S [x]
  | _, _, _ => (-1, S)
def op_leaf (S : lc_S) (k : Int32) (v : Int64) : Int64 × lc_S := match lc_ix k 8 with
  | some j => (st_lf S j, up_lf S (vp_updL (st_lf S) j v))
  | none => (0, S)
def op_prove (S : lc_S) (a b : Int32) : Int32 × lc_S := match lc_ix a 8, lc_ix b 8 with
  | some i, some j => if i = j then (-1, S) else (nI (lc_cnt i j 1), up_pf S i j (st_lf S i) (st_lf S j) (lc_tk i j (st_lf S) (st_pn S) 1))
  | _, _ => (-1, S)
def op_alter (S : lc_S) (k : Int32) (v : Int64) : Int32 × lc_S :=
  if k = 2 then (1, up_pf S (st_pa S) (st_pb S) v (st_vb S) (st_pn S)) else if k = 3 then (1, up_pf S (st_pa S) (st_pb S) (st_va S) v (st_pn S))
  else if 4 ≤ k.toInt ∧ k.toInt < 4 + st_ct S then (1, up_pf S (st_pa S) (st_pb S) (st_va S) (st_vb S) (vp_updL (st_pn S) (k.toInt.toNat - 4) v)) else (-1, S)
abbrev st_top (S : lc_S) (x y : Int64) : Int64 := lc_top (st_pa S) (st_pb S) x y (st_pn S)
def op_fraud (S : lc_S) (b h : Int32) (am : Int64) : Int32 := match lc_ix b (lc_nh (st_B S)), lc_ix h (lc_nh (st_B S)) with
  | some i, some j => if am.toInt ≤ 0 then -1 else if st_top S (st_va S) (st_vb S) = lc_hr (st_B S) i then (if (if (st_va S).toInt < am.toInt then st_top S (st_va S) (st_vb S) else st_top S (st_va S - am) (st_vb S + am)) = lc_hr (st_B S) j then 0 else 1) else -2
  | _, _ => -1
theorem lc_orbit : (List.range 1024).all (fun s => (List.range 10).all (fun k => decide (lc_bit s k = 0 → nI s ||| ((1 : Int32) <<< (nI k &&& 31)) = nI (s + 2 ^ k) ∧ s + 2 ^ k < 1024))) = true := by decide +kernel
theorem lc_orbit1 : (List.range 1024).all (fun s => (List.range 10).all (fun k => decide (¬ lc_bit s k = 0 → nI s ||| ((1 : Int32) <<< (nI k &&& 31)) = nI s))) = true := by decide +kernel
theorem lc_updN {g : Nat → Nat} {k v : Nat} : upd (fun j => nI (g j)) k (nI v) = fun j => nI (va_up g k v j) := by
  funext j
  by_cases h : j = k
  · subst h; rw [pk_us, va_up_self]
  · rw [pk_un h, va_up_ne _ _ h]
