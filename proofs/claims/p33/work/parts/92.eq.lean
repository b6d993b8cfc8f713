/-- what holds all through the law's body -/
def LC (p : Program) (l : Launch) (s : State) (m : MethodId) (c : Code) (b L : Nat) (xs : Nat → Int32) (D : va_G) (cy : Nat → ClassId) (c8 c9 : ClassId) (e0 mi : Nat) : Prop :=
  p.tables.exec = Jvm.exec ∧ c.code = cL_law ∧ c.maxLocals = 9 ∧ s.vm.findClass RL = some m.cls ∧ (∀ w ∈ wsL_law, w.before #[Value.ref b] s = true) ∧ va_X b L xs s s.heap ∧ b < s.heap.size ∧ NW s ∧ TH (fun q => s.heap.size ≤ q) s ∧ OU e0 mi (fun q => s.heap.size ≤ q) s s.heap ∧ va_K D vwCl (tyX cy c8 c9) s ∧ l.stackTraces = false ∧ NC s
/-- what holds at the head of each round: the shop, the reference, the two rows of answers -/
def LI (D : va_G) (cy : Nat → ClassId) (c8 c9 : ClassId) (e0 : Nat) (A : Nat → Prop) (o1 o2 qo qd : Nat) (fo : Nat → Int64) (fd : Nat → UInt64) (S : wPS) (H : Heap) : Prop :=
  va_P D vwCl (XO c8 c9 qo qd fo fd ++ PL cy S) H ∧ va_D A (XO c8 c9 qo qd fo fd ++ PL cy S) ∧ wtB S [] ∧ isA S o2 9 ∧ isA S o1 12 ∧ S.F o1 77 = some e0 ∧ MV S o1 ∧ IV S o1
theorem lcmp_self (x : Int64) : lg_cmp x x = 0 := by
  unfold lg_cmp
  simp
theorem rng_ok {x a b : Int32} (h : a.toInt ≤ x.toInt ∧ x.toInt ≤ b.toInt) : f_X9_needRange x a b = .ok () := by
  unfold f_X9_needRange
  rw [if_neg (fun q => by have := lt_i q; omega), if_pos (Int32.le_iff_toInt_le.mpr h.2)]
theorem rng_er {x a b : Int32} (h : ¬ (a.toInt ≤ x.toInt ∧ x.toInt ≤ b.toInt)) : f_X9_needRange x a b = .error "java/lang/IllegalArgumentException" := by
  unfold f_X9_needRange
  split
  · rfl
  · rename_i h1
    rw [if_neg (fun q => h ⟨nlt_i h1, le_i q⟩)]
theorem in_ok {x lo hi : Int64} (h : lo.toInt ≤ x.toInt ∧ x.toInt ≤ hi.toInt) : f_X12_in x lo hi = 1 := by
  unfold f_X12_in
  rw [if_neg (fun q => by have := lc_lt q; omega), if_neg (fun q => by have := lc_gt q; omega)]
theorem in_no {x lo hi : Int64} (h : ¬ (lo.toInt ≤ x.toInt ∧ x.toInt ≤ hi.toInt)) : f_X12_in x lo hi = 0 := by
  unfold f_X12_in
  split
  · rfl
  · rename_i h1
    split
    · rfl
    · rename_i h2
      exact absurd ⟨lc_nlt h1, lc_ngt h2⟩ h
theorem eqH {α : Type} {call : Except String α} {cv : α → Int64} {wc : String → Int32} {r3 r20 : Int32} {ans : Int64} {fo f5 : Nat → Int64} (h : (∃ v, call = .ok v ∧ r3 = 0 ∧ f5 = vp_updL fo (0 : Int32).toNatClampNeg (cv v)) ∨ ∃ E, call = .error E ∧ r3 = wc E ∧ f5 = fo) (hc : (∃ v, call = .ok v ∧ r20 = 0 ∧ cv v = ans) ∨ ∃ E, call = .error E ∧ r20 = wc E ∧ ¬ wc E = 0) : r20 = r3 ∧ (r3 = 0 → f5 (0 : Int32).toNatClampNeg = ans) := by
  rcases hc with ⟨v, e1, e2, e3⟩ | ⟨E, e1, e2, e3⟩
  · rcases h with ⟨w, g1, g2, g3⟩ | ⟨E, g1, -, -⟩
    · rw [e1] at g1; cases g1
      exact ⟨e2.trans g2.symm, fun _ => by rw [g3, ← e3]; simp [vp_updL]⟩
    · rw [e1] at g1; cases g1
  · rcases h with ⟨w, g1, -, -⟩ | ⟨E2, g1, g2, -⟩
    · rw [e1] at g1; cases g1
    · rw [e1] at g1; cases g1
      exact ⟨e2.trans g2.symm, fun q => absurd (g2.symm.trans q) e3⟩
theorem nt_ok {x : Int32} (h : 6 ≤ x.toInt ∧ x.toInt ≤ 200) : f_X9_needTeeth x = .ok () := by
  have a1 : (6 : Int32).toInt = 6 := rfl
  have a2 : (200 : Int32).toInt = 200 := rfl
  unfold f_X9_needTeeth
  rw [eB_ok (rng_ok (by rw [a1, a2]; exact h))]
theorem nt_er {x : Int32} (h : ¬ (6 ≤ x.toInt ∧ x.toInt ≤ 200)) : f_X9_needTeeth x = .error "java/lang/IllegalArgumentException" := by
  have a1 : (6 : Int32).toInt = 6 := rfl
  have a2 : (200 : Int32).toInt = 200 := rfl
  unfold f_X9_needTeeth
  exact eB_er (rng_er (by rw [a1, a2]; exact h))
theorem li64 {x : Int32} {a b : Int} {la lb : Int64} (ha : la.toInt = a) (hb : lb.toInt = b) (h : a ≤ x.toInt ∧ x.toInt ≤ b) : f_X12_in x.toInt64 la lb = 1 := in_ok (by rw [i64_i, ha, hb]; exact h)
theorem li64n {x : Int32} {a b : Int} {la lb : Int64} (ha : la.toInt = a) (hb : lb.toInt = b) (h : ¬ (a ≤ x.toInt ∧ x.toInt ≤ b)) : f_X12_in x.toInt64 la lb = 0 := in_no (by rw [i64_i, ha, hb]; exact h)
/-! clock: both are what is left of the same product -/
theorem fm_val {x y : Int32} (hy : 0 < y.toInt) : (f_J9_floorMod_7cf53 x y).toInt = x.toInt % y.toInt := by
  have h0 := fm_rng (x := x) hy
  have h1 : (f_J9_floorMod_7cf53 x y).toInt % y.toInt = x.toInt % y.toInt := by
    have hr := rem_eq (x := x) hy
    have hd := Int.tmod_def x.toInt y.toInt
    have h2 := tm_bds (a := x.toInt) hy
    have hyr := t_rng y
    have k0 : (x.toInt.tmod y.toInt) % y.toInt = x.toInt % y.toInt := by
      rw [hd, Int.sub_eq_add_neg, ← Int.mul_neg, Int.add_mul_emod_self_left]
    have k1 : ∀ z : Int32, z = x - x / y * y → z.toInt % y.toInt = x.toInt % y.toInt := fun z e => by rw [e, hr, k0]
    unfold f_J9_floorMod_7cf53
    split
    · exact k1 _ rfl
    · split
      · exact k1 _ rfl
      · rename_i h3 h4
        have h5 : x.toInt.tmod y.toInt ≤ 0 := by
          have h6 : ¬ 0 ≤ x := fun q => h3 ((xor_nn (Int32.le_iff_toInt_le.mpr (by show (0 : Int) ≤ _; omega))).mpr q)
          have h7 := nle_v rfl rfl h6
          have h8 := Int.tmod_nonneg (a := -x.toInt) y.toInt (by have l0 : (0 : Int32).toInt = 0 := rfl; omega)
          rw [Int.neg_tmod] at h8
          omega
        rw [t_add (by rw [hr]; omega), hr, Int.add_emod_right, k0]
  rw [← h1]
  exact (Int.emod_eq_of_lt h0.1 h0.2).symm
theorem neg_emod' (p n : Int) : (-p) % n = (n - p % n) % n := by
  have e : n - p % n = -p + n * (p / n + 1) := by
    have := Int.emod_def p n
    rw [this, Int.mul_add, Int.mul_one]; omega
  rw [e, Int.add_mul_emod_self_left]
theorem eq_clock {S S4 S16 : wPS} {o1 o2 : Nat} {y1 y2 y3 r3 r12 r20 : Int32} {fo f5 : Nat → Int64} (h : (∃ v, f_X9_clock S o2 y1 y2 y3 = .ok v ∧ r3 = 0 ∧ f5 = vp_updL fo (0 : Int32).toNatClampNeg (v.toInt64)) ∨ (∃ E, f_X9_clock S o2 y1 y2 y3 = .error E ∧ r3 = wc_clock E ∧ f5 = fo)) (h2 : (r12, S16) = f_X12_clock S4 o1 y1 y2 y3) (h3 : r20 = f_X12_thrown S16 o1) : r20 = r3 ∧ (r3 = 0 → f5 (0 : Int32).toNatClampNeg = r12.toInt64) := by
  have bad : f_X9_clock S o2 y1 y2 y3 = .error "java/lang/IllegalArgumentException" → f_X12_clock S4 o1 y1 y2 y3 = (0, S4.sI o1 15 1) → r20 = r3 ∧ (r3 = 0 → f5 (0 : Int32).toNatClampNeg = r12.toInt64) := by
    intro e1 e2
    rw [e2] at h2
    obtain ⟨rfl, rfl⟩ := Prod.mk.inj h2
    exact eqH (cv := fun v => v.toInt64) h (Or.inr ⟨_, e1, by rw [h3]; exact sI_eq, by decide⟩)
  have a0 : (0 : Int32).toInt = 0 := rfl
  have b0 : (0 : Int64).toInt = 0 := rfl
  by_cases c1 : 6 ≤ y1.toInt ∧ y1.toInt ≤ 200
  · have e6 : (y1 - (1 : Int32)).toInt = y1.toInt - 1 := t_subr (n := 1) rfl (by omega)
    by_cases c2 : 6 ≤ y2.toInt ∧ y2.toInt ≤ 200
    · by_cases c3 : 0 ≤ y3.toInt ∧ y3.toInt ≤ y1.toInt - 1
      · have e1 : f_X9_clock S o2 y1 y2 y3 = .ok (f_J9_floorMod_7cf53 ((-y3) * y2) y1) := by
          unfold f_X9_clock
          rw [eB_ok (nt_ok c1), eB_ok (nt_ok c2), eB_ok (rng_ok (by rw [a0, e6]; exact c3))]
        have e2 : f_X12_clock S4 o1 y1 y2 y3 = ((y1 - ((y3 * y2) - (y3 * y2) / y1 * y1)) - (y1 - ((y3 * y2) - (y3 * y2) / y1 * y1)) / y1 * y1, S4.sI o1 15 0) := by
          unfold f_X12_clock
          rw [li64 (a := 6) (b := 200) rfl rfl c1, li64 (a := 6) (b := 200) rfl rfl c2, in_ok (by rw [i64_i, i64_i, e6, b0]; exact c3), if_neg (by decide), if_neg (by decide), if_neg (by decide)]
          rfl
        have hp1 : 0 ≤ y3.toInt * y2.toInt := Int.mul_nonneg c3.1 (by omega)
        have hp2 : y3.toInt * y2.toInt ≤ 199 * 200 := Int.mul_le_mul (by omega) c2.2 (by omega) (by decide)
        have q1 : (y3 * y2).toInt = y3.toInt * y2.toInt := t_mulx (by omega)
        have qn : (-y3).toInt = -y3.toInt := by rw [Int32.toInt_neg]; exact Int.bmod_eq_of_le (by omega) (by omega)
        have q2 : ((-y3) * y2).toInt = -(y3.toInt * y2.toInt) := by rw [t_mulx (by rw [qn, Int.neg_mul]; omega), qn, Int.neg_mul]
        have q3 := rem_rng (x := y3 * y2) (y := y1) (by omega) (by omega)
        have q4 : (y1 - ((y3 * y2) - (y3 * y2) / y1 * y1)).toInt = y1.toInt - (y3.toInt * y2.toInt) % y1.toInt := by rw [t_sub (by omega), q3.2.2, q1]
        have q5 := rem_rng (x := y1 - ((y3 * y2) - (y3 * y2) / y1 * y1)) (y := y1) (by rw [q4, ← q1, ← q3.2.2]; omega) (by omega)
        have q6 : f_J9_floorMod_7cf53 ((-y3) * y2) y1 = (y1 - ((y3 * y2) - (y3 * y2) / y1 * y1)) - (y1 - ((y3 * y2) - (y3 * y2) / y1 * y1)) / y1 * y1 := by
          refine Int32.toInt_inj.mp ?_
          rw [q5.2.2, q4, fm_val (by omega), q2, neg_emod']
        rw [e2] at h2
        obtain ⟨rfl, rfl⟩ := Prod.mk.inj h2
        exact eqH (cv := fun v => v.toInt64) h (Or.inl ⟨_, e1, by rw [h3]; exact sI_eq, by rw [q6]⟩)
      · refine bad ?_ ?_
        · unfold f_X9_clock
          rw [eB_ok (nt_ok c1), eB_ok (nt_ok c2)]
          exact eB_er (rng_er (by rw [a0, e6]; exact c3))
        · unfold f_X12_clock
          rw [li64 (a := 6) (b := 200) rfl rfl c1, li64 (a := 6) (b := 200) rfl rfl c2, in_no (by rw [i64_i, i64_i, e6, b0]; exact c3), if_neg (by decide), if_neg (by decide), if_pos rfl]
          rfl
    · refine bad ?_ ?_
      · unfold f_X9_clock
        rw [eB_ok (nt_ok c1)]
        exact eB_er (nt_er c2)
      · unfold f_X12_clock
        rw [li64 (a := 6) (b := 200) rfl rfl c1, li64n (a := 6) (b := 200) rfl rfl c2, if_neg (by decide), if_pos rfl]
        rfl
  · refine bad ?_ ?_
    · unfold f_X9_clock
      exact eB_er (nt_er c1)
    · unfold f_X12_clock
      rw [li64n (a := 6) (b := 200) rfl rfl c1, if_pos rfl]
      rfl
