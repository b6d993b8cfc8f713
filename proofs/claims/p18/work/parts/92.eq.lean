/-- what holds all through the law's body -/
def LC (p : Program) (l : Launch) (s : State) (m : MethodId) (c : Code) (b L : Nat) (xs : Nat → Int32) (D : va_G) (cy : Nat → ClassId) (c8 c9 : ClassId) (e0 mi : Nat) : Prop :=
  p.tables.exec = Jvm.exec ∧ c.code = cL_law ∧ c.maxLocals = 9 ∧ s.vm.findClass RL = some m.cls ∧ (∀ w ∈ wsL_law, w.before #[Value.ref b] s = true) ∧ va_X b L xs s s.heap ∧ b < s.heap.size ∧ NW s ∧ TH (fun q => s.heap.size ≤ q) s ∧ OU e0 mi (fun q => s.heap.size ≤ q) s s.heap ∧ va_K D vwCl (tyX cy c8 c9) s ∧ l.stackTraces = false ∧ NC s
/-- what holds at the head of each round: the shop, the reference, the two rows of answers -/
def LI (D : va_G) (cy : Nat → ClassId) (c8 c9 : ClassId) (e0 : Nat) (A : Nat → Prop) (o1 o2 qo qd : Nat) (fo : Nat → Int64) (fd : Nat → UInt64) (S : wPS) (H : Heap) : Prop :=
  va_P D vwCl (XO c8 c9 qo qd fo fd ++ PL cy S) H ∧ va_D A (XO c8 c9 qo qd fo fd ++ PL cy S) ∧ wtB S [] ∧ isA S o2 9 ∧ isA S o1 12 ∧ S.F o1 77 = some e0 ∧ MV S o1 ∧ IV S o1
theorem lcmp_self (x : Int64) : lg_cmp x x = 0 := by
  unfold lg_cmp
  simp
theorem rng_ok {x a b : Int32} (h : a.toInt ≤ x.toInt ∧ x.toInt ≤ b.toInt) : f_X9_needRange x a b = .ok () := by
  unfold f_X9_needRange
  rw [if_neg (fun q => by have := lt_i q; omega), if_pos (Int32.le_iff_toInt_le.mpr h.2)]
theorem rng_er {x a b : Int32} (h : ¬ (a.toInt ≤ x.toInt ∧ x.toInt ≤ b.toInt)) : f_X9_needRange x a b = .error "java/lang/IllegalArgumentException" := by
  unfold f_X9_needRange
  split
  · rfl
  · rename_i h1
    rw [if_neg (fun q => h ⟨nlt_i h1, le_i q⟩)]
theorem in_ok {x lo hi : Int64} (h : lo.toInt ≤ x.toInt ∧ x.toInt ≤ hi.toInt) : f_X12_in x lo hi = 1 := by
  unfold f_X12_in
  rw [if_neg (fun q => by have := lc_lt q; omega), if_neg (fun q => by have := lc_gt q; omega)]
theorem in_no {x lo hi : Int64} (h : ¬ (lo.toInt ≤ x.toInt ∧ x.toInt ≤ hi.toInt)) : f_X12_in x lo hi = 0 := by
  unfold f_X12_in
  split
  · rfl
  · rename_i h1
    split
    · rfl
    · rename_i h2
      exact absurd ⟨lc_nlt h1, lc_ngt h2⟩ h
theorem eqH {α : Type} {call : Except String α} {cv : α → Int64} {wc : String → Int32} {r3 r20 : Int32} {ans : Int64} {fo f5 : Nat → Int64} (h : (∃ v, call = .ok v ∧ r3 = 0 ∧ f5 = vp_updL fo (0 : Int32).toNatClampNeg (cv v)) ∨ ∃ E, call = .error E ∧ r3 = wc E ∧ f5 = fo) (hc : (∃ v, call = .ok v ∧ r20 = 0 ∧ cv v = ans) ∨ ∃ E, call = .error E ∧ r20 = wc E ∧ ¬ wc E = 0) : r20 = r3 ∧ (r3 = 0 → f5 (0 : Int32).toNatClampNeg = ans) := by
  rcases hc with ⟨v, e1, e2, e3⟩ | ⟨E, e1, e2, e3⟩
  · rcases h with ⟨w, g1, g2, g3⟩ | ⟨E, g1, -, -⟩
    · rw [e1] at g1; cases g1
      exact ⟨e2.trans g2.symm, fun _ => by rw [g3, ← e3]; simp [vp_updL]⟩
    · rw [e1] at g1; cases g1
  · rcases h with ⟨w, g1, -, -⟩ | ⟨E2, g1, g2, -⟩
    · rw [e1] at g1; cases g1
    · rw [e1] at g1; cases g1
      exact ⟨e2.trans g2.symm, fun q => absurd (g2.symm.trans q) e3⟩
theorem nt_ok {x : Int32} (h : 6 ≤ x.toInt ∧ x.toInt ≤ 200) : f_X9_needTeeth x = .ok () := by
  have a1 : (6 : Int32).toInt = 6 := rfl
  have a2 : (200 : Int32).toInt = 200 := rfl
  unfold f_X9_needTeeth
  rw [eB_ok (rng_ok (by rw [a1, a2]; exact h))]
theorem nt_er {x : Int32} (h : ¬ (6 ≤ x.toInt ∧ x.toInt ≤ 200)) : f_X9_needTeeth x = .error "java/lang/IllegalArgumentException" := by
  have a1 : (6 : Int32).toInt = 6 := rfl
  have a2 : (200 : Int32).toInt = 200 := rfl
  unfold f_X9_needTeeth
  exact eB_er (rng_er (by rw [a1, a2]; exact h))
theorem li64 {x : Int32} {a b : Int} {la lb : Int64} (ha : la.toInt = a) (hb : lb.toInt = b) (h : a ≤ x.toInt ∧ x.toInt ≤ b) : f_X12_in x.toInt64 la lb = 1 := in_ok (by rw [i64_i, ha, hb]; exact h)
theorem li64n {x : Int32} {a b : Int} {la lb : Int64} (ha : la.toInt = a) (hb : lb.toInt = b) (h : ¬ (a ≤ x.toInt ∧ x.toInt ≤ b)) : f_X12_in x.toInt64 la lb = 0 := in_no (by rw [i64_i, ha, hb]; exact h)
/-! planets: the same sign of the same numbers -/
theorem ps_eq {x y z : Int32} (h : 3 ≤ z.toInt ∧ z.toInt ≤ 6) : f_X9_planetSign x y z = f_X12_goes x y z := by
  rcases (show z.toInt = 3 ∨ z.toInt = 4 ∨ z.toInt = 5 ∨ z.toInt = 6 by omega) with q | q | q | q
  · obtain rfl : z = 3 := Int32.toInt_inj.mp q
    unfold f_X9_planetSign f_X12_goes
    rw [if_neg (show ¬ (3 : Int32) < (3 : Int32) by decide), if_neg (show ¬ (4 : Int32) ≤ (3 : Int32) - (3 : Int32) by decide), if_pos (show (3 : Int32) = (3 : Int32) from rfl), show sinesF ((3 : Int32) - (3 : Int32)).toNatClampNeg = (866 : Int32) from rfl]
  · obtain rfl : z = 4 := Int32.toInt_inj.mp q
    unfold f_X9_planetSign f_X12_goes
    rw [if_neg (show ¬ (4 : Int32) < (3 : Int32) by decide), if_neg (show ¬ (4 : Int32) ≤ (4 : Int32) - (3 : Int32) by decide), if_neg (show ¬ (4 : Int32) = (3 : Int32) by decide), if_pos (show (4 : Int32) = (4 : Int32) from rfl), show sinesF ((4 : Int32) - (3 : Int32)).toNatClampNeg = (707 : Int32) from rfl]
  · obtain rfl : z = 5 := Int32.toInt_inj.mp q
    unfold f_X9_planetSign f_X12_goes
    rw [if_neg (show ¬ (5 : Int32) < (3 : Int32) by decide), if_neg (show ¬ (4 : Int32) ≤ (5 : Int32) - (3 : Int32) by decide), if_neg (show ¬ (5 : Int32) = (3 : Int32) by decide), if_neg (show ¬ (5 : Int32) = (4 : Int32) by decide), if_pos (show (5 : Int32) = (5 : Int32) from rfl), show sinesF ((5 : Int32) - (3 : Int32)).toNatClampNeg = (588 : Int32) from rfl]
  · obtain rfl : z = 6 := Int32.toInt_inj.mp q
    unfold f_X9_planetSign f_X12_goes
    rw [if_neg (show ¬ (6 : Int32) < (3 : Int32) by decide), if_neg (show ¬ (4 : Int32) ≤ (6 : Int32) - (3 : Int32) by decide), if_neg (show ¬ (6 : Int32) = (3 : Int32) by decide), if_neg (show ¬ (6 : Int32) = (4 : Int32) by decide), if_neg (show ¬ (6 : Int32) = (5 : Int32) by decide), show sinesF ((6 : Int32) - (3 : Int32)).toNatClampNeg = (500 : Int32) from rfl]
theorem th1 {S : wPS} {o : Nat} {z : Int32 × wPS} : l1 (S.sI o 15 (1 : Int32)) (fun T => if (T.I o 15) = (0 : Int32) then z else ((0 : Int32), T)) = ((0 : Int32), S.sI o 15 (1 : Int32)) := by
  show (if (S.sI o 15 (1 : Int32)).I o 15 = (0 : Int32) then z else ((0 : Int32), S.sI o 15 (1 : Int32))) = _
  rw [sI_eq, if_neg (by decide)]
theorem eq_planets {S S4 S16 : wPS} {o1 o2 : Nat} {y1 y2 y3 r3 r12 r20 : Int32} {fo f5 : Nat → Int64} (h : (∃ v, f_X9_planets S o2 y1 y2 y3 = .ok v ∧ r3 = 0 ∧ f5 = vp_updL fo (0 : Int32).toNatClampNeg (v.toInt64)) ∨ (∃ E, f_X9_planets S o2 y1 y2 y3 = .error E ∧ r3 = wc_planets E ∧ f5 = fo)) (h2 : (r12, S16) = f_X12_planets S4 o1 y1 y2 y3) (h3 : r20 = f_X12_thrown S16 o1) : r20 = r3 ∧ (r3 = 0 → f5 (0 : Int32).toNatClampNeg = r12.toInt64) := by
  have bad : f_X9_planets S o2 y1 y2 y3 = .error "java/lang/IllegalArgumentException" → (∃ z, f_X12_planets S4 o1 y1 y2 y3 = (z, S4.sI o1 15 1)) → r20 = r3 ∧ (r3 = 0 → f5 (0 : Int32).toNatClampNeg = r12.toInt64) := by
    intro e1 ⟨z, e2⟩
    rw [e2] at h2
    obtain ⟨rfl, rfl⟩ := Prod.mk.inj h2
    exact eqH (cv := fun v => v.toInt64) h (Or.inr ⟨_, e1, by rw [h3]; exact sI_eq, by decide⟩)
  have go : ∀ (U : wPS) (z : Int32 × wPS), ∃ w, (if (S4.sI o1 15 (1 : Int32)).I o1 15 = (0 : Int32) then z else ((0 : Int32), S4.sI o1 15 (1 : Int32))) = (w, S4.sI o1 15 1) := fun U z => ⟨0, by rw [sI_eq, if_neg (by decide)]⟩
  by_cases c1 : 6 ≤ y1.toInt ∧ y1.toInt ≤ 200
  · have l1 : (1 : Int32).toInt = 1 := rfl
    have a6 : (600 : Int32).toInt = 600 := rfl
    have e6 : (y1 + (1 : Int32)).toInt = y1.toInt + 1 := t_addr (n := 1) rfl (by omega)
    by_cases c2 : y1.toInt + 1 ≤ y2.toInt ∧ y2.toInt ≤ 600
    · by_cases c3 : 3 ≤ y3.toInt ∧ y3.toInt ≤ 6
      · have e1 : f_X9_planets S o2 y1 y2 y3 = .ok (f_X9_planetSign y1 y2 y3) := by
          unfold f_X9_planets
          rw [eB_ok (nt_ok c1), eB_ok (rng_ok (by rw [e6, a6]; exact c2)), eB_ok (rng_ok (x := y3) (a := 3) (b := 6) c3)]
        have e2 : f_X12_planets S4 o1 y1 y2 y3 = (f_X12_goes y1 y2 y3, S4.sI o1 15 0) := by
          unfold f_X12_planets
          rw [li64 (a := 6) (b := 200) rfl rfl c1, in_ok (by rw [i64_i, i64_i, e6]; exact c2), li64 (a := 3) (b := 6) rfl rfl c3, if_neg (by decide), if_neg (by decide), if_neg (by decide)]
          show (if (S4.sI o1 15 (0 : Int32)).I o1 15 = (0 : Int32) then (f_X12_goes y1 y2 y3, S4.sI o1 15 0) else ((0 : Int32), S4.sI o1 15 0)) = _
          rw [sI_eq, if_pos rfl]
        rw [e2] at h2
        obtain ⟨rfl, rfl⟩ := Prod.mk.inj h2
        exact eqH (cv := fun v => v.toInt64) h (Or.inl ⟨_, e1, by rw [h3]; exact sI_eq, by rw [ps_eq c3]⟩)
      · refine bad ?_ ?_
        · unfold f_X9_planets
          rw [eB_ok (nt_ok c1), eB_ok (rng_ok (by rw [e6, a6]; exact c2))]
          exact eB_er (rng_er (x := y3) (a := 3) (b := 6) c3)
        · unfold f_X12_planets
          rw [li64 (a := 6) (b := 200) rfl rfl c1, in_ok (by rw [i64_i, i64_i, e6]; exact c2), li64n (a := 3) (b := 6) rfl rfl c3, if_neg (by decide), if_neg (by decide), if_pos rfl]
          exact ⟨_, th1⟩
    · refine bad ?_ ?_
      · unfold f_X9_planets
        rw [eB_ok (nt_ok c1)]
        exact eB_er (rng_er (by rw [e6, a6]; exact c2))
      · unfold f_X12_planets
        rw [li64 (a := 6) (b := 200) rfl rfl c1, in_no (by rw [i64_i, i64_i, e6]; exact c2), if_neg (by decide), if_pos rfl]
        exact ⟨_, th1⟩
  · refine bad ?_ ?_
    · unfold f_X9_planets
      exact eB_er (nt_er c1)
    · unfold f_X12_planets
      rw [li64n (a := 6) (b := 200) rfl rfl c1, if_pos rfl]
      exact ⟨_, th1⟩
