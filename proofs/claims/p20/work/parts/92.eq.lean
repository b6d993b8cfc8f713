/-- as many wheels in both boxes -/
def RB (o2 : Nat) (S : wPS) (o : Nat) : Prop := isA S o2 9 ∧ (S.F o2 6 = some (S.f o2 6) ∧ isA S (S.f o2 6) 0) ∧ S.I (S.f o2 6) 2 = S.I o 16
theorem RB.keep {W : List (Nat × Nat)} {S U : wPS} {o2 o : Nat} (h : stp W [] [] S U) (_ : wtB S []) (hA : isA S o 12) (h1 : ∀ p ∈ ([(0, 2), (12, 16)] : List (Nat × Nat)), p ∉ W) (_ : True) (m : RB o2 S o) : RB o2 U o := by
  obtain ⟨hA2, ⟨e, hb⟩, mc⟩ := m
  have e' := h.x.F hA2 (Or.inl (by decide)) e
  have f' : U.f o2 6 = S.f o2 6 := f_of e'
  have q1 : U.I (S.f o2 6) 2 = S.I (S.f o2 6) 2 := ((h.fR _ hb.1 List.not_mem_nil).1 2 (by rw [hb.2.1]; exact h1 _ (by decide))).1
  have q2 : U.I o 16 = S.I o 16 := ((h.fR _ hA.1 List.not_mem_nil).1 16 (by rw [hA.2.1]; exact h1 _ (by decide))).1
  exact ⟨h.x.A hA2, ⟨by rw [f']; exact e', by rw [f']; exact h.x.A hb⟩, by rw [f', q1, q2]; exact mc⟩
/-- what holds all through the law's body -/
def LC (p : Program) (l : Launch) (s : State) (m : MethodId) (c : Code) (b L : Nat) (xs : Nat → Int32) (D : va_G) (cy : Nat → ClassId) (c8 c9 : ClassId) (e0 mi : Nat) : Prop :=
  p.tables.exec = Jvm.exec ∧ c.code = cL_law ∧ c.maxLocals = 9 ∧ s.vm.findClass RL = some m.cls ∧ (∀ w ∈ wsL_law, w.before #[Value.ref b] s = true) ∧ va_X b L xs s s.heap ∧ b < s.heap.size ∧ NW s ∧ TH (fun q => s.heap.size ≤ q) s ∧ OU e0 mi (fun q => s.heap.size ≤ q) s s.heap ∧ va_K D vwCl (tyX cy c8 c9) s ∧ l.stackTraces = false ∧ NC s
/-- what holds at the head of each round: the shop, the reference, the two rows of answers -/
def LI (D : va_G) (cy : Nat → ClassId) (c8 c9 : ClassId) (e0 : Nat) (A : Nat → Prop) (o1 o2 qo qd : Nat) (fo : Nat → Int64) (fd : Nat → UInt64) (S : wPS) (H : Heap) : Prop :=
  va_P D vwCl (XO c8 c9 qo qd fo fd ++ PL cy S) H ∧ va_D A (XO c8 c9 qo qd fo fd ++ PL cy S) ∧ wtB S [] ∧ isA S o2 9 ∧ isA S o1 12 ∧ S.F o1 77 = some e0 ∧ MV S o1 ∧ IV S o1 ∧ RB o2 S o1
theorem lcmp_self (x : Int64) : lg_cmp x x = 0 := by
  unfold lg_cmp
  simp
theorem rng_ok {x a b : Int32} (h : a.toInt ≤ x.toInt ∧ x.toInt ≤ b.toInt) : f_X9_needRange x a b = .ok () := by
  unfold f_X9_needRange
  rw [if_neg (fun q => by have := lt_i q; omega), if_pos (Int32.le_iff_toInt_le.mpr h.2)]
theorem rng_er {x a b : Int32} (h : ¬ (a.toInt ≤ x.toInt ∧ x.toInt ≤ b.toInt)) : f_X9_needRange x a b = .error "java/lang/IllegalArgumentException" := by
  unfold f_X9_needRange
  split
  · rfl
  · rename_i h1
    rw [if_neg (fun q => h ⟨nlt_i h1, le_i q⟩)]
theorem in_ok {x lo hi : Int64} (h : lo.toInt ≤ x.toInt ∧ x.toInt ≤ hi.toInt) : f_X12_in x lo hi = 1 := by
  unfold f_X12_in
  rw [if_neg (fun q => by have := lc_lt q; omega), if_neg (fun q => by have := lc_gt q; omega)]
theorem in_no {x lo hi : Int64} (h : ¬ (lo.toInt ≤ x.toInt ∧ x.toInt ≤ hi.toInt)) : f_X12_in x lo hi = 0 := by
  unfold f_X12_in
  split
  · rfl
  · rename_i h1
    split
    · rfl
    · rename_i h2
      exact absurd ⟨lc_nlt h1, lc_ngt h2⟩ h
theorem eqH {α : Type} {call : Except String α} {cv : α → Int64} {wc : String → Int32} {r3 r20 : Int32} {ans : Int64} {fo f5 : Nat → Int64} (h : (∃ v, call = .ok v ∧ r3 = 0 ∧ f5 = vp_updL fo (0 : Int32).toNatClampNeg (cv v)) ∨ ∃ E, call = .error E ∧ r3 = wc E ∧ f5 = fo) (hc : (∃ v, call = .ok v ∧ r20 = 0 ∧ cv v = ans) ∨ ∃ E, call = .error E ∧ r20 = wc E ∧ ¬ wc E = 0) : r20 = r3 ∧ (r3 = 0 → f5 (0 : Int32).toNatClampNeg = ans) := by
  rcases hc with ⟨v, e1, e2, e3⟩ | ⟨E, e1, e2, e3⟩
  · rcases h with ⟨w, g1, g2, g3⟩ | ⟨E, g1, -, -⟩
    · rw [e1] at g1; cases g1
      exact ⟨e2.trans g2.symm, fun _ => by rw [g3, ← e3]; simp [vp_updL]⟩
    · rw [e1] at g1; cases g1
  · rcases h with ⟨w, g1, -, -⟩ | ⟨E2, g1, g2, -⟩
    · rw [e1] at g1; cases g1
    · rw [e1] at g1; cases g1
      exact ⟨e2.trans g2.symm, fun q => absurd (g2.symm.trans q) e3⟩
theorem nt_ok {x : Int32} (h : 6 ≤ x.toInt ∧ x.toInt ≤ 200) : f_X9_needTeeth x = .ok () := by
  have a1 : (6 : Int32).toInt = 6 := rfl
  have a2 : (200 : Int32).toInt = 200 := rfl
  unfold f_X9_needTeeth
  rw [eB_ok (rng_ok (by rw [a1, a2]; exact h))]
theorem nt_er {x : Int32} (h : ¬ (6 ≤ x.toInt ∧ x.toInt ≤ 200)) : f_X9_needTeeth x = .error "java/lang/IllegalArgumentException" := by
  have a1 : (6 : Int32).toInt = 6 := rfl
  have a2 : (200 : Int32).toInt = 200 := rfl
  unfold f_X9_needTeeth
  exact eB_er (rng_er (by rw [a1, a2]; exact h))
theorem li64 {x : Int32} {a b : Int} {la lb : Int64} (ha : la.toInt = a) (hb : lb.toInt = b) (h : a ≤ x.toInt ∧ x.toInt ≤ b) : f_X12_in x.toInt64 la lb = 1 := in_ok (by rw [i64_i, ha, hb]; exact h)
theorem li64n {x : Int32} {a b : Int} {la lb : Int64} (ha : la.toInt = a) (hb : lb.toInt = b) (h : ¬ (a ≤ x.toInt ∧ x.toInt ≤ b)) : f_X12_in x.toInt64 la lb = 0 := in_no (by rw [i64_i, ha, hb]; exact h)
theorem eq_wheel {S S4 S16 : wPS} {o1 o2 : Nat} {y1 r3 r12 r20 : Int32} {fo f5 : Nat → Int64} (m : RB o2 S o1) (hA : isA S o1 12) (hW : wtB S []) (hw : stp [(0, 2), (27, 100)] [] [] S S4) (hm : stp [(12, 15), (12, 16), (31, 100)] [] [] S4 S16) (h : (∃ v, f_X9_wheel S o2 y1 = .ok (v, S4) ∧ r3 = 0 ∧ f5 = vp_updL fo (0 : Int32).toNatClampNeg (v.toInt64) ∧ (S4.I (S.f o2 6) 2).toInt = (S.I (S.f o2 6) 2).toInt + 1 ∧ v.toInt = (S.I (S.f o2 6) 2).toInt + 1) ∨ (∃ E, f_X9_wheel S o2 y1 = .error E ∧ r3 = wc_wheel E ∧ f5 = fo ∧ S4 = S)) (h2 : (r12, S16) = f_X12_wheel S4 o1 y1) (h3 : r20 = f_X12_thrown S16 o1) : (r20 = r3 ∧ (r3 = 0 → f5 (0 : Int32).toNatClampNeg = r12.toInt64)) ∧ RB o2 S16 o1 := by
  have m0 := m
  obtain ⟨hA2, ⟨e0, hb⟩, mc⟩ := m
  have a15 : (15 : Int32).toInt = 15 := rfl
  have a127 : (127 : Int32).toInt = 127 := rfl
  have a16 : (16 : Int32).toInt = 16 := rfl
  have t20 : r20 = S16.I o1 15 := h3
  have R2 := ((hW.at hb List.not_mem_nil).to_0 hb.2.1).R2
  have q4 : S4.I o1 16 = S.I o1 16 := ((hw.fR _ hA.1 List.not_mem_nil).1 16 (by rw [hA.2.1]; decide)).1
  have f4 : S4.f o2 6 = S.f o2 6 := f_of (hw.x.F hA2 (Or.inl (by decide)) e0)
  have e16 := (hw.x.tr hm.x).F hA2 (Or.inl (by decide)) e0
  have f16 : S16.f o2 6 = S.f o2 6 := f_of e16
  have q16 : S16.I (S.f o2 6) 2 = S4.I (S.f o2 6) 2 := ((hm.fR _ (hw.x.A hb).1 List.not_mem_nil).1 2 (by rw [(hw.x.A hb).2.1]; decide)).1
  have fin : S16.I (S.f o2 6) 2 = S16.I o1 16 → RB o2 S16 o1 := fun q => ⟨(hw.x.tr hm.x).A hA2, ⟨by rw [f16]; exact e16, by rw [f16]; exact (hw.x.tr hm.x).A hb⟩, by rw [f16]; exact q⟩
  have hob : ¬ S.f o2 6 = o1 := fun e => by have k := hb.2.1; rw [e, hA.2.1] at k; exact absurd k (by decide)
  have bad : ∀ (E : String) (n : Int32), f_X9_wheel S o2 y1 = .error E → wc_wheel E = n → ¬ n = 0 → f_X12_wheel S o1 y1 = (0, S.sI o1 15 n) → (r20 = r3 ∧ (r3 = 0 → f5 (0 : Int32).toNatClampNeg = r12.toInt64)) ∧ RB o2 S16 o1 := fun E n e1 e2 e3 e4 => by
    rcases h with ⟨v, g, -⟩ | ⟨E2, g, g2, g3, g4⟩
    · rw [e1] at g; cases g
    · rw [e1] at g; cases g
      rw [g4, e4] at h2
      have h9 := (Prod.mk.inj h2).2
      have h4 : r20 = n := by rw [t20, h9]; exact sI_eq
      have h5 : r3 = n := g2.trans e2
      refine ⟨⟨h4.trans h5.symm, fun q => absurd (h5.symm.trans q) e3⟩, fin ?_⟩
      rw [h9, sI_no hob, sI_ne (by decide)]; exact mc
  by_cases c : 15 ≤ y1.toInt ∧ y1.toInt ≤ 127
  · by_cases d : (16 : Int32) ≤ S.I (S.f o2 6) 2
    · have d2 := Int32.le_iff_toInt_le.mp d
      have d3 : S.I (S.f o2 6) 2 = 16 := Int32.toInt_inj.mp (by omega)
      refine bad "java/lang/IllegalStateException" 2 ?_ (by decide +kernel) (by decide) ?_
      · unfold f_X9_wheel
        rw [eB_ok (rng_ok (by rw [a15, a127]; exact c)), show f_X0_isFull S (S.f o2 6) = 1 from by unfold f_X0_isFull; rw [if_neg (fun q => by have := Int32.lt_iff_toInt_lt.mp q; omega)], if_neg (by decide)]
      · unfold f_X12_wheel
        rw [li64 (a := 15) (b := 127) rfl rfl c, if_neg (by decide), if_pos (by rw [← mc]; exact d3)]; rfl
    · have e1 : f_X9_wheel S o2 y1 = .ok (f_X0_put S (S.f o2 6) y1) := by
        unfold f_X9_wheel
        rw [eB_ok (rng_ok (by rw [a15, a127]; exact c)), show f_X0_isFull S (S.f o2 6) = 0 from by unfold f_X0_isFull; rw [if_pos (Int32.lt_iff_toInt_lt.mpr (by have d9 : ¬ (16 : Int32).toInt ≤ (S.I (S.f o2 6) 2).toInt := fun q => d (Int32.le_iff_toInt_le.mpr q); omega))], if_pos rfl]; rfl
      have n6 : ¬ S4.I o1 16 = (16 : Int32) := fun q => d (by rw [mc, ← q4, q]; exact Int32.le_refl _)
      have d2 : ¬ (16 : Int32).toInt ≤ (S.I (S.f o2 6) 2).toInt := fun q => d (Int32.le_iff_toInt_le.mpr q)
      rcases h with ⟨v, g, g2, g3, g4, g5⟩ | ⟨E, g, -⟩
      · have e2 : ∃ T : wPS, T.I = S4.I ∧ f_X12_wheel S4 o1 y1 = ((T.sI o1 16 (T.I o1 16 + (1 : Int32))).I o1 16, (T.sI o1 16 (T.I o1 16 + (1 : Int32))).sI o1 15 0) := by
          unfold f_X12_wheel
          rw [li64 (a := 15) (b := 127) rfl rfl c, if_neg (by decide), if_neg n6]
          exact ⟨S4.si (S4.f o1 2) _, rfl, rfl⟩
        obtain ⟨T, hT, e2⟩ := e2
        rw [e2, hT, sI_eq, q4, ← mc] at h2
        obtain ⟨h8, h9⟩ := Prod.mk.inj h2
        have ev : v = S.I (S.f o2 6) 2 + (1 : Int32) := Int32.toInt_inj.mp (by rw [g5, t_addr (n := 1) rfl (by omega)])
        have e4 : S4.I (S.f o2 6) 2 = S.I (S.f o2 6) 2 + (1 : Int32) := Int32.toInt_inj.mp (by rw [g4, t_addr (n := 1) rfl (by omega)])
        refine ⟨⟨(show r20 = 0 by rw [t20, h9]; exact sI_eq).trans g2.symm, fun _ => by rw [g3, h8, ev]; simp [vp_updL]⟩, fin ?_⟩
        rw [q16, e4, h9, sI_ne (by decide), sI_eq]
      · rw [e1] at g; cases g
  · refine bad "java/lang/IllegalArgumentException" 1 ?_ (by decide +kernel) (by decide) ?_
    · unfold f_X9_wheel
      exact eB_er (rng_er (by rw [a15, a127]; exact c))
    · unfold f_X12_wheel
      rw [li64n (a := 15) (b := 127) rfl rfl c, if_pos rfl]; rfl
