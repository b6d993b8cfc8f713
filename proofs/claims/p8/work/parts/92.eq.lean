/-- what holds all through the law's body -/
def LC (p : Program) (l : Launch) (s : State) (m : MethodId) (c : Code) (b L : Nat) (xs : Nat → Int32) (D : va_G) (cy : Nat → ClassId) (c8 c9 : ClassId) (e0 mi : Nat) : Prop :=
  p.tables.exec = Jvm.exec ∧ c.code = cL_law ∧ c.maxLocals = 9 ∧ s.vm.findClass RL = some m.cls ∧ (∀ w ∈ wsL_law, w.before #[Value.ref b] s = true) ∧ va_X b L xs s s.heap ∧ b < s.heap.size ∧ NW s ∧ TH (fun q => s.heap.size ≤ q) s ∧ OU e0 mi (fun q => s.heap.size ≤ q) s s.heap ∧ va_K D vwCl (tyX cy c8 c9) s ∧ l.stackTraces = false ∧ NC s
/-- what holds at the head of each round: the shop, the reference, the two rows of answers -/
def LI (D : va_G) (cy : Nat → ClassId) (c8 c9 : ClassId) (e0 : Nat) (A : Nat → Prop) (o1 o2 qo qd : Nat) (fo : Nat → Int64) (fd : Nat → UInt64) (S : wPS) (H : Heap) : Prop :=
  va_P D vwCl (XO c8 c9 qo qd fo fd ++ PL cy S) H ∧ va_D A (XO c8 c9 qo qd fo fd ++ PL cy S) ∧ wtB S [] ∧ isA S o2 9 ∧ isA S o1 12 ∧ S.F o1 77 = some e0 ∧ MV S o1 ∧ IV S o1
theorem lcmp_self (x : Int64) : lg_cmp x x = 0 := by
  unfold lg_cmp
  simp
theorem rng_ok {x a b : Int32} (h : a.toInt ≤ x.toInt ∧ x.toInt ≤ b.toInt) : f_X9_needRange x a b = .ok () := by
  unfold f_X9_needRange
  rw [if_neg (fun q => by have := lt_i q; omega), if_pos (Int32.le_iff_toInt_le.mpr h.2)]
theorem rng_er {x a b : Int32} (h : ¬ (a.toInt ≤ x.toInt ∧ x.toInt ≤ b.toInt)) : f_X9_needRange x a b = .error "java/lang/IllegalArgumentException" := by
  unfold f_X9_needRange
  split
  · rfl
  · rename_i h1
    rw [if_neg (fun q => h ⟨nlt_i h1, le_i q⟩)]
theorem in_ok {x lo hi : Int64} (h : lo.toInt ≤ x.toInt ∧ x.toInt ≤ hi.toInt) : f_X12_in x lo hi = 1 := by
  unfold f_X12_in
  rw [if_neg (fun q => by have := lc_lt q; omega), if_neg (fun q => by have := lc_gt q; omega)]
theorem in_no {x lo hi : Int64} (h : ¬ (lo.toInt ≤ x.toInt ∧ x.toInt ≤ hi.toInt)) : f_X12_in x lo hi = 0 := by
  unfold f_X12_in
  split
  · rfl
  · rename_i h1
    split
    · rfl
    · rename_i h2
      exact absurd ⟨lc_nlt h1, lc_ngt h2⟩ h
theorem eqH {α : Type} {call : Except String α} {cv : α → Int64} {wc : String → Int32} {r3 r20 : Int32} {ans : Int64} {fo f5 : Nat → Int64} (h : (∃ v, call = .ok v ∧ r3 = 0 ∧ f5 = vp_updL fo (0 : Int32).toNatClampNeg (cv v)) ∨ ∃ E, call = .error E ∧ r3 = wc E ∧ f5 = fo) (hc : (∃ v, call = .ok v ∧ r20 = 0 ∧ cv v = ans) ∨ ∃ E, call = .error E ∧ r20 = wc E ∧ ¬ wc E = 0) : r20 = r3 ∧ (r3 = 0 → f5 (0 : Int32).toNatClampNeg = ans) := by
  rcases hc with ⟨v, e1, e2, e3⟩ | ⟨E, e1, e2, e3⟩
  · rcases h with ⟨w, g1, g2, g3⟩ | ⟨E, g1, -, -⟩
    · rw [e1] at g1; cases g1
      exact ⟨e2.trans g2.symm, fun _ => by rw [g3, ← e3]; simp [vp_updL]⟩
    · rw [e1] at g1; cases g1
  · rcases h with ⟨w, g1, -, -⟩ | ⟨E2, g1, g2, -⟩
    · rw [e1] at g1; cases g1
    · rw [e1] at g1; cases g1
      exact ⟨e2.trans g2.symm, fun q => absurd (g2.symm.trans q) e3⟩
theorem nt_ok {x : Int32} (h : 6 ≤ x.toInt ∧ x.toInt ≤ 200) : f_X9_needTeeth x = .ok () := by
  have a1 : (6 : Int32).toInt = 6 := rfl
  have a2 : (200 : Int32).toInt = 200 := rfl
  unfold f_X9_needTeeth
  rw [eB_ok (rng_ok (by rw [a1, a2]; exact h))]
theorem nt_er {x : Int32} (h : ¬ (6 ≤ x.toInt ∧ x.toInt ≤ 200)) : f_X9_needTeeth x = .error "java/lang/IllegalArgumentException" := by
  have a1 : (6 : Int32).toInt = 6 := rfl
  have a2 : (200 : Int32).toInt = 200 := rfl
  unfold f_X9_needTeeth
  exact eB_er (rng_er (by rw [a1, a2]; exact h))
theorem li64 {x : Int32} {a b : Int} {la lb : Int64} (ha : la.toInt = a) (hb : lb.toInt = b) (h : a ≤ x.toInt ∧ x.toInt ≤ b) : f_X12_in x.toInt64 la lb = 1 := in_ok (by rw [i64_i, ha, hb]; exact h)
theorem li64n {x : Int32} {a b : Int} {la lb : Int64} (ha : la.toInt = a) (hb : lb.toInt = b) (h : ¬ (a ≤ x.toInt ∧ x.toInt ≤ b)) : f_X12_in x.toInt64 la lb = 0 := in_no (by rw [i64_i, ha, hb]; exact h)
/-! fewest: both count up to the same number -/
def fw (x : Int32) : Nat → Int32 → Int32
  | 0, w => w
  | n + 1, w => if (200 : Int32) ≤ w then w else if (f_X9_undercuts w x) = (0 : Int32) then w else fw x n (w + (1 : Int32))
theorem fw_eq (S : wPS) (o : Nat) (x : Int32) (n : Nat) : ∀ w, f_X9_fewest_L10 S o x n w = fw x n w := by
  induction n with
  | zero => intro w; rfl
  | succ n ih => intro w; simp only [f_X9_fewest_L10, fw, ih]
def fm (x : Int32) : Nat → Int32 → Int32
  | 0, w => w
  | n + 1, w => if ((100 : Int32) * ((137 : Int32) - ((8 : Int32) * w))) ≤ ((137 : Int32) * x) then w else fm x n (w + (1 : Int32))
theorem fm_eq (S : wPS) (o : Nat) (x : Int32) (n : Nat) : ∀ w, f_X12_fewest_L22 S o x n w = fm x n w := by
  induction n with
  | zero => intro w; rfl
  | succ n ih => intro w; simp only [f_X12_fewest_L22, fm, ih]
theorem fw_all : ∀ k : Fin 201, fw (nI k.val - 100) 256 1 = fm (nI k.val - 100) 41 1 := by decide +kernel
theorem fw_fm {x : Int32} (h : -100 ≤ x.toInt ∧ x.toInt ≤ 100) : fw x 256 1 = fm x 41 1 := by
  have l1 : (100 : Int32).toInt = 100 := rfl
  have h1 : (nI (x.toInt + 100).toNat).toInt = (((x.toInt + 100).toNat : Nat) : Int) := nI_toInt (by omega)
  have e : x = nI (x.toInt + 100).toNat - 100 := Int32.toInt_inj.mp (by rw [t_sub (by omega), h1, l1]; omega)
  have h2 := fw_all ⟨(x.toInt + 100).toNat, by omega⟩
  rw [e]; exact h2
theorem eq_fewest {S S4 S16 : wPS} {o1 o2 : Nat} {y r3 r12 r20 : Int32} {fo f5 : Nat → Int64} (h : (∃ v, f_X9_fewest S o2 y = .ok v ∧ r3 = 0 ∧ f5 = vp_updL fo (0 : Int32).toNatClampNeg v.toInt64) ∨ (∃ E, f_X9_fewest S o2 y = .error E ∧ r3 = wc_fewest E ∧ f5 = fo)) (h2 : (r12, S16) = f_X12_fewest S4 o1 y) (h3 : r20 = f_X12_thrown S16 o1) : r20 = r3 ∧ (r3 = 0 → f5 (0 : Int32).toNatClampNeg = r12.toInt64) := by
  have a1 : (-100 : Int32).toInt = -100 := rfl
  have a2 : (100 : Int32).toInt = 100 := rfl
  have b1 : (-100 : Int64).toInt = -100 := rfl
  have b2 : (100 : Int64).toInt = 100 := rfl
  by_cases hr : -100 ≤ y.toInt ∧ y.toInt ≤ 100
  · have e1 : f_X9_fewest S o2 y = .ok (fw y 256 1) := by
      unfold f_X9_fewest
      rw [eB_ok (rng_ok (by rw [a1, a2]; exact hr))]
      show Except.ok (f_X9_fewest_L10 S o2 y 256 1) = _
      rw [fw_eq]
    have e2 : f_X12_fewest S4 o1 y = (fm y 41 1, S4.sI o1 15 0) := by
      unfold f_X12_fewest
      rw [in_ok (by rw [i64_i, b1, b2]; exact hr), if_neg (by decide)]
      show (f_X12_fewest_L22 S4 o1 y 41 1, S4.sI o1 15 0) = _
      rw [fm_eq]
    rw [e2] at h2
    obtain ⟨rfl, rfl⟩ := Prod.mk.inj h2
    have h4 : r20 = 0 := h3.trans sI_eq
    rcases h with ⟨v, hv, hr3, hf⟩ | ⟨E, hE, -, -⟩
    · rw [e1] at hv
      cases hv
      refine ⟨h4.trans hr3.symm, fun _ => ?_⟩
      rw [hf, ← fw_fm hr]
      simp [vp_updL]
    · rw [e1] at hE; cases hE
  · have e1 : f_X9_fewest S o2 y = .error "java/lang/IllegalArgumentException" := by
      unfold f_X9_fewest
      exact eB_er (rng_er (by rw [a1, a2]; exact hr))
    have e2 : f_X12_fewest S4 o1 y = (0, S4.sI o1 15 1) := by
      unfold f_X12_fewest
      rw [in_no (by rw [i64_i, b1, b2]; exact hr), if_pos rfl]
      rfl
    rw [e2] at h2
    obtain ⟨rfl, rfl⟩ := Prod.mk.inj h2
    have h4 : r20 = 1 := h3.trans sI_eq
    rcases h with ⟨v, hv, -, -⟩ | ⟨E, hE, hr3, -⟩
    · rw [e1] at hv; cases hv
    · rw [e1] at hE
      cases hE
      have h5 : r3 = 1 := hr3.trans (if_pos rfl)
      exact ⟨h4.trans h5.symm, fun q => absurd (h5.symm.trans q) (by decide)⟩
