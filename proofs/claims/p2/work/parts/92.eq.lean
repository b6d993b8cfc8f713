/-- the same gears on both sides -/
def GRG (S : wPS) (i a b : Nat) : Prop := isA S a 2 ∧ isA S b 10 ∧ S.I a 0 = nI i
def RG (o2 : Nat) (S : wPS) (o : Nat) : Prop := isA S o2 9 ∧ (S.F o 0 = some (S.f o 0) ∧ isA S (S.f o 0) 14 ∧ S.n (S.f o 0) = 10) ∧ (S.I o2 1).toInt = (S.I (S.f o 0) 2).toInt ∧ (∀ i : Nat, (i : Int) < (S.I o2 1).toInt → GRG S i (S.q (S.f o2 0) i) (S.q (S.f (S.f o 0) 1) i)) ∧ (∀ i j : Nat, (i : Int) < (S.I o2 1).toInt → (j : Int) < (S.I o2 1).toInt → ¬ i = j → ¬ S.q (S.f o2 0) i = S.q (S.f o2 0) j ∧ ¬ S.q (S.f (S.f o 0) 1) i = S.q (S.f (S.f o 0) 1) j)
theorem GRG.fr {W : List (Nat × Nat)} {S U : wPS} {i a b : Nat} (h : stp W [] [] S U) (h1 : ∀ p ∈ ([(2, 0), (9, 1), (19, 101), (114, 10), (122, 10)] : List (Nat × Nat)), p ∉ W) (m : GRG S i a b) : GRG U i a b := by
  obtain ⟨ga, gb, g0⟩ := m
  have fa := (h.fR a ga.1 List.not_mem_nil).1
  have fb := (h.fR b gb.1 List.not_mem_nil).1
  rw [ga.2.1] at fa
  rw [gb.2.1] at fb
  exact ⟨h.x.A ga, h.x.A gb, by rw [(fa 0 (h1 _ (by decide))).1]; exact g0⟩
theorem RG.st {W : List (Nat × Nat)} {S U : wPS} {o2 o : Nat} (h : stp W [] [] S U) (hW : wtB S []) (hA : isA S o 12) (hl : (114, 10) ∉ W ∧ (122, 10) ∉ W) (m : RG o2 S o) : U.f o 0 = S.f o 0 ∧ (U.F o 0 = some (U.f o 0) ∧ isA U (U.f o 0) 14 ∧ U.n (U.f o 0) = 10) ∧ U.I (S.f o 0) 2 = S.I (S.f o 0) 2 ∧ U.f (S.f o 0) 1 = S.f (S.f o 0) 1 ∧ ∀ i : Nat, (i : Int) < (S.I o2 1).toInt → U.r (S.f (S.f o 0) 1) i = S.r (S.f (S.f o 0) 1) i := by
  obtain ⟨hA2, ⟨e0, l0, n0⟩, mc, -, -⟩ := m
  have e' := h.x.F hA (Or.inl (by decide)) e0
  have f' : U.f o 0 = S.f o 0 := f_of e'
  have q := h.2.2.2.2.2 (S.f o 0) l0.1 List.not_mem_nil
  have q2 : U.I (S.f o 0) 2 = S.I (S.f o 0) 2 ∧ U.F (S.f o 0) = S.F (S.f o 0) := by
    rcases (q.1 l0.2.1).2 with w | w
    · rw [n0] at w; exact absurd w hl.1
    · exact w
  refine ⟨f', ⟨by rw [f']; exact e', by rw [f']; exact h.x.A l0, by rw [f', h.x.n l0]; exact n0⟩, q2.1, by show (U.F (S.f o 0) 1).getD 0 = (S.F (S.f o 0) 1).getD 0; rw [q2.2], fun i hi => ?_⟩
  rcases (hW.at l0 List.not_mem_nil).to_14 l0.2.1 with ⟨-, z⟩ | ⟨-, a2, -, a4, -, -, -⟩
  · omega
  · rcases (h.2.2.2.2.2 _ a2.1 List.not_mem_nil).2 a2.2.1 10 (by rw [a4, n0]) with w | w
    · exact absurd w hl.2
    · rw [w]
theorem RG.keep {W : List (Nat × Nat)} {S U : wPS} {o2 o : Nat} (h : stp W [] [] S U) (hW : wtB S []) (hA : isA S o 12) (h1 : ∀ p ∈ ([(2, 0), (9, 1), (19, 101), (114, 10), (122, 10)] : List (Nat × Nat)), p ∉ W) (_ : True) (m : RG o2 S o) : RG o2 U o := by
  have m0 := m
  obtain ⟨hA2, ⟨e0, l0, n0⟩, mc, mg, md⟩ := m
  obtain ⟨f', m1, q2, fl, rl⟩ := RG.st h hW hA ⟨h1 _ (by decide), h1 _ (by decide)⟩ m0
  have c1 : U.I o2 1 = S.I o2 1 := ((h.fR o2 hA2.1 List.not_mem_nil).1 1 (by rw [hA2.2.1]; exact h1 _ (by decide))).1
  have k9 := (hW.at hA2 List.not_mem_nil).to_9 hA2.2.1
  have fa : U.f o2 0 = S.f o2 0 := f_of (h.x.F hA2 (Or.inl (by decide)) k9.F0.1)
  have ra : U.r (S.f o2 0) = S.r (S.f o2 0) := (h.fR _ k9.F0.2.1.1 List.not_mem_nil).2.2.1 (by rw [k9.F0.2.1.2.1]; exact h1 _ (by decide))
  have qa : ∀ i, U.q (U.f o2 0) i = S.q (S.f o2 0) i := fun i => by unfold wPS.q; rw [fa, ra]
  have qb : ∀ i : Nat, (i : Int) < (S.I o2 1).toInt → U.q (U.f (U.f o 0) 1) i = S.q (S.f (S.f o 0) 1) i := fun i hi => by unfold wPS.q; rw [f', fl, rl i hi]
  refine ⟨h.x.A hA2, m1, by rw [c1, f', q2]; exact mc, fun i hi => ?_, fun i j hi hj hn => ?_⟩
  · rw [c1] at hi
    rw [qa, qb i hi]
    exact (mg i hi).fr h h1
  · rw [c1] at hi hj
    rw [qa, qa, qb i hi, qb j hj]
    exact md i j hi hj hn
theorem RG.sI {S : wPS} {o2 o j : Nat} {t : Int32} (hA : isA S o 12) (m : RG o2 S o) : RG o2 (S.sI o j t) o := by
  have ne : ∀ {x k : Nat}, isA S x k → k ≠ 12 → (S.sI o j t).I x = S.I x := fun hx hk => sI_no (fun e => hk (by rw [← hx.2.1, e]; exact hA.2.1))
  obtain ⟨hA2, ⟨e0, l0, n0⟩, mc, mg, md⟩ := m
  refine ⟨hA2, ⟨e0, l0, n0⟩, ?_, fun i hi => ?_, fun i j hi hj hn => ?_⟩
  · show ((S.sI o j t).I o2 1).toInt = ((S.sI o j t).I (S.f o 0) 2).toInt
    rw [ne hA2 (by decide), ne l0 (by decide)]; exact mc
  · rw [ne hA2 (by decide)] at hi
    obtain ⟨ga, gb, g0⟩ := mg i hi
    show GRG (S.sI o j t) i (S.q (S.f o2 0) i) (S.q (S.f (S.f o 0) 1) i)
    exact ⟨ga, gb, by rw [ne ga (by decide)]; exact g0⟩
  · rw [ne hA2 (by decide)] at hi hj
    exact md i j hi hj hn
theorem nI_cl {x : Int32} (h : 0 ≤ x.toInt) : x = nI x.toNatClampNeg := by
  obtain ⟨j, hj, e⟩ := nI_of (x := x) (nneg_i h)
  have h1 := cl_int (i := x) h
  have h2 : x.toInt = (j : Int) := by rw [e]; exact nI_toInt hj
  have h3 : x.toNatClampNeg = j := by omega
  rw [h3]; exact e
theorem RG.add {WC WM : List (Nat × Nat)} {S S4 S16 : wPS} {o2 o : Nat} {x1 x2 x3 x4 : Int32} (m : RG o2 S o) (hA : isA S o 12) (hW : wtB S []) (hw : stp WC [] [] S S4) (hm : stp WM [] [] S4 S16) (hc : ∀ p ∈ ([(2, 0), (114, 10), (122, 10)] : List (Nat × Nat)), p ∉ WC) (hk : ∀ p ∈ ([(2, 0), (9, 1), (19, 101)] : List (Nat × Nat)), p ∉ WM)
    (c4 : (S4.I o2 1).toInt = (S.I o2 1).toInt + 1) (N : ∃ g : Nat, g ∉ S.L ∧ isA S4 g 2 ∧ S4.r (S.f o2 0) (S.I o2 1).toNatClampNeg = some g ∧ (∀ i : Nat, i ≠ (S.I o2 1).toNatClampNeg → S4.r (S.f o2 0) i = S.r (S.f o2 0) i) ∧ S4.I g 0 = S.I o2 1 ∧ S4.I g 1 = x1 ∧ S4.I g 2 = x2 ∧ S4.I g 3 = x3 ∧ S4.I g 4 = x4 ∧ S4.I g 7 = (0 : Int32) ∧ S4.I g 8 = (-1 : Int32) ∧ S4.I g 9 = (0 : Int32) ∧ S4.I g 10 = (0 : Int32) ∧ S4.I g 11 = (0 : Int32))
    (n1 : (S16.I (S4.f o 0) 2).toInt = (S4.I (S4.f o 0) 2).toInt + 1) (M : ∃ g a : Nat, g ∉ S4.L ∧ isA S16 g 10 ∧ S16.F (S4.f o 0) 1 = some a ∧ isA S16 a 22 ∧ S16.r a (S4.I (S4.f o 0) 2).toNatClampNeg = some g ∧ (∀ i : Nat, (i : Int) < (S4.I (S4.f o 0) 2).toInt → S16.r a i = S4.r (S4.f (S4.f o 0) 1) i) ∧ S16.I g 1 = x1 ∧ S16.I g 2 = x2 ∧ S16.I g 3 = x3 ∧ S16.I g 4 = x4 ∧ S16.I g 7 = (0 : Int32) ∧ S16.I g 8 = (-1 : Int32) ∧ S16.I g 10 = (0 : Int32) ∧ S16.I g 11 = (0 : Int32) ∧ S16.I g 18 = (0 : Int32)) : RG o2 S16 o := by
  have m0 := m
  obtain ⟨hA2, ⟨e0, l0, n0⟩, mc, mg, md⟩ := m
  obtain ⟨f4, m4, q4, fl4, rl4⟩ := RG.st hw hW hA ⟨hc _ (by decide), hc _ (by decide)⟩ m0
  obtain ⟨g, ng, gA, gr, go, cv0, cv1, cv2, cv3, cv4, cv7, cv8, cv9, cv10, cv11⟩ := N
  obtain ⟨b, a, nb, bA, aF, aA, br, bo, dv1, dv2, dv3, dv4, dv7, dv8, dv10, dv11, dv18⟩ := M
  rw [f4] at n1 aF br bo
  rw [q4] at n1 br bo
  rw [fl4] at bo
  have R9 := ((hW.at hA2 List.not_mem_nil).to_9 hA2.2.1).R1
  have k9 := (hW.at hA2 List.not_mem_nil).to_9 hA2.2.1
  have e16 := hm.x.F (hw.x.A hA) (Or.inl (by decide)) m4.1
  rw [f4] at e16
  have f16 : S16.f o 0 = (S.f o 0) := f_of e16
  have cI : S16.I o2 1 = S4.I o2 1 := ((hm.fR o2 (hw.x.A hA2).1 List.not_mem_nil).1 1 (by rw [(hw.x.A hA2).2.1]; exact hk _ (by decide))).1
  have fa4 : S4.f o2 0 = S.f o2 0 := f_of (hw.x.F hA2 (Or.inl (by decide)) k9.F0.1)
  have fa : S16.f o2 0 = S.f o2 0 := f_of (hm.x.F (hw.x.A hA2) (Or.inl (by decide)) (hw.x.F hA2 (Or.inl (by decide)) k9.F0.1))
  have aA4 := hw.x.A k9.F0.2.1
  have ra : S16.r (S.f o2 0) = S4.r (S.f o2 0) := (hm.fR _ aA4.1 List.not_mem_nil).2.2.1 (by rw [aA4.2.1]; exact hk _ (by decide))
  have fl16 : S16.f (S.f o 0) 1 = a := f_of aF
  have ck := cl_int (i := S.I o2 1) R9.1
  have ck2 := cl_int (i := S.I (S.f o 0) 2) (by omega)
  have qa0 : ∀ i, S16.q (S16.f o2 0) i = S4.q (S.f o2 0) i := fun i => by unfold wPS.q; rw [fa, ra]
  have qb0 : ∀ i, S16.q (S16.f (S16.f o 0) 1) i = S16.q a i := fun i => by rw [f16, fl16]
  have eaN : ∀ i, i = (S.I o2 1).toNatClampNeg → S4.q (S.f o2 0) i = g := fun i hik => by rw [hik]; exact q_of gr
  have ebN : ∀ i, i = (S.I o2 1).toNatClampNeg → S16.q a i = b := fun i hik => by rw [show i = (S.I (S.f o 0) 2).toNatClampNeg by omega]; exact q_of br
  have eaO : ∀ i, ¬ i = (S.I o2 1).toNatClampNeg → S4.q (S.f o2 0) i = S.q (S.f o2 0) i := fun i hik => by unfold wPS.q; rw [go i hik]
  have ebO : ∀ i : Nat, (i : Int) < (S.I o2 1).toInt → S16.q a i = S.q (S.f (S.f o 0) 1) i := fun i hi' => by unfold wPS.q; rw [bo i (by omega), rl4 i hi']
  refine ⟨(hw.x.tr hm.x).A hA2, ⟨by rw [f16]; exact e16, by rw [f16]; exact (hw.x.tr hm.x).A l0, by rw [f16, (hw.x.tr hm.x).n l0]; exact n0⟩, by rw [cI, f16, c4, n1, mc], fun i hi => ?_, fun i j hi hj hn => ?_⟩
  · rw [cI, c4] at hi
    rw [qa0, qb0]
    by_cases hik : i = (S.I o2 1).toNatClampNeg
    · rw [eaN i hik, ebN i hik]
      have fg := (hm.fR g gA.1 List.not_mem_nil).1
      rw [gA.2.1] at fg
      exact ⟨hm.x.A gA, bA, by rw [(fg 0 (hk _ (by decide))).1, cv0, hik]; exact nI_cl R9.1⟩
    · have hi' : (i : Int) < (S.I o2 1).toInt := by omega
      rw [eaO i hik, ebO i hi']
      obtain ⟨ga, gb, g0⟩ := mg i hi'
      have f1 := (hw.fR _ ga.1 List.not_mem_nil).1
      have f2 := (hw.fR _ gb.1 List.not_mem_nil).1
      have f3 := (hm.fR _ (hw.x.A ga).1 List.not_mem_nil).1
      have f5 := (hm.fR _ (hw.x.A gb).1 List.not_mem_nil).1
      rw [ga.2.1] at f1
      rw [gb.2.1] at f2
      rw [(hw.x.A ga).2.1] at f3
      rw [(hw.x.A gb).2.1] at f5
      exact ⟨hm.x.A (hw.x.A ga), hm.x.A (hw.x.A gb), by rw [(f3 0 (hk _ (by decide))).1, (f1 0 (hc _ (by decide))).1]; exact g0⟩
  · rw [cI, c4] at hi hj
    rw [qa0, qa0, qb0, qb0]
    have nA : ∀ i : Nat, (i : Int) < (S.I o2 1).toInt → ¬ S.q (S.f o2 0) i = g := fun i hi e => ng (by rw [← e]; exact (mg i hi).1.1)
    have nB : ∀ i : Nat, (i : Int) < (S.I o2 1).toInt → ¬ S.q (S.f (S.f o 0) 1) i = b := fun i hi e => nb (by rw [← e]; exact (hw.x.A (mg i hi).2.1).1)
    by_cases hik : i = (S.I o2 1).toNatClampNeg
    · have hj' : (j : Int) < (S.I o2 1).toInt := by omega
      rw [eaN i hik, ebN i hik, eaO j (by omega), ebO j hj']
      exact ⟨fun e => nA j hj' e.symm, fun e => nB j hj' e.symm⟩
    · have hi' : (i : Int) < (S.I o2 1).toInt := by omega
      by_cases hjk : j = (S.I o2 1).toNatClampNeg
      · rw [eaN j hjk, ebN j hjk, eaO i hik, ebO i hi']
        exact ⟨nA i hi', nB i hi'⟩
      · have hj' : (j : Int) < (S.I o2 1).toInt := by omega
        rw [eaO i hik, ebO i hi', eaO j hjk, ebO j hj']
        exact md i j hi' hj' hn
/-- what holds all through the law's body -/
def LC (p : Program) (l : Launch) (s : State) (m : MethodId) (c : Code) (b L : Nat) (xs : Nat → Int32) (D : va_G) (cy : Nat → ClassId) (c8 c9 : ClassId) (e0 mi : Nat) : Prop :=
  p.tables.exec = Jvm.exec ∧ c.code = cL_law ∧ c.maxLocals = 9 ∧ s.vm.findClass RL = some m.cls ∧ (∀ w ∈ wsL_law, w.before #[Value.ref b] s = true) ∧ va_X b L xs s s.heap ∧ b < s.heap.size ∧ NW s ∧ TH (fun q => s.heap.size ≤ q) s ∧ OU e0 mi (fun q => s.heap.size ≤ q) s s.heap ∧ va_K D vwCl (tyX cy c8 c9) s ∧ l.stackTraces = false ∧ NC s
/-- what holds at the head of each round: the shop, the reference, the two rows of answers -/
def LI (D : va_G) (cy : Nat → ClassId) (c8 c9 : ClassId) (e0 : Nat) (A : Nat → Prop) (o1 o2 qo qd : Nat) (fo : Nat → Int64) (fd : Nat → UInt64) (S : wPS) (H : Heap) : Prop :=
  va_P D vwCl (XO c8 c9 qo qd fo fd ++ PL cy S) H ∧ va_D A (XO c8 c9 qo qd fo fd ++ PL cy S) ∧ wtB S [] ∧ isA S o2 9 ∧ isA S o1 12 ∧ S.F o1 77 = some e0 ∧ MV S o1 ∧ IV S o1 ∧ RG o2 S o1
theorem lcmp_self (x : Int64) : lg_cmp x x = 0 := by
  unfold lg_cmp
  simp
theorem rng_ok {x a b : Int32} (h : a.toInt ≤ x.toInt ∧ x.toInt ≤ b.toInt) : f_X9_needRange x a b = .ok () := by
  unfold f_X9_needRange
  rw [if_neg (fun q => by have := lt_i q; omega), if_pos (Int32.le_iff_toInt_le.mpr h.2)]
theorem rng_er {x a b : Int32} (h : ¬ (a.toInt ≤ x.toInt ∧ x.toInt ≤ b.toInt)) : f_X9_needRange x a b = .error "java/lang/IllegalArgumentException" := by
  unfold f_X9_needRange
  split
  · rfl
  · rename_i h1
    rw [if_neg (fun q => h ⟨nlt_i h1, le_i q⟩)]
theorem in_ok {x lo hi : Int64} (h : lo.toInt ≤ x.toInt ∧ x.toInt ≤ hi.toInt) : f_X12_in x lo hi = 1 := by
  unfold f_X12_in
  rw [if_neg (fun q => by have := lc_lt q; omega), if_neg (fun q => by have := lc_gt q; omega)]
theorem in_no {x lo hi : Int64} (h : ¬ (lo.toInt ≤ x.toInt ∧ x.toInt ≤ hi.toInt)) : f_X12_in x lo hi = 0 := by
  unfold f_X12_in
  split
  · rfl
  · rename_i h1
    split
    · rfl
    · rename_i h2
      exact absurd ⟨lc_nlt h1, lc_ngt h2⟩ h
theorem eqH {α : Type} {call : Except String α} {cv : α → Int64} {wc : String → Int32} {r3 r20 : Int32} {ans : Int64} {fo f5 : Nat → Int64} (h : (∃ v, call = .ok v ∧ r3 = 0 ∧ f5 = vp_updL fo (0 : Int32).toNatClampNeg (cv v)) ∨ ∃ E, call = .error E ∧ r3 = wc E ∧ f5 = fo) (hc : (∃ v, call = .ok v ∧ r20 = 0 ∧ cv v = ans) ∨ ∃ E, call = .error E ∧ r20 = wc E ∧ ¬ wc E = 0) : r20 = r3 ∧ (r3 = 0 → f5 (0 : Int32).toNatClampNeg = ans) := by
  rcases hc with ⟨v, e1, e2, e3⟩ | ⟨E, e1, e2, e3⟩
  · rcases h with ⟨w, g1, g2, g3⟩ | ⟨E, g1, -, -⟩
    · rw [e1] at g1; cases g1
      exact ⟨e2.trans g2.symm, fun _ => by rw [g3, ← e3]; simp [vp_updL]⟩
    · rw [e1] at g1; cases g1
  · rcases h with ⟨w, g1, -, -⟩ | ⟨E2, g1, g2, -⟩
    · rw [e1] at g1; cases g1
    · rw [e1] at g1; cases g1
      exact ⟨e2.trans g2.symm, fun q => absurd (g2.symm.trans q) e3⟩
theorem nt_ok {x : Int32} (h : 6 ≤ x.toInt ∧ x.toInt ≤ 200) : f_X9_needTeeth x = .ok () := by
  have a1 : (6 : Int32).toInt = 6 := rfl
  have a2 : (200 : Int32).toInt = 200 := rfl
  unfold f_X9_needTeeth
  rw [eB_ok (rng_ok (by rw [a1, a2]; exact h))]
theorem nt_er {x : Int32} (h : ¬ (6 ≤ x.toInt ∧ x.toInt ≤ 200)) : f_X9_needTeeth x = .error "java/lang/IllegalArgumentException" := by
  have a1 : (6 : Int32).toInt = 6 := rfl
  have a2 : (200 : Int32).toInt = 200 := rfl
  unfold f_X9_needTeeth
  exact eB_er (rng_er (by rw [a1, a2]; exact h))
theorem li64 {x : Int32} {a b : Int} {la lb : Int64} (ha : la.toInt = a) (hb : lb.toInt = b) (h : a ≤ x.toInt ∧ x.toInt ≤ b) : f_X12_in x.toInt64 la lb = 1 := in_ok (by rw [i64_i, ha, hb]; exact h)
theorem li64n {x : Int32} {a b : Int} {la lb : Int64} (ha : la.toInt = a) (hb : lb.toInt = b) (h : ¬ (a ≤ x.toInt ∧ x.toInt ≤ b)) : f_X12_in x.toInt64 la lb = 0 := in_no (by rw [i64_i, ha, hb]; exact h)
/-! gear: refused alike on both sides, or one more on both -/
theorem ca_gear {S S4 S16 : wPS} {o1 o2 : Nat} {y1 y2 y3 y4 r12 : Int32} (hc : (S.I o2 1).toInt = (S4.I (S4.f o1 0) 2).toInt) (rr : 0 ≤ (S.I o2 1).toInt ∧ (S.I o2 1).toInt ≤ 20) (h2 : ((((f_X12_in y1.toInt64 (6 : Int64) (200 : Int64)).toInt = 0 ∨ (f_X12_in y2.toInt64 (500 : Int64) (10000 : Int64)).toInt = 0 ∨ (f_X12_in y3.toInt64 (-500 : Int64) (500 : Int64)).toInt = 0 ∨ (f_X12_in y4.toInt64 (1000 : Int64) (99999 : Int64)).toInt = 0) ∧ r12.toInt = 0 ∧ (S16.I o1 15).toInt = 1 ∧ (S16.I (S4.f o1 0) 2).toInt = (S4.I (S4.f o1 0) 2).toInt) ∨ ((¬ (f_X12_in y1.toInt64 (6 : Int64) (200 : Int64)).toInt = 0 ∧ ¬ (f_X12_in y2.toInt64 (500 : Int64) (10000 : Int64)).toInt = 0 ∧ ¬ (f_X12_in y3.toInt64 (-500 : Int64) (500 : Int64)).toInt = 0 ∧ ¬ (f_X12_in y4.toInt64 (1000 : Int64) (99999 : Int64)).toInt = 0) ∧ (S4.I (S4.f o1 0) 2).toInt = 20 ∧ r12.toInt = 0 ∧ (S16.I o1 15).toInt = 2 ∧ (S16.I (S4.f o1 0) 2).toInt = (S4.I (S4.f o1 0) 2).toInt) ∨ ((¬ (f_X12_in y1.toInt64 (6 : Int64) (200 : Int64)).toInt = 0 ∧ ¬ (f_X12_in y2.toInt64 (500 : Int64) (10000 : Int64)).toInt = 0 ∧ ¬ (f_X12_in y3.toInt64 (-500 : Int64) (500 : Int64)).toInt = 0 ∧ ¬ (f_X12_in y4.toInt64 (1000 : Int64) (99999 : Int64)).toInt = 0) ∧ ¬ (S4.I (S4.f o1 0) 2).toInt = 20 ∧ r12.toInt = (S4.I (S4.f o1 0) 2).toInt ∧ (S16.I o1 15).toInt = 0 ∧ (S16.I (S4.f o1 0) 2).toInt = (S4.I (S4.f o1 0) 2).toInt + 1))) : (∃ (E : String) (n : Int32), f_X9_gear S o2 y1 y2 y3 y4 = .error E ∧ wc_gear E = n ∧ ¬ n = 0 ∧ (S16.I o1 15).toInt = n.toInt ∧ (S16.I (S4.f o1 0) 2).toInt = (S4.I (S4.f o1 0) 2).toInt) ∨ (f_X9_gear S o2 y1 y2 y3 y4 = .ok (S.I o2 1) ∧ (S16.I o1 15).toInt = 0 ∧ r12.toInt = (S4.I (S4.f o1 0) 2).toInt ∧ (S16.I (S4.f o1 0) 2).toInt = (S4.I (S4.f o1 0) 2).toInt + 1) := by
  have l20 : (20 : Int32).toInt = 20 := rfl
  have bad : ∀ (E : String) (n : Int32), f_X9_gear S o2 y1 y2 y3 y4 = .error E → wc_gear E = n → ¬ n = 0 → (S16.I o1 15).toInt = n.toInt → (S16.I (S4.f o1 0) 2).toInt = (S4.I (S4.f o1 0) 2).toInt → (∃ (E : String) (n : Int32), f_X9_gear S o2 y1 y2 y3 y4 = .error E ∧ wc_gear E = n ∧ ¬ n = 0 ∧ (S16.I o1 15).toInt = n.toInt ∧ (S16.I (S4.f o1 0) 2).toInt = (S4.I (S4.f o1 0) 2).toInt) ∨ (f_X9_gear S o2 y1 y2 y3 y4 = .ok (S.I o2 1) ∧ (S16.I o1 15).toInt = 0 ∧ r12.toInt = (S4.I (S4.f o1 0) 2).toInt ∧ (S16.I (S4.f o1 0) 2).toInt = (S4.I (S4.f o1 0) 2).toInt + 1) := fun E n e1 e2 e3 e4 e5 => Or.inl ⟨E, n, e1, e2, e3, e4, e5⟩
  have am500 : (-500 : Int32).toInt = -500 := rfl
  have a6 : (6 : Int32).toInt = 6 := rfl
  have a200 : (200 : Int32).toInt = 200 := rfl
  have a500 : (500 : Int32).toInt = 500 := rfl
  have a1000 : (1000 : Int32).toInt = 1000 := rfl
  have a10000 : (10000 : Int32).toInt = 10000 := rfl
  have a99999 : (99999 : Int32).toInt = 99999 := rfl
  by_cases c0 : (6 : Int) ≤ y1.toInt ∧ y1.toInt ≤ 200
  · have z0 : (f_X12_in y1.toInt64 (6 : Int64) (200 : Int64)).toInt = 1 := by rw [li64 (a := 6) (b := 200) rfl rfl c0]; rfl
    by_cases c1 : (500 : Int) ≤ y2.toInt ∧ y2.toInt ≤ 10000
    · have z1 : (f_X12_in y2.toInt64 (500 : Int64) (10000 : Int64)).toInt = 1 := by rw [li64 (a := 500) (b := 10000) rfl rfl c1]; rfl
      by_cases c2 : (-500 : Int) ≤ y3.toInt ∧ y3.toInt ≤ 500
      · have z2 : (f_X12_in y3.toInt64 (-500 : Int64) (500 : Int64)).toInt = 1 := by rw [li64 (a := -500) (b := 500) rfl rfl c2]; rfl
        by_cases c3 : (1000 : Int) ≤ y4.toInt ∧ y4.toInt ≤ 99999
        · have z3 : (f_X12_in y4.toInt64 (1000 : Int64) (99999 : Int64)).toInt = 1 := by rw [li64 (a := 1000) (b := 99999) rfl rfl c3]; rfl
          by_cases c5 : (S.I o2 1).toInt < 20
          · have e1 : f_X9_gear S o2 y1 y2 y3 y4 = .ok (S.I o2 1) := by
              unfold f_X9_gear
              rw [eB_ok (nt_ok c0), eB_ok (rng_ok (by rw [a500, a10000]; exact c1)), eB_ok (rng_ok (by rw [am500, a500]; exact c2)), eB_ok (rng_ok (by rw [a1000, a99999]; exact c3)), if_pos (Int32.lt_iff_toInt_lt.mpr (by rw [l20]; exact c5))]
            exact Or.inr ⟨e1, by omega, by omega, by omega⟩
          · refine bad "java/lang/IllegalStateException" 2 ?_ ((if_neg (by decide)).trans (if_pos rfl)) (by decide) (show _ = (2 : Int) by omega) (by omega)
            unfold f_X9_gear
            rw [eB_ok (nt_ok c0), eB_ok (rng_ok (by rw [a500, a10000]; exact c1)), eB_ok (rng_ok (by rw [am500, a500]; exact c2)), eB_ok (rng_ok (by rw [a1000, a99999]; exact c3)), if_neg (fun q => c5 (by have := Int32.lt_iff_toInt_lt.mp q; rw [l20] at this; exact this))]
        · have z3 : (f_X12_in y4.toInt64 (1000 : Int64) (99999 : Int64)).toInt = 0 := by rw [li64n (a := 1000) (b := 99999) rfl rfl c3]; rfl
          refine bad "java/lang/IllegalArgumentException" 1 ?_ (if_pos rfl) (by decide) (show _ = (1 : Int) by omega) (by omega)
          unfold f_X9_gear
          rw [eB_ok (nt_ok c0), eB_ok (rng_ok (by rw [a500, a10000]; exact c1)), eB_ok (rng_ok (by rw [am500, a500]; exact c2))]
          exact eB_er (rng_er (by rw [a1000, a99999]; exact c3))
      · have z2 : (f_X12_in y3.toInt64 (-500 : Int64) (500 : Int64)).toInt = 0 := by rw [li64n (a := -500) (b := 500) rfl rfl c2]; rfl
        refine bad "java/lang/IllegalArgumentException" 1 ?_ (if_pos rfl) (by decide) (show _ = (1 : Int) by omega) (by omega)
        unfold f_X9_gear
        rw [eB_ok (nt_ok c0), eB_ok (rng_ok (by rw [a500, a10000]; exact c1))]
        exact eB_er (rng_er (by rw [am500, a500]; exact c2))
    · have z1 : (f_X12_in y2.toInt64 (500 : Int64) (10000 : Int64)).toInt = 0 := by rw [li64n (a := 500) (b := 10000) rfl rfl c1]; rfl
      refine bad "java/lang/IllegalArgumentException" 1 ?_ (if_pos rfl) (by decide) (show _ = (1 : Int) by omega) (by omega)
      unfold f_X9_gear
      rw [eB_ok (nt_ok c0)]
      exact eB_er (rng_er (by rw [a500, a10000]; exact c1))
  · have z0 : (f_X12_in y1.toInt64 (6 : Int64) (200 : Int64)).toInt = 0 := by rw [li64n (a := 6) (b := 200) rfl rfl c0]; rfl
    refine bad "java/lang/IllegalArgumentException" 1 ?_ (if_pos rfl) (by decide) (show _ = (1 : Int) by omega) (by omega)
    unfold f_X9_gear
    exact eB_er (nt_er c0)
theorem RG.gear {S S4 S16 : wPS} {o1 o2 : Nat} {y1 y2 y3 y4 r3 r12 : Int32} {fo f5 : Nat → Int64} (m : RG o2 S o1) (hA : isA S o1 12) (hW : wtB S []) (hw : stp [(9, 1), (19, 101)] [] [] S S4) (hm : stp [(12, 15), (14, 0), (14, 1), (14, 2), (22, 101), (110, 10), (114, 10), (122, 10)] [] [] S4 S16) (h : (∃ v, f_X9_gear S o2 y1 y2 y3 y4 = .ok v ∧ r3 = 0 ∧ f5 = vp_updL fo (0 : Int32).toNatClampNeg (v.toInt64) ∧ (S4.I o2 1).toInt = (S.I o2 1).toInt + 1 ∧ (∃ g : Nat, g ∉ S.L ∧ isA S4 g 2 ∧ S4.r (S.f o2 0) (S.I o2 1).toNatClampNeg = some g ∧ (∀ i : Nat, i ≠ (S.I o2 1).toNatClampNeg → S4.r (S.f o2 0) i = S.r (S.f o2 0) i) ∧ S4.I g 0 = S.I o2 1 ∧ S4.I g 1 = y1 ∧ S4.I g 2 = y2 ∧ S4.I g 3 = y3 ∧ S4.I g 4 = y4 ∧ S4.I g 7 = (0 : Int32) ∧ S4.I g 8 = (-1 : Int32) ∧ S4.I g 9 = (0 : Int32) ∧ S4.I g 10 = (0 : Int32) ∧ S4.I g 11 = (0 : Int32))) ∨ (∃ E, f_X9_gear S o2 y1 y2 y3 y4 = .error E ∧ r3 = wc_gear E ∧ f5 = fo ∧ S4 = S)) (h2 : ((((f_X12_in y1.toInt64 (6 : Int64) (200 : Int64)).toInt = 0 ∨ (f_X12_in y2.toInt64 (500 : Int64) (10000 : Int64)).toInt = 0 ∨ (f_X12_in y3.toInt64 (-500 : Int64) (500 : Int64)).toInt = 0 ∨ (f_X12_in y4.toInt64 (1000 : Int64) (99999 : Int64)).toInt = 0) ∧ r12.toInt = 0 ∧ (S16.I o1 15).toInt = 1 ∧ (S16.I (S4.f o1 0) 2).toInt = (S4.I (S4.f o1 0) 2).toInt) ∨ ((¬ (f_X12_in y1.toInt64 (6 : Int64) (200 : Int64)).toInt = 0 ∧ ¬ (f_X12_in y2.toInt64 (500 : Int64) (10000 : Int64)).toInt = 0 ∧ ¬ (f_X12_in y3.toInt64 (-500 : Int64) (500 : Int64)).toInt = 0 ∧ ¬ (f_X12_in y4.toInt64 (1000 : Int64) (99999 : Int64)).toInt = 0) ∧ (S4.I (S4.f o1 0) 2).toInt = 20 ∧ r12.toInt = 0 ∧ (S16.I o1 15).toInt = 2 ∧ (S16.I (S4.f o1 0) 2).toInt = (S4.I (S4.f o1 0) 2).toInt) ∨ ((¬ (f_X12_in y1.toInt64 (6 : Int64) (200 : Int64)).toInt = 0 ∧ ¬ (f_X12_in y2.toInt64 (500 : Int64) (10000 : Int64)).toInt = 0 ∧ ¬ (f_X12_in y3.toInt64 (-500 : Int64) (500 : Int64)).toInt = 0 ∧ ¬ (f_X12_in y4.toInt64 (1000 : Int64) (99999 : Int64)).toInt = 0) ∧ ¬ (S4.I (S4.f o1 0) 2).toInt = 20 ∧ r12.toInt = (S4.I (S4.f o1 0) 2).toInt ∧ (S16.I o1 15).toInt = 0 ∧ (S16.I (S4.f o1 0) 2).toInt = (S4.I (S4.f o1 0) 2).toInt + 1)) ∧ ((S16.I (S4.f o1 0) 2).toInt = (S4.I (S4.f o1 0) 2).toInt → ∃ t : Int32, S16 = S4.sI o1 15 t) ∧ ((S16.I (S4.f o1 0) 2).toInt = (S4.I (S4.f o1 0) 2).toInt + 1 → ∃ g a : Nat, g ∉ S4.L ∧ isA S16 g 10 ∧ S16.F (S4.f o1 0) 1 = some a ∧ isA S16 a 22 ∧ S16.r a (S4.I (S4.f o1 0) 2).toNatClampNeg = some g ∧ (∀ i : Nat, (i : Int) < (S4.I (S4.f o1 0) 2).toInt → S16.r a i = S4.r (S4.f (S4.f o1 0) 1) i) ∧ S16.I g 1 = y1 ∧ S16.I g 2 = y2 ∧ S16.I g 3 = y3 ∧ S16.I g 4 = y4 ∧ S16.I g 7 = (0 : Int32) ∧ S16.I g 8 = (-1 : Int32) ∧ S16.I g 10 = (0 : Int32) ∧ S16.I g 11 = (0 : Int32) ∧ S16.I g 18 = (0 : Int32))) : RG o2 S16 o1 := by
  obtain ⟨f4, m4, q4, -, -⟩ := RG.st hw hW hA (by decide) m
  have hc : (S.I o2 1).toInt = (S4.I (S4.f o1 0) 2).toInt := by rw [f4, q4]; exact m.2.2.1
  have rr := ((hW.at m.1 List.not_mem_nil).to_9 m.1.2.1).R1
  obtain ⟨hF, h3, h4⟩ := h2
  rcases ca_gear hc rr hF with ⟨E, n, e1, e2, e3, e4, e5⟩ | ⟨e1, e2, e3, e4⟩
  · rcases h with ⟨v, g, -⟩ | ⟨E2, g, -, -, g4⟩
    · rw [e1] at g; cases g
    · obtain ⟨t, ht⟩ := h3 e5
      rw [ht, g4]; exact RG.sI hA m
  · rcases h with ⟨v, g, -, -, c4, N⟩ | ⟨E2, g, -⟩
    · exact RG.add m hA hW hw hm (by decide) (by decide) c4 N e4 (h4 e4)
    · rw [e1] at g; cases g
theorem eq_gear {S S4 S16 : wPS} {o1 o2 : Nat} {y1 y2 y3 y4 r3 r12 r20 : Int32} {fo f5 : Nat → Int64} (m : RG o2 S o1) (hA : isA S o1 12) (hW : wtB S []) (hw : stp [(9, 1), (19, 101)] [] [] S S4) (hm : stp [(12, 15), (14, 0), (14, 1), (14, 2), (22, 101), (110, 10), (114, 10), (122, 10)] [] [] S4 S16) (h : (∃ v, f_X9_gear S o2 y1 y2 y3 y4 = .ok v ∧ r3 = 0 ∧ f5 = vp_updL fo (0 : Int32).toNatClampNeg (v.toInt64) ∧ (S4.I o2 1).toInt = (S.I o2 1).toInt + 1 ∧ (∃ g : Nat, g ∉ S.L ∧ isA S4 g 2 ∧ S4.r (S.f o2 0) (S.I o2 1).toNatClampNeg = some g ∧ (∀ i : Nat, i ≠ (S.I o2 1).toNatClampNeg → S4.r (S.f o2 0) i = S.r (S.f o2 0) i) ∧ S4.I g 0 = S.I o2 1 ∧ S4.I g 1 = y1 ∧ S4.I g 2 = y2 ∧ S4.I g 3 = y3 ∧ S4.I g 4 = y4 ∧ S4.I g 7 = (0 : Int32) ∧ S4.I g 8 = (-1 : Int32) ∧ S4.I g 9 = (0 : Int32) ∧ S4.I g 10 = (0 : Int32) ∧ S4.I g 11 = (0 : Int32))) ∨ (∃ E, f_X9_gear S o2 y1 y2 y3 y4 = .error E ∧ r3 = wc_gear E ∧ f5 = fo ∧ S4 = S)) (h2 : ((((f_X12_in y1.toInt64 (6 : Int64) (200 : Int64)).toInt = 0 ∨ (f_X12_in y2.toInt64 (500 : Int64) (10000 : Int64)).toInt = 0 ∨ (f_X12_in y3.toInt64 (-500 : Int64) (500 : Int64)).toInt = 0 ∨ (f_X12_in y4.toInt64 (1000 : Int64) (99999 : Int64)).toInt = 0) ∧ r12.toInt = 0 ∧ (S16.I o1 15).toInt = 1 ∧ (S16.I (S4.f o1 0) 2).toInt = (S4.I (S4.f o1 0) 2).toInt) ∨ ((¬ (f_X12_in y1.toInt64 (6 : Int64) (200 : Int64)).toInt = 0 ∧ ¬ (f_X12_in y2.toInt64 (500 : Int64) (10000 : Int64)).toInt = 0 ∧ ¬ (f_X12_in y3.toInt64 (-500 : Int64) (500 : Int64)).toInt = 0 ∧ ¬ (f_X12_in y4.toInt64 (1000 : Int64) (99999 : Int64)).toInt = 0) ∧ (S4.I (S4.f o1 0) 2).toInt = 20 ∧ r12.toInt = 0 ∧ (S16.I o1 15).toInt = 2 ∧ (S16.I (S4.f o1 0) 2).toInt = (S4.I (S4.f o1 0) 2).toInt) ∨ ((¬ (f_X12_in y1.toInt64 (6 : Int64) (200 : Int64)).toInt = 0 ∧ ¬ (f_X12_in y2.toInt64 (500 : Int64) (10000 : Int64)).toInt = 0 ∧ ¬ (f_X12_in y3.toInt64 (-500 : Int64) (500 : Int64)).toInt = 0 ∧ ¬ (f_X12_in y4.toInt64 (1000 : Int64) (99999 : Int64)).toInt = 0) ∧ ¬ (S4.I (S4.f o1 0) 2).toInt = 20 ∧ r12.toInt = (S4.I (S4.f o1 0) 2).toInt ∧ (S16.I o1 15).toInt = 0 ∧ (S16.I (S4.f o1 0) 2).toInt = (S4.I (S4.f o1 0) 2).toInt + 1)) ∧ ((S16.I (S4.f o1 0) 2).toInt = (S4.I (S4.f o1 0) 2).toInt → ∃ t : Int32, S16 = S4.sI o1 15 t) ∧ ((S16.I (S4.f o1 0) 2).toInt = (S4.I (S4.f o1 0) 2).toInt + 1 → ∃ g a : Nat, g ∉ S4.L ∧ isA S16 g 10 ∧ S16.F (S4.f o1 0) 1 = some a ∧ isA S16 a 22 ∧ S16.r a (S4.I (S4.f o1 0) 2).toNatClampNeg = some g ∧ (∀ i : Nat, (i : Int) < (S4.I (S4.f o1 0) 2).toInt → S16.r a i = S4.r (S4.f (S4.f o1 0) 1) i) ∧ S16.I g 1 = y1 ∧ S16.I g 2 = y2 ∧ S16.I g 3 = y3 ∧ S16.I g 4 = y4 ∧ S16.I g 7 = (0 : Int32) ∧ S16.I g 8 = (-1 : Int32) ∧ S16.I g 10 = (0 : Int32) ∧ S16.I g 11 = (0 : Int32) ∧ S16.I g 18 = (0 : Int32))) (h9 : r20 = f_X12_thrown S16 o1) : r20 = r3 ∧ (r3 = 0 → f5 (0 : Int32).toNatClampNeg = r12.toInt64) := by
  obtain ⟨f4, m4, q4, -, -⟩ := RG.st hw hW hA (by decide) m
  have hc : (S.I o2 1).toInt = (S4.I (S4.f o1 0) 2).toInt := by rw [f4, q4]; exact m.2.2.1
  have rr := ((hW.at m.1 List.not_mem_nil).to_9 m.1.2.1).R1
  obtain ⟨hF, h3, h4⟩ := h2
  have t20 : r20 = S16.I o1 15 := h9
  have h' : (∃ v, f_X9_gear S o2 y1 y2 y3 y4 = .ok v ∧ r3 = 0 ∧ f5 = vp_updL fo (0 : Int32).toNatClampNeg (v.toInt64)) ∨ (∃ E, f_X9_gear S o2 y1 y2 y3 y4 = .error E ∧ r3 = wc_gear E ∧ f5 = fo) := h.imp (fun ⟨v, a, b, c, _⟩ => ⟨v, a, b, c⟩) (fun ⟨E, a, b, c, _⟩ => ⟨E, a, b, c⟩)
  rcases ca_gear hc rr hF with ⟨E, n, e1, e2, e3, e4, e5⟩ | ⟨e1, e2, e3, e4⟩
  · exact eqH (cv := fun v => v.toInt64) h' (Or.inr ⟨E, e1, by rw [t20, e2]; exact Int32.toInt_inj.mp e4, by rw [e2]; exact e3⟩)
  · exact eqH (cv := fun v => v.toInt64) h' (Or.inl ⟨_, e1, by rw [t20]; exact Int32.toInt_inj.mp e2, by rw [Int32.toInt_inj.mp (hc.trans e3.symm)]⟩)
