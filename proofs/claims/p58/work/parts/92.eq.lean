/-- as many machines on both sides -/
def R55 (o2 : Nat) (S : wPS) (o : Nat) : Prop := isA S o2 9 ∧ S.I o2 5 = S.I o 19
theorem R55.keep {W : List (Nat × Nat)} {S U : wPS} {o2 o : Nat} (h : stp W [] [] S U) (_ : wtB S []) (hA : isA S o 12) (h1 : ∀ p ∈ ([(9, 5), (12, 19)] : List (Nat × Nat)), p ∉ W) (_ : True) (m : R55 o2 S o) : R55 o2 U o := by
  obtain ⟨hA2, m0⟩ := m
  have f2 := h.fR o2 hA2.1 List.not_mem_nil
  have f1 := h.fR o hA.1 List.not_mem_nil
  rw [hA2.2.1] at f2
  rw [hA.2.1] at f1
  have a5 := (f2.1 5 (h1 _ (by decide))).1
  have b19 := (f1.1 19 (h1 _ (by decide))).1
  exact ⟨h.x.A hA2, by rw [a5, b19]; exact m0⟩
/-- the same machines on both sides -/
def R58 (o2 : Nat) (S : wPS) (o : Nat) : Prop := isA S o2 9 ∧ ((S.F o 5 = some (S.f o 5) ∧ isA S (S.f o 5) 38) ∧ (S.F o 6 = some (S.f o 6) ∧ isA S (S.f o 6) 34) ∧ (S.F o 7 = some (S.f o 7) ∧ isA S (S.f o 7) 35) ∧ S.F o 8 = some (S.f o 8) ∧ isA S (S.f o 8) 36) ∧ (∀ i : Nat, (i : Int) < (S.I o2 5).toInt → isA S (S.q (S.f o2 4) i) 7 ∧ S.I (S.q (S.f o2 4) i) 0 = S.i (S.f o 5) i ∧ S.I (S.q (S.f o2 4) i) 1 = S.i (S.f o 6) i ∧ S.I (S.q (S.f o2 4) i) 2 = S.i (S.f o 7) i ∧ (1 ≤ (S.I (S.q (S.f o2 4) i) 1).toInt ∧ (S.I (S.q (S.f o2 4) i) 1).toInt ≤ 99) ∧ (0 ≤ (S.I (S.q (S.f o2 4) i) 2).toInt ∧ (S.I (S.q (S.f o2 4) i) 2).toInt ≤ 9999) ∧ 0 ≤ (S.I (S.q (S.f o2 4) i) 3).toInt ∧ (S.I (S.q (S.f o2 4) i) 3).toInt ≤ 30000) ∧ (∀ i : Nat, (S.I o2 5).toInt ≤ (i : Int) → S.i (S.f o 7) i = 0) ∧ (∀ i j : Nat, (i : Int) < (S.I o2 5).toInt → (j : Int) < (S.I o2 5).toInt → ¬ i = j → ¬ (S.q (S.f o2 4) i) = (S.q (S.f o2 4) j))
theorem R58.keep {W : List (Nat × Nat)} {S U : wPS} {o2 o : Nat} (h : stp W [] [] S U) (hW : wtB S []) (hA : isA S o 12) (h1 : ∀ p ∈ ([(7, 0), (7, 1), (7, 2), (7, 3), (9, 5), (21, 101), (34, 100), (35, 100), (38, 100)] : List (Nat × Nat)), p ∉ W) (_ : True) (m : R58 o2 S o) : R58 o2 U o := by
  obtain ⟨hA2, ⟨⟨e5, a5⟩, ⟨e6, a6⟩, ⟨e7, a7⟩, e8, a8⟩, mg, mz, md⟩ := m
  have x5 := h.x.F hA (Or.inl (by decide)) e5
  have x6 := h.x.F hA (Or.inl (by decide)) e6
  have x7 := h.x.F hA (Or.inl (by decide)) e7
  have x8 := h.x.F hA (Or.inl (by decide)) e8
  have f5 : U.f o 5 = S.f o 5 := f_of x5
  have f6 : U.f o 6 = S.f o 6 := f_of x6
  have f7 : U.f o 7 = S.f o 7 := f_of x7
  have f8 : U.f o 8 = S.f o 8 := f_of x8
  have i5 : U.i (S.f o 5) = S.i (S.f o 5) := (h.fR _ a5.1 List.not_mem_nil).2.1 (by rw [a5.2.1]; exact h1 _ (by decide))
  have i6 : U.i (S.f o 6) = S.i (S.f o 6) := (h.fR _ a6.1 List.not_mem_nil).2.1 (by rw [a6.2.1]; exact h1 _ (by decide))
  have i7 : U.i (S.f o 7) = S.i (S.f o 7) := (h.fR _ a7.1 List.not_mem_nil).2.1 (by rw [a7.2.1]; exact h1 _ (by decide))
  have c1 : U.I o2 5 = S.I o2 5 := ((h.fR o2 hA2.1 List.not_mem_nil).1 5 (by rw [hA2.2.1]; exact h1 _ (by decide))).1
  have k9 := (hW.at hA2 List.not_mem_nil).to_9 hA2.2.1
  have fa : U.f o2 4 = S.f o2 4 := f_of (h.x.F hA2 (Or.inl (by decide)) k9.F4.1)
  have ra : U.r (S.f o2 4) = S.r (S.f o2 4) := (h.fR _ k9.F4.2.1.1 List.not_mem_nil).2.2.1 (by rw [k9.F4.2.1.2.1]; exact h1 _ (by decide))
  have qa : ∀ i, U.q (U.f o2 4) i = S.q (S.f o2 4) i := fun i => by unfold wPS.q; rw [fa, ra]
  refine ⟨h.x.A hA2, ⟨⟨by rw [f5]; exact x5, by rw [f5]; exact h.x.A a5⟩, ⟨by rw [f6]; exact x6, by rw [f6]; exact h.x.A a6⟩, ⟨by rw [f7]; exact x7, by rw [f7]; exact h.x.A a7⟩, by rw [f8]; exact x8, by rw [f8]; exact h.x.A a8⟩, fun i hi => ?_, fun i hi => ?_, fun i j hi hj hn => ?_⟩
  · rw [c1] at hi
    obtain ⟨ga, p0, p1, p2, q⟩ := mg i hi
    have fr := (h.fR _ ga.1 List.not_mem_nil).1
    rw [ga.2.1] at fr
    rw [qa, f5, f6, f7, i5, i6, i7, (fr 0 (h1 _ (by decide))).1, (fr 1 (h1 _ (by decide))).1, (fr 2 (h1 _ (by decide))).1, (fr 3 (h1 _ (by decide))).1]
    exact ⟨h.x.A ga, p0, p1, p2, q⟩
  · rw [c1] at hi
    rw [f7, i7]; exact mz i hi
  · rw [c1] at hi hj
    rw [qa, qa]; exact md i j hi hj hn
theorem R58.sI {S : wPS} {o2 o j : Nat} {t : Int32} (hA : isA S o 12) (m : R58 o2 S o) : R58 o2 (S.sI o j t) o := by
  have ne : ∀ {x k : Nat}, isA S x k → k ≠ 12 → (S.sI o j t).I x = S.I x := fun hx hk => sI_no (fun e => hk (by rw [← hx.2.1, e]; exact hA.2.1))
  obtain ⟨hA2, ml, mg, mz, md⟩ := m
  refine ⟨hA2, ml, fun i hi => ?_, fun i hi => ?_, fun i k hi hk hn => ?_⟩
  · rw [ne hA2 (by decide)] at hi
    obtain ⟨ga, p⟩ := mg i hi
    show isA S (S.q (S.f o2 4) i) 7 ∧ (S.sI o j t).I (S.q (S.f o2 4) i) 0 = S.i (S.f o 5) i ∧ (S.sI o j t).I (S.q (S.f o2 4) i) 1 = S.i (S.f o 6) i ∧ (S.sI o j t).I (S.q (S.f o2 4) i) 2 = S.i (S.f o 7) i ∧ (1 ≤ ((S.sI o j t).I (S.q (S.f o2 4) i) 1).toInt ∧ ((S.sI o j t).I (S.q (S.f o2 4) i) 1).toInt ≤ 99) ∧ (0 ≤ ((S.sI o j t).I (S.q (S.f o2 4) i) 2).toInt ∧ ((S.sI o j t).I (S.q (S.f o2 4) i) 2).toInt ≤ 9999) ∧ 0 ≤ ((S.sI o j t).I (S.q (S.f o2 4) i) 3).toInt ∧ ((S.sI o j t).I (S.q (S.f o2 4) i) 3).toInt ≤ 30000
    rw [ne ga (by decide)]
    exact ⟨ga, p⟩
  · rw [ne hA2 (by decide)] at hi
    exact mz i hi
  · rw [ne hA2 (by decide)] at hi hk
    exact md i k hi hk hn
theorem R58.set {S : wPS} {o2 o i : Nat} {v : Int32} (hv : 0 ≤ v.toInt ∧ v.toInt ≤ 9999) (hi : (i : Int) < (S.I o2 5).toInt) (m : R58 o2 S o) : R58 o2 ((S.sI (S.q (S.f o2 4) i) 2 v).si (S.f o 7) (upd (S.i (S.f o 7)) i v)) o := by
  obtain ⟨hA2, ⟨⟨e5, a5⟩, ⟨e6, a6⟩, ⟨e7, a7⟩, e8, a8⟩, mg, mz, md⟩ := m
  obtain ⟨a, ea⟩ : ∃ z, (S.q (S.f o2 4) i) = z := ⟨_, rfl⟩
  have ga := (mg i hi).1
  rw [ea] at ga
  rw [ea]
  have kne : ∀ {x y k l : Nat}, isA S x k → isA S y l → k ≠ l → ¬ x = y := fun hx hy hk q => hk (by rw [← hx.2.1, q]; exact hy.2.1)
  have cI : ((S.sI a 2 v).si (S.f o 7) (upd (S.i (S.f o 7)) i v)).I o2 = S.I o2 := sI_no (kne hA2 ga (by decide))
  have i5 : ((S.sI a 2 v).si (S.f o 7) (upd (S.i (S.f o 7)) i v)).i (S.f o 5) = S.i (S.f o 5) := by
    show va_up S.i (S.f o 7) _ (S.f o 5) = _
    rw [up_nq (kne a5 a7 (by decide))]
  have i6 : ((S.sI a 2 v).si (S.f o 7) (upd (S.i (S.f o 7)) i v)).i (S.f o 6) = S.i (S.f o 6) := by
    show va_up S.i (S.f o 7) _ (S.f o 6) = _
    rw [up_nq (kne a6 a7 (by decide))]
  have i7 : ((S.sI a 2 v).si (S.f o 7) (upd (S.i (S.f o 7)) i v)).i (S.f o 7) = upd (S.i (S.f o 7)) i v := by
    show va_up S.i (S.f o 7) _ (S.f o 7) = _
    rw [up_qq]
  obtain ⟨T, hT⟩ : ∃ z, (S.sI a 2 v).si (S.f o 7) (upd (S.i (S.f o 7)) i v) = z := ⟨_, rfl⟩
  have TI : ∀ x j, T.I x j = (S.sI a 2 v).I x j := fun x j => by rw [← hT]; rfl
  have Tf : ∀ x j, T.f x j = S.f x j := fun x j => by rw [← hT]; rfl
  have Tq : ∀ x j, T.q x j = S.q x j := fun x j => by rw [← hT]; rfl
  have TF : T.F = S.F := by rw [← hT]; rfl
  have TA : ∀ {x k : Nat}, isA S x k → isA T x k := fun h => by rw [← hT]; exact h
  rw [hT] at cI i5 i6 i7 ⊢
  refine ⟨TA hA2, ⟨⟨by rw [TF, Tf]; exact e5, by rw [Tf]; exact TA a5⟩, ⟨by rw [TF, Tf]; exact e6, by rw [Tf]; exact TA a6⟩, ⟨by rw [TF, Tf]; exact e7, by rw [Tf]; exact TA a7⟩, by rw [TF, Tf]; exact e8, by rw [Tf]; exact TA a8⟩, fun j hj => ?_, fun j hj => ?_, fun j k hj hk hn => ?_⟩
  · rw [cI] at hj
    simp only [Tf, Tq]
    rw [i5, i6, i7]
    obtain ⟨gj, p0, p1, p2, r1, r2, r3⟩ := mg j hj
    unfold upd
    by_cases e : j = i
    · subst e
      rw [ea] at gj p0 p1 p2 r1 r2 r3
      rw [ea, if_pos rfl, TI, TI, TI, TI, sI_eq, sI_ne (by decide), sI_ne (by decide), sI_ne (by decide)]
      exact ⟨TA gj, p0, p1, rfl, r1, hv, r3⟩
    · have na : ¬ (S.q (S.f o2 4) j) = a := fun q => md j i hj hi e (q.trans ea.symm)
      rw [if_neg e, TI, TI, TI, TI, sI_no na]
      exact ⟨TA gj, p0, p1, p2, r1, r2, r3⟩
  · rw [cI] at hj
    simp only [Tf]
    rw [i7]
    unfold upd
    rw [if_neg (fun e => by rw [e] at hj; omega)]
    exact mz j hj
  · rw [cI] at hj hk
    simp only [Tf, Tq]
    exact md j k hj hk hn
/-- the same gears on both sides -/
def GRG (S : wPS) (i a b : Nat) : Prop := isA S a 2 ∧ isA S b 10 ∧ S.I a 0 = nI i
def RG (o2 : Nat) (S : wPS) (o : Nat) : Prop := isA S o2 9 ∧ (S.F o 0 = some (S.f o 0) ∧ isA S (S.f o 0) 14 ∧ S.n (S.f o 0) = 10) ∧ (S.I o2 1).toInt = (S.I (S.f o 0) 2).toInt ∧ (∀ i : Nat, (i : Int) < (S.I o2 1).toInt → GRG S i (S.q (S.f o2 0) i) (S.q (S.f (S.f o 0) 1) i)) ∧ (∀ i j : Nat, (i : Int) < (S.I o2 1).toInt → (j : Int) < (S.I o2 1).toInt → ¬ i = j → ¬ S.q (S.f o2 0) i = S.q (S.f o2 0) j ∧ ¬ S.q (S.f (S.f o 0) 1) i = S.q (S.f (S.f o 0) 1) j)
theorem GRG.fr {W : List (Nat × Nat)} {S U : wPS} {i a b : Nat} (h : stp W [] [] S U) (h1 : ∀ p ∈ ([(2, 0), (9, 1), (19, 101), (114, 10), (122, 10)] : List (Nat × Nat)), p ∉ W) (m : GRG S i a b) : GRG U i a b := by
  obtain ⟨ga, gb, g0⟩ := m
  have fa := (h.fR a ga.1 List.not_mem_nil).1
  have fb := (h.fR b gb.1 List.not_mem_nil).1
  rw [ga.2.1] at fa
  rw [gb.2.1] at fb
  exact ⟨h.x.A ga, h.x.A gb, by rw [(fa 0 (h1 _ (by decide))).1]; exact g0⟩
theorem RG.st {W : List (Nat × Nat)} {S U : wPS} {o2 o : Nat} (h : stp W [] [] S U) (hW : wtB S []) (hA : isA S o 12) (hl : (114, 10) ∉ W ∧ (122, 10) ∉ W) (m : RG o2 S o) : U.f o 0 = S.f o 0 ∧ (U.F o 0 = some (U.f o 0) ∧ isA U (U.f o 0) 14 ∧ U.n (U.f o 0) = 10) ∧ U.I (S.f o 0) 2 = S.I (S.f o 0) 2 ∧ U.f (S.f o 0) 1 = S.f (S.f o 0) 1 ∧ ∀ i : Nat, (i : Int) < (S.I o2 1).toInt → U.r (S.f (S.f o 0) 1) i = S.r (S.f (S.f o 0) 1) i := by
  obtain ⟨hA2, ⟨e0, l0, n0⟩, mc, -, -⟩ := m
  have e' := h.x.F hA (Or.inl (by decide)) e0
  have f' : U.f o 0 = S.f o 0 := f_of e'
  have q := h.2.2.2.2.2 (S.f o 0) l0.1 List.not_mem_nil
  have q2 : U.I (S.f o 0) 2 = S.I (S.f o 0) 2 ∧ U.F (S.f o 0) = S.F (S.f o 0) := by
    rcases (q.1 l0.2.1).2 with w | w
    · rw [n0] at w; exact absurd w hl.1
    · exact w
  refine ⟨f', ⟨by rw [f']; exact e', by rw [f']; exact h.x.A l0, by rw [f', h.x.n l0]; exact n0⟩, q2.1, by show (U.F (S.f o 0) 1).getD 0 = (S.F (S.f o 0) 1).getD 0; rw [q2.2], fun i hi => ?_⟩
  rcases (hW.at l0 List.not_mem_nil).to_14 l0.2.1 with ⟨-, z⟩ | ⟨-, a2, -, a4, -, -, -⟩
  · omega
  · rcases (h.2.2.2.2.2 _ a2.1 List.not_mem_nil).2 a2.2.1 10 (by rw [a4, n0]) with w | w
    · exact absurd w hl.2
    · rw [w]
theorem RG.keep {W : List (Nat × Nat)} {S U : wPS} {o2 o : Nat} (h : stp W [] [] S U) (hW : wtB S []) (hA : isA S o 12) (h1 : ∀ p ∈ ([(2, 0), (9, 1), (19, 101), (114, 10), (122, 10)] : List (Nat × Nat)), p ∉ W) (_ : True) (m : RG o2 S o) : RG o2 U o := by
  have m0 := m
  obtain ⟨hA2, ⟨e0, l0, n0⟩, mc, mg, md⟩ := m
  obtain ⟨f', m1, q2, fl, rl⟩ := RG.st h hW hA ⟨h1 _ (by decide), h1 _ (by decide)⟩ m0
  have c1 : U.I o2 1 = S.I o2 1 := ((h.fR o2 hA2.1 List.not_mem_nil).1 1 (by rw [hA2.2.1]; exact h1 _ (by decide))).1
  have k9 := (hW.at hA2 List.not_mem_nil).to_9 hA2.2.1
  have fa : U.f o2 0 = S.f o2 0 := f_of (h.x.F hA2 (Or.inl (by decide)) k9.F0.1)
  have ra : U.r (S.f o2 0) = S.r (S.f o2 0) := (h.fR _ k9.F0.2.1.1 List.not_mem_nil).2.2.1 (by rw [k9.F0.2.1.2.1]; exact h1 _ (by decide))
  have qa : ∀ i, U.q (U.f o2 0) i = S.q (S.f o2 0) i := fun i => by unfold wPS.q; rw [fa, ra]
  have qb : ∀ i : Nat, (i : Int) < (S.I o2 1).toInt → U.q (U.f (U.f o 0) 1) i = S.q (S.f (S.f o 0) 1) i := fun i hi => by unfold wPS.q; rw [f', fl, rl i hi]
  refine ⟨h.x.A hA2, m1, by rw [c1, f', q2]; exact mc, fun i hi => ?_, fun i j hi hj hn => ?_⟩
  · rw [c1] at hi
    rw [qa, qb i hi]
    exact (mg i hi).fr h h1
  · rw [c1] at hi hj
    rw [qa, qa, qb i hi, qb j hj]
    exact md i j hi hj hn
theorem RG.sI {S : wPS} {o2 o j : Nat} {t : Int32} (hA : isA S o 12) (m : RG o2 S o) : RG o2 (S.sI o j t) o := by
  have ne : ∀ {x k : Nat}, isA S x k → k ≠ 12 → (S.sI o j t).I x = S.I x := fun hx hk => sI_no (fun e => hk (by rw [← hx.2.1, e]; exact hA.2.1))
  obtain ⟨hA2, ⟨e0, l0, n0⟩, mc, mg, md⟩ := m
  refine ⟨hA2, ⟨e0, l0, n0⟩, ?_, fun i hi => ?_, fun i j hi hj hn => ?_⟩
  · show ((S.sI o j t).I o2 1).toInt = ((S.sI o j t).I (S.f o 0) 2).toInt
    rw [ne hA2 (by decide), ne l0 (by decide)]; exact mc
  · rw [ne hA2 (by decide)] at hi
    obtain ⟨ga, gb, g0⟩ := mg i hi
    show GRG (S.sI o j t) i (S.q (S.f o2 0) i) (S.q (S.f (S.f o 0) 1) i)
    exact ⟨ga, gb, by rw [ne ga (by decide)]; exact g0⟩
  · rw [ne hA2 (by decide)] at hi hj
    exact md i j hi hj hn
theorem nI_cl {x : Int32} (h : 0 ≤ x.toInt) : x = nI x.toNatClampNeg := by
  obtain ⟨j, hj, e⟩ := nI_of (x := x) (nneg_i h)
  have h1 := cl_int (i := x) h
  have h2 : x.toInt = (j : Int) := by rw [e]; exact nI_toInt hj
  have h3 : x.toNatClampNeg = j := by omega
  rw [h3]; exact e
theorem RG.add {EA EB : Nat → Prop} {WC WM : List (Nat × Nat)} {S S4 S16 : wPS} {o2 o : Nat} {x1 x2 x3 x4 : Int32} (m : RG o2 S o) (hA : isA S o 12) (hW : wtB S []) (hw : stp WC [] [] S S4) (hm : stp WM [] [] S4 S16) (hc : ∀ p ∈ ([(2, 0), (114, 10), (122, 10)] : List (Nat × Nat)), p ∉ WC) (hk : ∀ p ∈ ([(2, 0), (9, 1), (19, 101)] : List (Nat × Nat)), p ∉ WM)
    (c4 : (S4.I o2 1).toInt = (S.I o2 1).toInt + 1) (N : ∃ g : Nat, g ∉ S.L ∧ isA S4 g 2 ∧ S4.r (S.f o2 0) (S.I o2 1).toNatClampNeg = some g ∧ (∀ i : Nat, i ≠ (S.I o2 1).toNatClampNeg → S4.r (S.f o2 0) i = S.r (S.f o2 0) i) ∧ S4.I g 0 = S.I o2 1 ∧ S4.I g 1 = x1 ∧ S4.I g 2 = x2 ∧ S4.I g 3 = x3 ∧ S4.I g 4 = x4 ∧ S4.I g 7 = (0 : Int32) ∧ S4.I g 8 = (-1 : Int32) ∧ S4.I g 9 = (0 : Int32) ∧ S4.I g 10 = (0 : Int32) ∧ S4.I g 11 = (0 : Int32) ∧ EA g)
    (n1 : (S16.I (S4.f o 0) 2).toInt = (S4.I (S4.f o 0) 2).toInt + 1) (M : ∃ g a : Nat, g ∉ S4.L ∧ isA S16 g 10 ∧ S16.F (S4.f o 0) 1 = some a ∧ isA S16 a 22 ∧ S16.r a (S4.I (S4.f o 0) 2).toNatClampNeg = some g ∧ (∀ i : Nat, (i : Int) < (S4.I (S4.f o 0) 2).toInt → S16.r a i = S4.r (S4.f (S4.f o 0) 1) i) ∧ S16.I g 1 = x1 ∧ S16.I g 2 = x2 ∧ S16.I g 3 = x3 ∧ S16.I g 4 = x4 ∧ S16.I g 7 = (0 : Int32) ∧ S16.I g 8 = (-1 : Int32) ∧ S16.I g 10 = (0 : Int32) ∧ S16.I g 11 = (0 : Int32) ∧ S16.I g 18 = (0 : Int32) ∧ S16.I g 17 = (0 : Int32) ∧ EB g) : RG o2 S16 o := by
  have m0 := m
  obtain ⟨hA2, ⟨e0, l0, n0⟩, mc, mg, md⟩ := m
  obtain ⟨f4, m4, q4, fl4, rl4⟩ := RG.st hw hW hA ⟨hc _ (by decide), hc _ (by decide)⟩ m0
  obtain ⟨g, ng, gA, gr, go, cv0, cv1, cv2, cv3, cv4, cv7, cv8, cv9, cv10, cv11, -⟩ := N
  obtain ⟨b, a, nb, bA, aF, aA, br, bo, dv1, dv2, dv3, dv4, dv7, dv8, dv10, dv11, dv18, dv17, -⟩ := M
  rw [f4] at n1 aF br bo
  rw [q4] at n1 br bo
  rw [fl4] at bo
  have R9 := ((hW.at hA2 List.not_mem_nil).to_9 hA2.2.1).R1
  have k9 := (hW.at hA2 List.not_mem_nil).to_9 hA2.2.1
  have e16 := hm.x.F (hw.x.A hA) (Or.inl (by decide)) m4.1
  rw [f4] at e16
  have f16 : S16.f o 0 = (S.f o 0) := f_of e16
  have cI : S16.I o2 1 = S4.I o2 1 := ((hm.fR o2 (hw.x.A hA2).1 List.not_mem_nil).1 1 (by rw [(hw.x.A hA2).2.1]; exact hk _ (by decide))).1
  have fa4 : S4.f o2 0 = S.f o2 0 := f_of (hw.x.F hA2 (Or.inl (by decide)) k9.F0.1)
  have fa : S16.f o2 0 = S.f o2 0 := f_of (hm.x.F (hw.x.A hA2) (Or.inl (by decide)) (hw.x.F hA2 (Or.inl (by decide)) k9.F0.1))
  have aA4 := hw.x.A k9.F0.2.1
  have ra : S16.r (S.f o2 0) = S4.r (S.f o2 0) := (hm.fR _ aA4.1 List.not_mem_nil).2.2.1 (by rw [aA4.2.1]; exact hk _ (by decide))
  have fl16 : S16.f (S.f o 0) 1 = a := f_of aF
  have ck := cl_int (i := S.I o2 1) R9.1
  have ck2 := cl_int (i := S.I (S.f o 0) 2) (by omega)
  have qa0 : ∀ i, S16.q (S16.f o2 0) i = S4.q (S.f o2 0) i := fun i => by unfold wPS.q; rw [fa, ra]
  have qb0 : ∀ i, S16.q (S16.f (S16.f o 0) 1) i = S16.q a i := fun i => by rw [f16, fl16]
  have eaN : ∀ i, i = (S.I o2 1).toNatClampNeg → S4.q (S.f o2 0) i = g := fun i hik => by rw [hik]; exact q_of gr
  have ebN : ∀ i, i = (S.I o2 1).toNatClampNeg → S16.q a i = b := fun i hik => by rw [show i = (S.I (S.f o 0) 2).toNatClampNeg by omega]; exact q_of br
  have eaO : ∀ i, ¬ i = (S.I o2 1).toNatClampNeg → S4.q (S.f o2 0) i = S.q (S.f o2 0) i := fun i hik => by unfold wPS.q; rw [go i hik]
  have ebO : ∀ i : Nat, (i : Int) < (S.I o2 1).toInt → S16.q a i = S.q (S.f (S.f o 0) 1) i := fun i hi' => by unfold wPS.q; rw [bo i (by omega), rl4 i hi']
  refine ⟨(hw.x.tr hm.x).A hA2, ⟨by rw [f16]; exact e16, by rw [f16]; exact (hw.x.tr hm.x).A l0, by rw [f16, (hw.x.tr hm.x).n l0]; exact n0⟩, by rw [cI, f16, c4, n1, mc], fun i hi => ?_, fun i j hi hj hn => ?_⟩
  · rw [cI, c4] at hi
    rw [qa0, qb0]
    by_cases hik : i = (S.I o2 1).toNatClampNeg
    · rw [eaN i hik, ebN i hik]
      have fg := (hm.fR g gA.1 List.not_mem_nil).1
      rw [gA.2.1] at fg
      exact ⟨hm.x.A gA, bA, by rw [(fg 0 (hk _ (by decide))).1, cv0, hik]; exact nI_cl R9.1⟩
    · have hi' : (i : Int) < (S.I o2 1).toInt := by omega
      rw [eaO i hik, ebO i hi']
      obtain ⟨ga, gb, g0⟩ := mg i hi'
      have f1 := (hw.fR _ ga.1 List.not_mem_nil).1
      have f2 := (hw.fR _ gb.1 List.not_mem_nil).1
      have f3 := (hm.fR _ (hw.x.A ga).1 List.not_mem_nil).1
      have f5 := (hm.fR _ (hw.x.A gb).1 List.not_mem_nil).1
      rw [ga.2.1] at f1
      rw [gb.2.1] at f2
      rw [(hw.x.A ga).2.1] at f3
      rw [(hw.x.A gb).2.1] at f5
      exact ⟨hm.x.A (hw.x.A ga), hm.x.A (hw.x.A gb), by rw [(f3 0 (hk _ (by decide))).1, (f1 0 (hc _ (by decide))).1]; exact g0⟩
  · rw [cI, c4] at hi hj
    rw [qa0, qa0, qb0, qb0]
    have nA : ∀ i : Nat, (i : Int) < (S.I o2 1).toInt → ¬ S.q (S.f o2 0) i = g := fun i hi e => ng (by rw [← e]; exact (mg i hi).1.1)
    have nB : ∀ i : Nat, (i : Int) < (S.I o2 1).toInt → ¬ S.q (S.f (S.f o 0) 1) i = b := fun i hi e => nb (by rw [← e]; exact (hw.x.A (mg i hi).2.1).1)
    by_cases hik : i = (S.I o2 1).toNatClampNeg
    · have hj' : (j : Int) < (S.I o2 1).toInt := by omega
      rw [eaN i hik, ebN i hik, eaO j (by omega), ebO j hj']
      exact ⟨fun e => nA j hj' e.symm, fun e => nB j hj' e.symm⟩
    · have hi' : (i : Int) < (S.I o2 1).toInt := by omega
      by_cases hjk : j = (S.I o2 1).toNatClampNeg
      · rw [eaN j hjk, ebN j hjk, eaO i hik, ebO i hi']
        exact ⟨nA i hi', nB i hi'⟩
      · have hj' : (j : Int) < (S.I o2 1).toInt := by omega
        rw [eaO i hik, ebO i hi', eaO j hjk, ebO j hj']
        exact md i j hi' hj' hn
theorem RG.qs {W : List (Nat × Nat)} {S U : wPS} {o2 o : Nat} (h : stp W [] [] S U) (hW : wtB S []) (hA : isA S o 12) (h1 : ∀ p ∈ ([(2, 0), (9, 1), (19, 101), (114, 10), (122, 10)] : List (Nat × Nat)), p ∉ W) (m : RG o2 S o) : U.I o2 1 = S.I o2 1 ∧ (∀ i, U.q (U.f o2 0) i = S.q (S.f o2 0) i) ∧ (∀ i : Nat, (i : Int) < (S.I o2 1).toInt → U.q (U.f (U.f o 0) 1) i = S.q (S.f (S.f o 0) 1) i) := by
  have m0 := m
  obtain ⟨hA2, ⟨e0, l0, n0⟩, mc, mg, md⟩ := m
  obtain ⟨f', m1, q2, fl, rl⟩ := RG.st h hW hA ⟨h1 _ (by decide), h1 _ (by decide)⟩ m0
  have c1 : U.I o2 1 = S.I o2 1 := ((h.fR o2 hA2.1 List.not_mem_nil).1 1 (by rw [hA2.2.1]; exact h1 _ (by decide))).1
  have k9 := (hW.at hA2 List.not_mem_nil).to_9 hA2.2.1
  have fa : U.f o2 0 = S.f o2 0 := f_of (h.x.F hA2 (Or.inl (by decide)) k9.F0.1)
  have ra : U.r (S.f o2 0) = S.r (S.f o2 0) := (h.fR _ k9.F0.2.1.1 List.not_mem_nil).2.2.1 (by rw [k9.F0.2.1.2.1]; exact h1 _ (by decide))
  exact ⟨c1, fun i => by unfold wPS.q; rw [fa, ra], fun i hi => by unfold wPS.q; rw [f', fl, rl i hi]⟩
theorem RG.qadd {PA PB : Nat → Prop} {WC WM : List (Nat × Nat)} {S S4 S16 : wPS} {o2 o : Nat} (m : RG o2 S o) (hA : isA S o 12) (hW : wtB S []) (hw : stp WC [] [] S S4) (hm : stp WM [] [] S4 S16) (hc : (114, 10) ∉ WC ∧ (122, 10) ∉ WC) (hk : (9, 1) ∉ WM ∧ (19, 101) ∉ WM)
    (c4 : (S4.I o2 1).toInt = (S.I o2 1).toInt + 1) (N : ∃ g : Nat, g ∉ S.L ∧ isA S4 g 2 ∧ S4.r (S.f o2 0) (S.I o2 1).toNatClampNeg = some g ∧ (∀ i : Nat, i ≠ (S.I o2 1).toNatClampNeg → S4.r (S.f o2 0) i = S.r (S.f o2 0) i) ∧ PA g)
    (M : ∃ g a : Nat, g ∉ S4.L ∧ isA S16 g 10 ∧ S16.F (S4.f o 0) 1 = some a ∧ isA S16 a 22 ∧ S16.r a (S4.I (S4.f o 0) 2).toNatClampNeg = some g ∧ (∀ i : Nat, (i : Int) < (S4.I (S4.f o 0) 2).toInt → S16.r a i = S4.r (S4.f (S4.f o 0) 1) i) ∧ PB g) : S16.I o2 1 = S4.I o2 1 ∧ ∃ g b : Nat, g ∉ S.L ∧ b ∉ S4.L ∧ isA S4 g 2 ∧ isA S16 b 10 ∧ PA g ∧ PB b ∧ S16.q (S16.f o2 0) (S.I o2 1).toNatClampNeg = g ∧ S16.q (S16.f (S16.f o 0) 1) (S.I o2 1).toNatClampNeg = b ∧ (∀ i : Nat, (i : Int) < (S.I o2 1).toInt → S16.q (S16.f o2 0) i = S.q (S.f o2 0) i ∧ S16.q (S16.f (S16.f o 0) 1) i = S.q (S.f (S.f o 0) 1) i) := by
  have m0 := m
  obtain ⟨hA2, ⟨e0, l0, n0⟩, mc, mg, md⟩ := m
  obtain ⟨f4, m4, q4, fl4, rl4⟩ := RG.st hw hW hA hc m0
  obtain ⟨g, ng, gA, gr, go, pa⟩ := N
  obtain ⟨b, a, nb, bA, aF, aA, br, bo, pb⟩ := M
  rw [f4] at aF br bo
  rw [q4] at br bo
  rw [fl4] at bo
  have k9 := (hW.at hA2 List.not_mem_nil).to_9 hA2.2.1
  have R9 := k9.R1
  have e16 := hm.x.F (hw.x.A hA) (Or.inl (by decide)) m4.1
  rw [f4] at e16
  have f16 : S16.f o 0 = (S.f o 0) := f_of e16
  have cI : S16.I o2 1 = S4.I o2 1 := ((hm.fR o2 (hw.x.A hA2).1 List.not_mem_nil).1 1 (by rw [(hw.x.A hA2).2.1]; exact hk.1)).1
  have fa4 : S4.f o2 0 = S.f o2 0 := f_of (hw.x.F hA2 (Or.inl (by decide)) k9.F0.1)
  have fa : S16.f o2 0 = S.f o2 0 := f_of (hm.x.F (hw.x.A hA2) (Or.inl (by decide)) (hw.x.F hA2 (Or.inl (by decide)) k9.F0.1))
  have aA4 := hw.x.A k9.F0.2.1
  have ra : S16.r (S.f o2 0) = S4.r (S.f o2 0) := (hm.fR _ aA4.1 List.not_mem_nil).2.2.1 (by rw [aA4.2.1]; exact hk.2)
  have fl16 : S16.f (S.f o 0) 1 = a := f_of aF
  have ck := cl_int (i := S.I o2 1) R9.1
  have ck2 := cl_int (i := S.I (S.f o 0) 2) (by omega)
  have ek : (S.I (S.f o 0) 2).toNatClampNeg = (S.I o2 1).toNatClampNeg := by omega
  rw [ek] at br
  refine ⟨cI, g, b, ng, nb, gA, bA, pa, pb, ?_, ?_, fun i hi => ⟨?_, ?_⟩⟩
  · unfold wPS.q; rw [fa, ra, gr]; rfl
  · unfold wPS.q; rw [f16, fl16, br]; rfl
  · unfold wPS.q; rw [fa, ra, go i (by omega)]
  · unfold wPS.q; rw [f16, fl16, bo i (by omega), rl4 i hi]
/-- the same gears on both sides, their ways as long -/
def RW (o2 : Nat) (S : wPS) (o : Nat) : Prop := RG o2 S o ∧ (∀ i : Nat, (i : Int) < (S.I o2 1).toInt → S.F (S.q (S.f o2 0) i) 6 = some (S.f (S.q (S.f o2 0) i) 6) ∧ isA S (S.f (S.q (S.f o2 0) i) 6) 13 ∧ S.I (S.f (S.q (S.f o2 0) i) 6) 3 = S.I (S.q (S.f (S.f o 0) 1) i) 17) ∧ (∀ i j : Nat, (i : Int) < (S.I o2 1).toInt → (j : Int) < (S.I o2 1).toInt → ¬ i = j → ¬ S.f (S.q (S.f o2 0) i) 6 = S.f (S.q (S.f o2 0) j) 6)
theorem RW.keep {W : List (Nat × Nat)} {S U : wPS} {o2 o : Nat} (h : stp W [] [] S U) (hW : wtB S []) (hA : isA S o 12) (h1 : ∀ p ∈ ([(2, 0), (9, 1), (10, 17), (13, 3), (19, 101), (114, 10), (122, 10)] : List (Nat × Nat)), p ∉ W) (_ : True) (m : RW o2 S o) : RW o2 U o := by
  obtain ⟨m1, my, md⟩ := m
  have s1 : ∀ p ∈ ([(2, 0), (9, 1), (19, 101), (114, 10), (122, 10)] : List (Nat × Nat)), p ∉ W := fun p hp => h1 p ((by decide : ∀ q ∈ ([(2, 0), (9, 1), (19, 101), (114, 10), (122, 10)] : List (Nat × Nat)), q ∈ ([(2, 0), (9, 1), (10, 17), (13, 3), (19, 101), (114, 10), (122, 10)] : List (Nat × Nat))) p hp)
  obtain ⟨c1, qa, qb⟩ := RG.qs h hW hA s1 m1
  have one : ∀ i : Nat, (i : Int) < (S.I o2 1).toInt → U.F (S.q (S.f o2 0) i) 6 = some (S.f (S.q (S.f o2 0) i) 6) ∧ isA U (S.f (S.q (S.f o2 0) i) 6) 13 ∧ U.I (S.f (S.q (S.f o2 0) i) 6) 3 = U.I (S.q (S.f (S.f o 0) 1) i) 17 := fun i hi => by
    obtain ⟨ga, gb, -⟩ := m1.2.2.2.1 i hi
    obtain ⟨e, w, p⟩ := my i hi
    have f3 := ((h.fR _ w.1 List.not_mem_nil).1 3 (by rw [w.2.1]; exact h1 _ (by decide))).1
    have f17 := ((h.fR _ gb.1 List.not_mem_nil).1 17 (by rw [gb.2.1]; exact h1 _ (by decide))).1
    exact ⟨h.x.F ga (Or.inl (by decide)) e, h.x.A w, by rw [f3, f17]; exact p⟩
  refine ⟨RG.keep h hW hA s1 trivial m1, fun i hi => ?_, fun i j hi hj hn => ?_⟩
  · rw [c1] at hi
    obtain ⟨e, w, p⟩ := one i hi
    rw [qa, qb i hi, f_of e]
    exact ⟨e, w, p⟩
  · rw [c1] at hi hj
    rw [qa, qa, f_of (one i hi).1, f_of (one j hj).1]
    exact md i j hi hj hn
theorem RW.sI {S : wPS} {o2 o j : Nat} {t : Int32} (hA : isA S o 12) (m : RW o2 S o) : RW o2 (S.sI o j t) o := by
  obtain ⟨m1, my, md⟩ := m
  have ne : ∀ {x k : Nat}, isA S x k → k ≠ 12 → (S.sI o j t).I x = S.I x := fun hx hk => sI_no (fun e => hk (by rw [← hx.2.1, e]; exact hA.2.1))
  refine ⟨RG.sI hA m1, fun i hi => ?_, fun i k hi hk hn => ?_⟩
  · rw [ne m1.1 (by decide)] at hi
    obtain ⟨ga, gb, -⟩ := m1.2.2.2.1 i hi
    obtain ⟨e, w, p⟩ := my i hi
    refine ⟨e, w, ?_⟩
    show (S.sI o j t).I (S.f (S.q (S.f o2 0) i) 6) 3 = (S.sI o j t).I (S.q (S.f (S.f o 0) 1) i) 17
    rw [ne w (by decide), ne gb (by decide)]; exact p
  · rw [ne m1.1 (by decide)] at hi hk
    exact md i k hi hk hn
theorem RW.upd {S T : wPS} {o2 o e : Nat} (sL : T.L = S.L) (sK : T.K = S.K) (sn : T.n = S.n) (sF : T.F = S.F) (sr : T.r = S.r) (he : (e : Int) < (S.I o2 1).toInt) (ia : ∀ x, ¬ x = S.f (S.q (S.f o2 0) e) 6 → ¬ x = (S.q (S.f (S.f o 0) 1) e) → T.I x = S.I x) (hv : T.I (S.f (S.q (S.f o2 0) e) 6) 3 = T.I (S.q (S.f (S.f o 0) 1) e) 17) (m : RW o2 S o) : RW o2 T o := by
  have f' : ∀ a j, T.f a j = S.f a j := fun a j => by unfold wPS.f; rw [sF]
  have q' : ∀ a j, T.q a j = S.q a j := fun a j => by unfold wPS.q; rw [sr]
  have A' : ∀ {x k : Nat}, isA S x k → isA T x k := fun h => by unfold isA at h ⊢; rw [sL, sK, sn]; exact h
  obtain ⟨⟨hA2, ⟨e0, l0, n0⟩, mc, mg, mdd⟩, my, md⟩ := m
  obtain ⟨gae, gbe, -⟩ := mg e he
  obtain ⟨ee, we, pe⟩ := my e he
  have ne : ∀ {x k : Nat}, isA S x k → k ≠ 13 → k ≠ 10 → T.I x = S.I x := fun hx h1 h2 => ia _ (fun e => h1 (by rw [← hx.2.1, e]; exact we.2.1)) (fun e => h2 (by rw [← hx.2.1, e]; exact gbe.2.1))
  refine ⟨⟨A' hA2, ⟨by rw [f', sF]; exact e0, by rw [f']; exact A' l0, by rw [f', sn]; exact n0⟩, by rw [ne hA2 (by decide) (by decide), f', ne l0 (by decide) (by decide)]; exact mc, fun i hi => ?_, fun i j hi hj hn => ?_⟩, fun i hi => ?_, fun i j hi hj hn => ?_⟩
  · rw [ne hA2 (by decide) (by decide)] at hi
    simp only [f', q']
    obtain ⟨ga, gb, g0⟩ := mg i hi
    exact ⟨A' ga, A' gb, by rw [ne ga (by decide) (by decide)]; exact g0⟩
  · rw [ne hA2 (by decide) (by decide)] at hi hj
    simp only [f', q']
    exact mdd i j hi hj hn
  · rw [ne hA2 (by decide) (by decide)] at hi
    simp only [f', q', sF]
    obtain ⟨e6, w6, p6⟩ := my i hi
    obtain ⟨ga, gb, -⟩ := mg i hi
    by_cases hie : i = e
    · subst hie; exact ⟨e6, A' w6, hv⟩
    · refine ⟨e6, A' w6, ?_⟩
      rw [ia _ (md i e hi he hie) (fun z => by have k := w6.2.1; rw [z, gbe.2.1] at k; exact absurd k (by decide)), ia _ (fun z => by have k := gb.2.1; rw [z, we.2.1] at k; exact absurd k (by decide)) (mdd i e hi he hie).2]
      exact p6
  · rw [ne hA2 (by decide) (by decide)] at hi hj
    simp only [f', q']
    exact md i j hi hj hn
/-- the ways have the same letters on both sides, each its own row -/
def RLT (o2 : Nat) (S : wPS) (o : Nat) : Prop := RW o2 S o ∧ (∀ i k : Nat, (i : Int) < (S.I o2 1).toInt → (k : Int) < (S.I (S.q (S.f (S.f o 0) 1) i) 17).toInt → S.i (S.f (S.f (S.q (S.f o2 0) i) 6) 0) k = S.i (S.f (S.q (S.f (S.f o 0) 1) i) 6) k ∧ 0 ≤ (S.i (S.f (S.q (S.f (S.f o 0) 1) i) 6) k).toInt ∧ (S.i (S.f (S.q (S.f (S.f o 0) 1) i) 6) k).toInt ≤ 127) ∧ (∀ i j : Nat, (i : Int) < (S.I o2 1).toInt → (j : Int) < (S.I o2 1).toInt → ¬ i = j → ¬ S.f (S.f (S.q (S.f o2 0) i) 6) 0 = S.f (S.f (S.q (S.f o2 0) j) 6) 0 ∧ ¬ S.f (S.q (S.f (S.f o 0) 1) i) 6 = S.f (S.q (S.f (S.f o 0) 1) j) 6)
/-- where the rows of a gear's way lie -/
def RLw (S : wPS) (a b : Nat) : Prop := (S.F a 6 = some (S.f a 6) ∧ isA S (S.f a 6) 13) ∧ (S.F (S.f a 6) 0 = some (S.f (S.f a 6) 0) ∧ isA S (S.f (S.f a 6) 0) 15) ∧ S.F b 6 = some (S.f b 6) ∧ isA S (S.f b 6) 37
theorem RLT.w {S : wPS} {o2 o i : Nat} (hW : wtB S []) (m : RW o2 S o) (hi : (i : Int) < (S.I o2 1).toInt) : RLw S (S.q (S.f o2 0) i) (S.q (S.f (S.f o 0) 1) i) := by
  obtain ⟨ga, gb, -⟩ := m.1.2.2.2.1 i hi
  obtain ⟨e6, w13, -⟩ := m.2.1 i hi
  have kb := (hW.at gb List.not_mem_nil).to_10 gb.2.1
  have kw := (hW.at w13 List.not_mem_nil).to_13 w13.2.1
  exact ⟨⟨e6, w13⟩, ⟨kw.F0.1, kw.F0.2.1⟩, kb.F6.1, kb.F6.2.1⟩
theorem RLw.fr {S U : wPS} {a b : Nat} (h : ext S U) (ga : isA S a 2) (gb : isA S b 10) (m : RLw S a b) : U.f a 6 = S.f a 6 ∧ U.f (S.f a 6) 0 = S.f (S.f a 6) 0 ∧ U.f b 6 = S.f b 6 := by
  obtain ⟨⟨e1, w⟩, ⟨e2, r⟩, e3, r2⟩ := m
  exact ⟨f_of (h.F ga (Or.inl (by decide)) e1), f_of (h.F w (Or.inl (by decide)) e2), f_of (h.F gb (Or.inl (by decide)) e3)⟩
theorem RLT.keep {W : List (Nat × Nat)} {S U : wPS} {o2 o : Nat} (h : stp W [] [] S U) (hW : wtB S []) (hA : isA S o 12) (h1 : ∀ p ∈ ([(2, 0), (9, 1), (10, 17), (13, 3), (15, 100), (19, 101), (37, 100), (114, 10), (122, 10)] : List (Nat × Nat)), p ∉ W) (_ : True) (m : RLT o2 S o) : RLT o2 U o := by
  obtain ⟨m0, ml, md⟩ := m
  have s1 : ∀ p ∈ ([(2, 0), (9, 1), (10, 17), (13, 3), (19, 101), (114, 10), (122, 10)] : List (Nat × Nat)), p ∉ W := fun p hp => h1 p ((by decide : ∀ q ∈ ([(2, 0), (9, 1), (10, 17), (13, 3), (19, 101), (114, 10), (122, 10)] : List (Nat × Nat)), q ∈ ([(2, 0), (9, 1), (10, 17), (13, 3), (15, 100), (19, 101), (37, 100), (114, 10), (122, 10)] : List (Nat × Nat))) p hp)
  have s2 : ∀ p ∈ ([(2, 0), (9, 1), (19, 101), (114, 10), (122, 10)] : List (Nat × Nat)), p ∉ W := fun p hp => h1 p ((by decide : ∀ q ∈ ([(2, 0), (9, 1), (19, 101), (114, 10), (122, 10)] : List (Nat × Nat)), q ∈ ([(2, 0), (9, 1), (10, 17), (13, 3), (15, 100), (19, 101), (37, 100), (114, 10), (122, 10)] : List (Nat × Nat))) p hp)
  obtain ⟨c1, qa, qb⟩ := RG.qs h hW hA s2 m0.1
  have one : ∀ i : Nat, (i : Int) < (S.I o2 1).toInt → U.f (U.f (U.q (U.f o2 0) i) 6) 0 = S.f (S.f (S.q (S.f o2 0) i) 6) 0 ∧ U.f (U.q (U.f (U.f o 0) 1) i) 6 = S.f (S.q (S.f (S.f o 0) 1) i) 6 ∧ U.i (S.f (S.f (S.q (S.f o2 0) i) 6) 0) = S.i (S.f (S.f (S.q (S.f o2 0) i) 6) 0) ∧ U.i (S.f (S.q (S.f (S.f o 0) 1) i) 6) = S.i (S.f (S.q (S.f (S.f o 0) 1) i) 6) ∧ U.I (U.q (U.f (U.f o 0) 1) i) 17 = S.I (S.q (S.f (S.f o 0) 1) i) 17 := fun i hi => by
    obtain ⟨ga, gb, -⟩ := m0.1.2.2.2.1 i hi
    have w := RLT.w hW m0 hi
    obtain ⟨f1, f2, f3⟩ := w.fr h.x ga gb
    obtain ⟨-, ⟨-, r1⟩, -, r2⟩ := w
    rw [qa, qb i hi, f1, f2, f3]
    exact ⟨rfl, rfl, (h.fR _ r1.1 List.not_mem_nil).2.1 (by rw [r1.2.1]; exact h1 _ (by decide)), (h.fR _ r2.1 List.not_mem_nil).2.1 (by rw [r2.2.1]; exact h1 _ (by decide)), ((h.fR _ gb.1 List.not_mem_nil).1 17 (by rw [gb.2.1]; exact h1 _ (by decide))).1⟩
  refine ⟨RW.keep h hW hA s1 trivial m0, fun i k hi hk => ?_, fun i j hi hj hn => ?_⟩
  · rw [c1] at hi
    obtain ⟨x1, x2, x3, x4, x5⟩ := one i hi
    rw [x5] at hk
    rw [x1, x2, x3, x4]
    exact ml i k hi hk
  · rw [c1] at hi hj
    obtain ⟨x1, x2, -⟩ := one i hi
    obtain ⟨y1, y2, -⟩ := one j hj
    rw [x1, x2, y1, y2]
    exact md i j hi hj hn
theorem RLT.sI {S : wPS} {o2 o j : Nat} {t : Int32} (hA : isA S o 12) (m : RLT o2 S o) : RLT o2 (S.sI o j t) o := by
  obtain ⟨m0, ml, md⟩ := m
  have ne : ∀ {x k : Nat}, isA S x k → k ≠ 12 → (S.sI o j t).I x = S.I x := fun hx hk => sI_no (fun e => hk (by rw [← hx.2.1, e]; exact hA.2.1))
  refine ⟨RW.sI hA m0, fun i k hi hk => ?_, fun i k hi hk hn => ?_⟩
  · rw [ne m0.1.1 (by decide)] at hi
    obtain ⟨ga, gb, -⟩ := m0.1.2.2.2.1 i hi
    have hk' : (k : Int) < ((S.sI o j t).I (S.q (S.f (S.f o 0) 1) i) 17).toInt := hk
    rw [ne gb (by decide)] at hk'
    exact ml i k hi hk'
  · rw [ne m0.1.1 (by decide)] at hi hk
    exact md i k hi hk hn
theorem RLT.upd {S T : wPS} {o2 o e : Nat} {v : Int32} (hW : wtB S []) (m : RLT o2 S o) (m' : RW o2 T o) (sI1 : T.I o2 1 = S.I o2 1) (sF : T.F = S.F) (sr : T.r = S.r) (he : (e : Int) < (S.I o2 1).toInt) (hv : 0 ≤ v.toInt ∧ v.toInt ≤ 127)
    (i17 : ∀ i : Nat, (i : Int) < (S.I o2 1).toInt → ¬ i = e → T.I (S.q (S.f (S.f o 0) 1) i) 17 = S.I (S.q (S.f (S.f o 0) 1) i) 17) (i17e : ∀ k : Nat, (k : Int) < (T.I (S.q (S.f (S.f o 0) 1) e) 17).toInt → ¬ (k : Int) = (S.I (S.q (S.f (S.f o 0) 1) e) 17).toInt → (k : Int) < (S.I (S.q (S.f (S.f o 0) 1) e) 17).toInt)
    (ia : ∀ x k, T.i x k = if (x = S.f (S.f (S.q (S.f o2 0) e) 6) 0 ∨ x = S.f (S.q (S.f (S.f o 0) 1) e) 6) ∧ (k : Int) = (S.I (S.q (S.f (S.f o 0) 1) e) 17).toInt then v else S.i x k) : RLT o2 T o := by
  obtain ⟨m0, ml, md⟩ := m
  have f' : ∀ a j, T.f a j = S.f a j := fun a j => by unfold wPS.f; rw [sF]
  have q' : ∀ a j, T.q a j = S.q a j := fun a j => by unfold wPS.q; rw [sr]
  refine ⟨m', fun i k hi hk => ?_, fun i j hi hj hn => ?_⟩
  · rw [sI1] at hi
    simp only [f', q'] at hk ⊢
    obtain ⟨-, ⟨-, r1⟩, -, r2⟩ := RLT.w hW m0 hi
    obtain ⟨-, ⟨-, s1⟩, -, s2⟩ := RLT.w hW m0 he
    rw [ia, ia]
    by_cases hie : i = e
    · subst hie
      by_cases hke : (k : Int) = (S.I (S.q (S.f (S.f o 0) 1) i) 17).toInt
      · rw [if_pos ⟨Or.inl rfl, hke⟩, if_pos ⟨Or.inr rfl, hke⟩]
        exact ⟨rfl, hv⟩
      · rw [if_neg (fun z => hke z.2), if_neg (fun z => hke z.2)]
        exact ml i k hi (i17e k hk hke)
    · obtain ⟨d1, d2⟩ := md i e hi he hie
      rw [if_neg (fun z => by
        rcases z.1 with z | z
        · exact d1 z
        · have k9 := r1.2.1
          rw [z, s2.2.1] at k9
          exact absurd k9 (by decide)), if_neg (fun z => by
        rcases z.1 with z | z
        · have k9 := r2.2.1
          rw [z, s1.2.1] at k9
          exact absurd k9 (by decide)
        · exact d2 z)]
      rw [i17 i hi hie] at hk
      exact ml i k hi hk
  · rw [sI1] at hi hj
    simp only [f', q']
    exact md i j hi hj hn
/-- what holds all through the law's body -/
def LC (p : Program) (l : Launch) (s : State) (m : MethodId) (c : Code) (b L : Nat) (xs : Nat → Int32) (D : va_G) (cy : Nat → ClassId) (c8 c9 : ClassId) (e0 mi : Nat) : Prop :=
  p.tables.exec = Jvm.exec ∧ c.code = cL_law ∧ c.maxLocals = 9 ∧ s.vm.findClass RL = some m.cls ∧ (∀ w ∈ wsL_law, w.before #[Value.ref b] s = true) ∧ va_X b L xs s s.heap ∧ b < s.heap.size ∧ NW s ∧ TH (fun q => s.heap.size ≤ q) s ∧ OU e0 mi (fun q => s.heap.size ≤ q) s s.heap ∧ va_K D vwCl (tyX cy c8 c9) s ∧ l.stackTraces = false ∧ NC s
/-- what holds at the head of each round: the shop, the reference, the two rows of answers -/
def LI (D : va_G) (cy : Nat → ClassId) (c8 c9 : ClassId) (e0 : Nat) (A : Nat → Prop) (o1 o2 qo qd : Nat) (fo : Nat → Int64) (fd : Nat → UInt64) (S : wPS) (H : Heap) : Prop :=
  va_P D vwCl (XO c8 c9 qo qd fo fd ++ PL cy S) H ∧ va_D A (XO c8 c9 qo qd fo fd ++ PL cy S) ∧ wtB S [] ∧ isA S o2 9 ∧ isA S o1 12 ∧ S.F o1 77 = some e0 ∧ MV S o1 ∧ IV S o1 ∧ R55 o2 S o1 ∧ R58 o2 S o1 ∧ RLT o2 S o1
theorem lcmp_self (x : Int64) : lg_cmp x x = 0 := by
  unfold lg_cmp
  simp
theorem rng_ok {x a b : Int32} (h : a.toInt ≤ x.toInt ∧ x.toInt ≤ b.toInt) : f_X9_needRange x a b = .ok () := by
  unfold f_X9_needRange
  rw [if_neg (fun q => by have := lt_i q; omega), if_pos (Int32.le_iff_toInt_le.mpr h.2)]
theorem rng_er {x a b : Int32} (h : ¬ (a.toInt ≤ x.toInt ∧ x.toInt ≤ b.toInt)) : f_X9_needRange x a b = .error "java/lang/IllegalArgumentException" := by
  unfold f_X9_needRange
  split
  · rfl
  · rename_i h1
    rw [if_neg (fun q => h ⟨nlt_i h1, le_i q⟩)]
theorem in_ok {x lo hi : Int64} (h : lo.toInt ≤ x.toInt ∧ x.toInt ≤ hi.toInt) : f_X12_in x lo hi = 1 := by
  unfold f_X12_in
  rw [if_neg (fun q => by have := lc_lt q; omega), if_neg (fun q => by have := lc_gt q; omega)]
theorem in_no {x lo hi : Int64} (h : ¬ (lo.toInt ≤ x.toInt ∧ x.toInt ≤ hi.toInt)) : f_X12_in x lo hi = 0 := by
  unfold f_X12_in
  split
  · rfl
  · rename_i h1
    split
    · rfl
    · rename_i h2
      exact absurd ⟨lc_nlt h1, lc_ngt h2⟩ h
theorem eqH {α : Type} {call : Except String α} {cv : α → Int64} {wc : String → Int32} {r3 r20 : Int32} {ans : Int64} {fo f5 : Nat → Int64} (h : (∃ v, call = .ok v ∧ r3 = 0 ∧ f5 = vp_updL fo (0 : Int32).toNatClampNeg (cv v)) ∨ ∃ E, call = .error E ∧ r3 = wc E ∧ f5 = fo) (hc : (∃ v, call = .ok v ∧ r20 = 0 ∧ cv v = ans) ∨ ∃ E, call = .error E ∧ r20 = wc E ∧ ¬ wc E = 0) : r20 = r3 ∧ (r3 = 0 → f5 (0 : Int32).toNatClampNeg = ans) := by
  rcases hc with ⟨v, e1, e2, e3⟩ | ⟨E, e1, e2, e3⟩
  · rcases h with ⟨w, g1, g2, g3⟩ | ⟨E, g1, -, -⟩
    · rw [e1] at g1; cases g1
      exact ⟨e2.trans g2.symm, fun _ => by rw [g3, ← e3]; simp [vp_updL]⟩
    · rw [e1] at g1; cases g1
  · rcases h with ⟨w, g1, -, -⟩ | ⟨E2, g1, g2, -⟩
    · rw [e1] at g1; cases g1
    · rw [e1] at g1; cases g1
      exact ⟨e2.trans g2.symm, fun q => absurd (g2.symm.trans q) e3⟩
theorem nt_ok {x : Int32} (h : 6 ≤ x.toInt ∧ x.toInt ≤ 200) : f_X9_needTeeth x = .ok () := by
  have a1 : (6 : Int32).toInt = 6 := rfl
  have a2 : (200 : Int32).toInt = 200 := rfl
  unfold f_X9_needTeeth
  rw [eB_ok (rng_ok (by rw [a1, a2]; exact h))]
theorem nt_er {x : Int32} (h : ¬ (6 ≤ x.toInt ∧ x.toInt ≤ 200)) : f_X9_needTeeth x = .error "java/lang/IllegalArgumentException" := by
  have a1 : (6 : Int32).toInt = 6 := rfl
  have a2 : (200 : Int32).toInt = 200 := rfl
  unfold f_X9_needTeeth
  exact eB_er (rng_er (by rw [a1, a2]; exact h))
theorem li64 {x : Int32} {a b : Int} {la lb : Int64} (ha : la.toInt = a) (hb : lb.toInt = b) (h : a ≤ x.toInt ∧ x.toInt ≤ b) : f_X12_in x.toInt64 la lb = 1 := in_ok (by rw [i64_i, ha, hb]; exact h)
theorem li64n {x : Int32} {a b : Int} {la lb : Int64} (ha : la.toInt = a) (hb : lb.toInt = b) (h : ¬ (a ≤ x.toInt ∧ x.toInt ≤ b)) : f_X12_in x.toInt64 la lb = 0 := in_no (by rw [i64_i, ha, hb]; exact h)
/-! gear: refused alike on both sides, or one more on both -/
theorem ca_gear {S S4 S16 : wPS} {o1 o2 : Nat} {y1 y2 y3 y4 r12 : Int32} (hc : (S.I o2 1).toInt = (S4.I (S4.f o1 0) 2).toInt) (rr : 0 ≤ (S.I o2 1).toInt ∧ (S.I o2 1).toInt ≤ 20) (h2 : ((((f_X12_in y1.toInt64 (6 : Int64) (200 : Int64)).toInt = 0 ∨ (f_X12_in y2.toInt64 (500 : Int64) (10000 : Int64)).toInt = 0 ∨ (f_X12_in y3.toInt64 (-500 : Int64) (500 : Int64)).toInt = 0 ∨ (f_X12_in y4.toInt64 (1000 : Int64) (99999 : Int64)).toInt = 0) ∧ r12.toInt = 0 ∧ (S16.I o1 15).toInt = 1 ∧ (S16.I (S4.f o1 0) 2).toInt = (S4.I (S4.f o1 0) 2).toInt) ∨ ((¬ (f_X12_in y1.toInt64 (6 : Int64) (200 : Int64)).toInt = 0 ∧ ¬ (f_X12_in y2.toInt64 (500 : Int64) (10000 : Int64)).toInt = 0 ∧ ¬ (f_X12_in y3.toInt64 (-500 : Int64) (500 : Int64)).toInt = 0 ∧ ¬ (f_X12_in y4.toInt64 (1000 : Int64) (99999 : Int64)).toInt = 0) ∧ (S4.I (S4.f o1 0) 2).toInt = 20 ∧ r12.toInt = 0 ∧ (S16.I o1 15).toInt = 2 ∧ (S16.I (S4.f o1 0) 2).toInt = (S4.I (S4.f o1 0) 2).toInt) ∨ ((¬ (f_X12_in y1.toInt64 (6 : Int64) (200 : Int64)).toInt = 0 ∧ ¬ (f_X12_in y2.toInt64 (500 : Int64) (10000 : Int64)).toInt = 0 ∧ ¬ (f_X12_in y3.toInt64 (-500 : Int64) (500 : Int64)).toInt = 0 ∧ ¬ (f_X12_in y4.toInt64 (1000 : Int64) (99999 : Int64)).toInt = 0) ∧ ¬ (S4.I (S4.f o1 0) 2).toInt = 20 ∧ r12.toInt = (S4.I (S4.f o1 0) 2).toInt ∧ (S16.I o1 15).toInt = 0 ∧ (S16.I (S4.f o1 0) 2).toInt = (S4.I (S4.f o1 0) 2).toInt + 1))) : (∃ (E : String) (n : Int32), f_X9_gear S o2 y1 y2 y3 y4 = .error E ∧ wc_gear E = n ∧ ¬ n = 0 ∧ (S16.I o1 15).toInt = n.toInt ∧ (S16.I (S4.f o1 0) 2).toInt = (S4.I (S4.f o1 0) 2).toInt) ∨ (f_X9_gear S o2 y1 y2 y3 y4 = .ok (S.I o2 1) ∧ (S16.I o1 15).toInt = 0 ∧ r12.toInt = (S4.I (S4.f o1 0) 2).toInt ∧ (S16.I (S4.f o1 0) 2).toInt = (S4.I (S4.f o1 0) 2).toInt + 1) := by
  have l20 : (20 : Int32).toInt = 20 := rfl
  have bad : ∀ (E : String) (n : Int32), f_X9_gear S o2 y1 y2 y3 y4 = .error E → wc_gear E = n → ¬ n = 0 → (S16.I o1 15).toInt = n.toInt → (S16.I (S4.f o1 0) 2).toInt = (S4.I (S4.f o1 0) 2).toInt → (∃ (E : String) (n : Int32), f_X9_gear S o2 y1 y2 y3 y4 = .error E ∧ wc_gear E = n ∧ ¬ n = 0 ∧ (S16.I o1 15).toInt = n.toInt ∧ (S16.I (S4.f o1 0) 2).toInt = (S4.I (S4.f o1 0) 2).toInt) ∨ (f_X9_gear S o2 y1 y2 y3 y4 = .ok (S.I o2 1) ∧ (S16.I o1 15).toInt = 0 ∧ r12.toInt = (S4.I (S4.f o1 0) 2).toInt ∧ (S16.I (S4.f o1 0) 2).toInt = (S4.I (S4.f o1 0) 2).toInt + 1) := fun E n e1 e2 e3 e4 e5 => Or.inl ⟨E, n, e1, e2, e3, e4, e5⟩
  have am500 : (-500 : Int32).toInt = -500 := rfl
  have a6 : (6 : Int32).toInt = 6 := rfl
  have a200 : (200 : Int32).toInt = 200 := rfl
  have a500 : (500 : Int32).toInt = 500 := rfl
  have a1000 : (1000 : Int32).toInt = 1000 := rfl
  have a10000 : (10000 : Int32).toInt = 10000 := rfl
  have a99999 : (99999 : Int32).toInt = 99999 := rfl
  by_cases c0 : (6 : Int) ≤ y1.toInt ∧ y1.toInt ≤ 200
  · have z0 : (f_X12_in y1.toInt64 (6 : Int64) (200 : Int64)).toInt = 1 := by rw [li64 (a := 6) (b := 200) rfl rfl c0]; rfl
    by_cases c1 : (500 : Int) ≤ y2.toInt ∧ y2.toInt ≤ 10000
    · have z1 : (f_X12_in y2.toInt64 (500 : Int64) (10000 : Int64)).toInt = 1 := by rw [li64 (a := 500) (b := 10000) rfl rfl c1]; rfl
      by_cases c2 : (-500 : Int) ≤ y3.toInt ∧ y3.toInt ≤ 500
      · have z2 : (f_X12_in y3.toInt64 (-500 : Int64) (500 : Int64)).toInt = 1 := by rw [li64 (a := -500) (b := 500) rfl rfl c2]; rfl
        by_cases c3 : (1000 : Int) ≤ y4.toInt ∧ y4.toInt ≤ 99999
        · have z3 : (f_X12_in y4.toInt64 (1000 : Int64) (99999 : Int64)).toInt = 1 := by rw [li64 (a := 1000) (b := 99999) rfl rfl c3]; rfl
          by_cases c5 : (S.I o2 1).toInt < 20
          · have e1 : f_X9_gear S o2 y1 y2 y3 y4 = .ok (S.I o2 1) := by
              unfold f_X9_gear
              rw [eB_ok (nt_ok c0), eB_ok (rng_ok (by rw [a500, a10000]; exact c1)), eB_ok (rng_ok (by rw [am500, a500]; exact c2)), eB_ok (rng_ok (by rw [a1000, a99999]; exact c3)), if_pos (Int32.lt_iff_toInt_lt.mpr (by rw [l20]; exact c5))]
            exact Or.inr ⟨e1, by omega, by omega, by omega⟩
          · refine bad "java/lang/IllegalStateException" 2 ?_ ((if_neg (by decide)).trans (if_pos rfl)) (by decide) (show _ = (2 : Int) by omega) (by omega)
            unfold f_X9_gear
            rw [eB_ok (nt_ok c0), eB_ok (rng_ok (by rw [a500, a10000]; exact c1)), eB_ok (rng_ok (by rw [am500, a500]; exact c2)), eB_ok (rng_ok (by rw [a1000, a99999]; exact c3)), if_neg (fun q => c5 (by have := Int32.lt_iff_toInt_lt.mp q; rw [l20] at this; exact this))]
        · have z3 : (f_X12_in y4.toInt64 (1000 : Int64) (99999 : Int64)).toInt = 0 := by rw [li64n (a := 1000) (b := 99999) rfl rfl c3]; rfl
          refine bad "java/lang/IllegalArgumentException" 1 ?_ (if_pos rfl) (by decide) (show _ = (1 : Int) by omega) (by omega)
          unfold f_X9_gear
          rw [eB_ok (nt_ok c0), eB_ok (rng_ok (by rw [a500, a10000]; exact c1)), eB_ok (rng_ok (by rw [am500, a500]; exact c2))]
          exact eB_er (rng_er (by rw [a1000, a99999]; exact c3))
      · have z2 : (f_X12_in y3.toInt64 (-500 : Int64) (500 : Int64)).toInt = 0 := by rw [li64n (a := -500) (b := 500) rfl rfl c2]; rfl
        refine bad "java/lang/IllegalArgumentException" 1 ?_ (if_pos rfl) (by decide) (show _ = (1 : Int) by omega) (by omega)
        unfold f_X9_gear
        rw [eB_ok (nt_ok c0), eB_ok (rng_ok (by rw [a500, a10000]; exact c1))]
        exact eB_er (rng_er (by rw [am500, a500]; exact c2))
    · have z1 : (f_X12_in y2.toInt64 (500 : Int64) (10000 : Int64)).toInt = 0 := by rw [li64n (a := 500) (b := 10000) rfl rfl c1]; rfl
      refine bad "java/lang/IllegalArgumentException" 1 ?_ (if_pos rfl) (by decide) (show _ = (1 : Int) by omega) (by omega)
      unfold f_X9_gear
      rw [eB_ok (nt_ok c0)]
      exact eB_er (rng_er (by rw [a500, a10000]; exact c1))
  · have z0 : (f_X12_in y1.toInt64 (6 : Int64) (200 : Int64)).toInt = 0 := by rw [li64n (a := 6) (b := 200) rfl rfl c0]; rfl
    refine bad "java/lang/IllegalArgumentException" 1 ?_ (if_pos rfl) (by decide) (show _ = (1 : Int) by omega) (by omega)
    unfold f_X9_gear
    exact eB_er (nt_er c0)
theorem RG.gear {S S4 S16 : wPS} {o1 o2 : Nat} {y1 y2 y3 y4 r3 r12 : Int32} {fo f5 : Nat → Int64} (m : RG o2 S o1) (hA : isA S o1 12) (hW : wtB S []) (hw : stp [(9, 1), (19, 101)] [] [] S S4) (hm : stp [(12, 15), (14, 0), (14, 1), (14, 2), (22, 101), (110, 10), (114, 10), (122, 10)] [] [] S4 S16) (h : (∃ v, f_X9_gear S o2 y1 y2 y3 y4 = .ok v ∧ r3 = 0 ∧ f5 = vp_updL fo (0 : Int32).toNatClampNeg (v.toInt64) ∧ (S4.I o2 1).toInt = (S.I o2 1).toInt + 1 ∧ (∃ g : Nat, g ∉ S.L ∧ isA S4 g 2 ∧ S4.r (S.f o2 0) (S.I o2 1).toNatClampNeg = some g ∧ (∀ i : Nat, i ≠ (S.I o2 1).toNatClampNeg → S4.r (S.f o2 0) i = S.r (S.f o2 0) i) ∧ S4.I g 0 = S.I o2 1 ∧ S4.I g 1 = y1 ∧ S4.I g 2 = y2 ∧ S4.I g 3 = y3 ∧ S4.I g 4 = y4 ∧ S4.I g 7 = (0 : Int32) ∧ S4.I g 8 = (-1 : Int32) ∧ S4.I g 9 = (0 : Int32) ∧ S4.I g 10 = (0 : Int32) ∧ S4.I g 11 = (0 : Int32) ∧ S4.f g 6 ∉ S.L ∧ S4.I (S4.f g 6) 3 = (0 : Int32) ∧ S4.f (S4.f g 6) 0 ∉ S.L)) ∨ (∃ E, f_X9_gear S o2 y1 y2 y3 y4 = .error E ∧ r3 = wc_gear E ∧ f5 = fo ∧ S4 = S)) (h2 : ((((f_X12_in y1.toInt64 (6 : Int64) (200 : Int64)).toInt = 0 ∨ (f_X12_in y2.toInt64 (500 : Int64) (10000 : Int64)).toInt = 0 ∨ (f_X12_in y3.toInt64 (-500 : Int64) (500 : Int64)).toInt = 0 ∨ (f_X12_in y4.toInt64 (1000 : Int64) (99999 : Int64)).toInt = 0) ∧ r12.toInt = 0 ∧ (S16.I o1 15).toInt = 1 ∧ (S16.I (S4.f o1 0) 2).toInt = (S4.I (S4.f o1 0) 2).toInt) ∨ ((¬ (f_X12_in y1.toInt64 (6 : Int64) (200 : Int64)).toInt = 0 ∧ ¬ (f_X12_in y2.toInt64 (500 : Int64) (10000 : Int64)).toInt = 0 ∧ ¬ (f_X12_in y3.toInt64 (-500 : Int64) (500 : Int64)).toInt = 0 ∧ ¬ (f_X12_in y4.toInt64 (1000 : Int64) (99999 : Int64)).toInt = 0) ∧ (S4.I (S4.f o1 0) 2).toInt = 20 ∧ r12.toInt = 0 ∧ (S16.I o1 15).toInt = 2 ∧ (S16.I (S4.f o1 0) 2).toInt = (S4.I (S4.f o1 0) 2).toInt) ∨ ((¬ (f_X12_in y1.toInt64 (6 : Int64) (200 : Int64)).toInt = 0 ∧ ¬ (f_X12_in y2.toInt64 (500 : Int64) (10000 : Int64)).toInt = 0 ∧ ¬ (f_X12_in y3.toInt64 (-500 : Int64) (500 : Int64)).toInt = 0 ∧ ¬ (f_X12_in y4.toInt64 (1000 : Int64) (99999 : Int64)).toInt = 0) ∧ ¬ (S4.I (S4.f o1 0) 2).toInt = 20 ∧ r12.toInt = (S4.I (S4.f o1 0) 2).toInt ∧ (S16.I o1 15).toInt = 0 ∧ (S16.I (S4.f o1 0) 2).toInt = (S4.I (S4.f o1 0) 2).toInt + 1)) ∧ ((S16.I (S4.f o1 0) 2).toInt = (S4.I (S4.f o1 0) 2).toInt → ∃ t : Int32, S16 = S4.sI o1 15 t) ∧ ((S16.I (S4.f o1 0) 2).toInt = (S4.I (S4.f o1 0) 2).toInt + 1 → ∃ g a : Nat, g ∉ S4.L ∧ isA S16 g 10 ∧ S16.F (S4.f o1 0) 1 = some a ∧ isA S16 a 22 ∧ S16.r a (S4.I (S4.f o1 0) 2).toNatClampNeg = some g ∧ (∀ i : Nat, (i : Int) < (S4.I (S4.f o1 0) 2).toInt → S16.r a i = S4.r (S4.f (S4.f o1 0) 1) i) ∧ S16.I g 1 = y1 ∧ S16.I g 2 = y2 ∧ S16.I g 3 = y3 ∧ S16.I g 4 = y4 ∧ S16.I g 7 = (0 : Int32) ∧ S16.I g 8 = (-1 : Int32) ∧ S16.I g 10 = (0 : Int32) ∧ S16.I g 11 = (0 : Int32) ∧ S16.I g 18 = (0 : Int32) ∧ S16.I g 17 = (0 : Int32) ∧ S16.f g 6 ∉ S4.L ∧ ∀ j : Nat, S16.i (S16.f g 6) j = 0)) : RG o2 S16 o1 := by
  obtain ⟨f4, m4, q4, -, -⟩ := RG.st hw hW hA (by decide) m
  have hc : (S.I o2 1).toInt = (S4.I (S4.f o1 0) 2).toInt := by rw [f4, q4]; exact m.2.2.1
  have rr := ((hW.at m.1 List.not_mem_nil).to_9 m.1.2.1).R1
  obtain ⟨hF, h3, h4⟩ := h2
  rcases ca_gear hc rr hF with ⟨E, n, e1, e2, e3, e4, e5⟩ | ⟨e1, e2, e3, e4⟩
  · rcases h with ⟨v, g, -⟩ | ⟨E2, g, -, -, g4⟩
    · rw [e1] at g; cases g
    · obtain ⟨t, ht⟩ := h3 e5
      rw [ht, g4]; exact RG.sI hA m
  · rcases h with ⟨v, g, -, -, c4, N⟩ | ⟨E2, g, -⟩
    · exact RG.add m hA hW hw hm (by decide) (by decide) c4 N e4 (h4 e4)
    · rw [e1] at g; cases g
theorem RW.gear {S S4 S16 : wPS} {o1 o2 : Nat} {y1 y2 y3 y4 r3 r12 : Int32} {fo f5 : Nat → Int64} (m : RW o2 S o1) (hA : isA S o1 12) (hW : wtB S []) (hw : stp [(9, 1), (19, 101)] [] [] S S4) (hm : stp [(12, 15), (14, 0), (14, 1), (14, 2), (22, 101), (110, 10), (114, 10), (122, 10)] [] [] S4 S16) (h : (∃ v, f_X9_gear S o2 y1 y2 y3 y4 = .ok v ∧ r3 = 0 ∧ f5 = vp_updL fo (0 : Int32).toNatClampNeg (v.toInt64) ∧ (S4.I o2 1).toInt = (S.I o2 1).toInt + 1 ∧ (∃ g : Nat, g ∉ S.L ∧ isA S4 g 2 ∧ S4.r (S.f o2 0) (S.I o2 1).toNatClampNeg = some g ∧ (∀ i : Nat, i ≠ (S.I o2 1).toNatClampNeg → S4.r (S.f o2 0) i = S.r (S.f o2 0) i) ∧ S4.I g 0 = S.I o2 1 ∧ S4.I g 1 = y1 ∧ S4.I g 2 = y2 ∧ S4.I g 3 = y3 ∧ S4.I g 4 = y4 ∧ S4.I g 7 = (0 : Int32) ∧ S4.I g 8 = (-1 : Int32) ∧ S4.I g 9 = (0 : Int32) ∧ S4.I g 10 = (0 : Int32) ∧ S4.I g 11 = (0 : Int32) ∧ S4.f g 6 ∉ S.L ∧ S4.I (S4.f g 6) 3 = (0 : Int32) ∧ S4.f (S4.f g 6) 0 ∉ S.L)) ∨ (∃ E, f_X9_gear S o2 y1 y2 y3 y4 = .error E ∧ r3 = wc_gear E ∧ f5 = fo ∧ S4 = S)) (h2 : ((((f_X12_in y1.toInt64 (6 : Int64) (200 : Int64)).toInt = 0 ∨ (f_X12_in y2.toInt64 (500 : Int64) (10000 : Int64)).toInt = 0 ∨ (f_X12_in y3.toInt64 (-500 : Int64) (500 : Int64)).toInt = 0 ∨ (f_X12_in y4.toInt64 (1000 : Int64) (99999 : Int64)).toInt = 0) ∧ r12.toInt = 0 ∧ (S16.I o1 15).toInt = 1 ∧ (S16.I (S4.f o1 0) 2).toInt = (S4.I (S4.f o1 0) 2).toInt) ∨ ((¬ (f_X12_in y1.toInt64 (6 : Int64) (200 : Int64)).toInt = 0 ∧ ¬ (f_X12_in y2.toInt64 (500 : Int64) (10000 : Int64)).toInt = 0 ∧ ¬ (f_X12_in y3.toInt64 (-500 : Int64) (500 : Int64)).toInt = 0 ∧ ¬ (f_X12_in y4.toInt64 (1000 : Int64) (99999 : Int64)).toInt = 0) ∧ (S4.I (S4.f o1 0) 2).toInt = 20 ∧ r12.toInt = 0 ∧ (S16.I o1 15).toInt = 2 ∧ (S16.I (S4.f o1 0) 2).toInt = (S4.I (S4.f o1 0) 2).toInt) ∨ ((¬ (f_X12_in y1.toInt64 (6 : Int64) (200 : Int64)).toInt = 0 ∧ ¬ (f_X12_in y2.toInt64 (500 : Int64) (10000 : Int64)).toInt = 0 ∧ ¬ (f_X12_in y3.toInt64 (-500 : Int64) (500 : Int64)).toInt = 0 ∧ ¬ (f_X12_in y4.toInt64 (1000 : Int64) (99999 : Int64)).toInt = 0) ∧ ¬ (S4.I (S4.f o1 0) 2).toInt = 20 ∧ r12.toInt = (S4.I (S4.f o1 0) 2).toInt ∧ (S16.I o1 15).toInt = 0 ∧ (S16.I (S4.f o1 0) 2).toInt = (S4.I (S4.f o1 0) 2).toInt + 1)) ∧ ((S16.I (S4.f o1 0) 2).toInt = (S4.I (S4.f o1 0) 2).toInt → ∃ t : Int32, S16 = S4.sI o1 15 t) ∧ ((S16.I (S4.f o1 0) 2).toInt = (S4.I (S4.f o1 0) 2).toInt + 1 → ∃ g a : Nat, g ∉ S4.L ∧ isA S16 g 10 ∧ S16.F (S4.f o1 0) 1 = some a ∧ isA S16 a 22 ∧ S16.r a (S4.I (S4.f o1 0) 2).toNatClampNeg = some g ∧ (∀ i : Nat, (i : Int) < (S4.I (S4.f o1 0) 2).toInt → S16.r a i = S4.r (S4.f (S4.f o1 0) 1) i) ∧ S16.I g 1 = y1 ∧ S16.I g 2 = y2 ∧ S16.I g 3 = y3 ∧ S16.I g 4 = y4 ∧ S16.I g 7 = (0 : Int32) ∧ S16.I g 8 = (-1 : Int32) ∧ S16.I g 10 = (0 : Int32) ∧ S16.I g 11 = (0 : Int32) ∧ S16.I g 18 = (0 : Int32) ∧ S16.I g 17 = (0 : Int32) ∧ S16.f g 6 ∉ S4.L ∧ ∀ j : Nat, S16.i (S16.f g 6) j = 0)) : RW o2 S16 o1 := by
  have RG' := RG.gear m.1 hA hW hw hm h h2
  obtain ⟨f4, m4, q4, -, -⟩ := RG.st hw hW hA (by decide) m.1
  have hc : (S.I o2 1).toInt = (S4.I (S4.f o1 0) 2).toInt := by rw [f4, q4]; exact m.1.2.2.1
  have k9 := (hW.at m.1.1 List.not_mem_nil).to_9 m.1.1.2.1
  have rr := k9.R1
  obtain ⟨hF, h3, h4⟩ := h2
  rcases ca_gear hc rr hF with ⟨E, n, e1, e2, e3, e4, e5⟩ | ⟨e1, e2, e3, e4⟩
  · rcases h with ⟨v, g, -⟩ | ⟨E2, g, -, -, g4⟩
    · rw [e1] at g; cases g
    · obtain ⟨t, ht⟩ := h3 e5
      rw [ht, g4]; exact RW.sI hA m
  · rcases h with ⟨v, g, -, -, c4, N⟩ | ⟨E2, g, -⟩
    · obtain ⟨cI, g, b, ng, nb, gA, bA, pa, pb, qg, qb, qo⟩ := RG.qadd (PA := fun g => S4.I g 0 = S.I o2 1 ∧ S4.I g 1 = y1 ∧ S4.I g 2 = y2 ∧ S4.I g 3 = y3 ∧ S4.I g 4 = y4 ∧ S4.I g 7 = (0 : Int32) ∧ S4.I g 8 = (-1 : Int32) ∧ S4.I g 9 = (0 : Int32) ∧ S4.I g 10 = (0 : Int32) ∧ S4.I g 11 = (0 : Int32) ∧ S4.f g 6 ∉ S.L ∧ S4.I (S4.f g 6) 3 = (0 : Int32) ∧ S4.f (S4.f g 6) 0 ∉ S.L) (PB := fun g => S16.I g 1 = y1 ∧ S16.I g 2 = y2 ∧ S16.I g 3 = y3 ∧ S16.I g 4 = y4 ∧ S16.I g 7 = (0 : Int32) ∧ S16.I g 8 = (-1 : Int32) ∧ S16.I g 10 = (0 : Int32) ∧ S16.I g 11 = (0 : Int32) ∧ S16.I g 18 = (0 : Int32) ∧ S16.I g 17 = (0 : Int32) ∧ S16.f g 6 ∉ S4.L ∧ ∀ j : Nat, S16.i (S16.f g 6) j = 0) m.1 hA hW hw hm (by decide) (by decide) c4 N (h4 e4)
      obtain ⟨-, -, -, -, -, -, -, -, -, -, ng6, pw3, -⟩ := pa
      obtain ⟨-, -, -, -, -, -, -, -, -, pb17, -⟩ := pb
      obtain ⟨m1, my, md⟩ := m
      have kg := (hw.1.at gA List.not_mem_nil).to_2 gA.2.1
      have eg := hm.x.F gA (Or.inl (by decide)) kg.F6.1
      have fg : S16.f g 6 = S4.f g 6 := f_of eg
      have wA := kg.F6.2
      have w3 : S16.I (S4.f g 6) 3 = S4.I (S4.f g 6) 3 := ((hm.fR _ wA.1 List.not_mem_nil).1 3 (by rw [wA.2.1]; decide)).1
      have ck := cl_int (i := S.I o2 1) rr.1
      have old : ∀ i : Nat, (i : Int) < (S.I o2 1).toInt → S16.F (S.q (S.f o2 0) i) 6 = some (S.f (S.q (S.f o2 0) i) 6) ∧ isA S16 (S.f (S.q (S.f o2 0) i) 6) 13 ∧ S16.I (S.f (S.q (S.f o2 0) i) 6) 3 = S16.I (S.q (S.f (S.f o1 0) 1) i) 17 := fun i hi => by
        obtain ⟨ga, gb, -⟩ := m1.2.2.2.1 i hi
        obtain ⟨e, w, p⟩ := my i hi
        have a1 := ((hw.fR _ w.1 List.not_mem_nil).1 3 (by rw [w.2.1]; decide)).1
        have a2 := ((hm.fR _ (hw.x.A w).1 List.not_mem_nil).1 3 (by rw [(hw.x.A w).2.1]; decide)).1
        have b1 := ((hw.fR _ gb.1 List.not_mem_nil).1 17 (by rw [gb.2.1]; decide)).1
        have b2 := ((hm.fR _ (hw.x.A gb).1 List.not_mem_nil).1 17 (by rw [(hw.x.A gb).2.1]; decide)).1
        exact ⟨hm.x.F (hw.x.A ga) (Or.inl (by decide)) (hw.x.F ga (Or.inl (by decide)) e), hm.x.A (hw.x.A w), by rw [a2, a1, b2, b1]; exact p⟩
      refine ⟨RG', fun i hi => ?_, fun i j hi hj hn => ?_⟩
      · rw [cI, c4] at hi
        by_cases hik : i = (S.I o2 1).toNatClampNeg
        · rw [hik, qg, qb, fg]
          exact ⟨eg, hm.x.A wA, by rw [w3, pw3, pb17]⟩
        · have hi' : (i : Int) < (S.I o2 1).toInt := by omega
          obtain ⟨q1, q2⟩ := qo i hi'
          obtain ⟨e, w, p⟩ := old i hi'
          rw [q1, q2, f_of e]
          exact ⟨e, w, p⟩
      · rw [cI, c4] at hi hj
        by_cases hik : i = (S.I o2 1).toNatClampNeg
        · have hj' : (j : Int) < (S.I o2 1).toInt := by omega
          rw [hik, qg, (qo j hj').1, fg, f_of (old j hj').1]
          exact fun z => ng6 (by rw [z]; exact (my j hj').2.1.1)
        · have hi' : (i : Int) < (S.I o2 1).toInt := by omega
          by_cases hjk : j = (S.I o2 1).toNatClampNeg
          · rw [hjk, qg, (qo i hi').1, fg, f_of (old i hi').1]
            exact fun z => ng6 (by rw [← z]; exact (my i hi').2.1.1)
          · have hj' : (j : Int) < (S.I o2 1).toInt := by omega
            rw [(qo i hi').1, (qo j hj').1, f_of (old i hi').1, f_of (old j hj').1]
            exact md i j hi' hj' hn
    · rw [e1] at g; cases g
theorem RLT.gear {S S4 S16 : wPS} {o1 o2 : Nat} {y1 y2 y3 y4 r3 r12 : Int32} {fo f5 : Nat → Int64} (m : RLT o2 S o1) (hA : isA S o1 12) (hW : wtB S []) (hw : stp [(9, 1), (19, 101)] [] [] S S4) (hm : stp [(12, 15), (14, 0), (14, 1), (14, 2), (22, 101), (110, 10), (114, 10), (122, 10)] [] [] S4 S16) (h : (∃ v, f_X9_gear S o2 y1 y2 y3 y4 = .ok v ∧ r3 = 0 ∧ f5 = vp_updL fo (0 : Int32).toNatClampNeg (v.toInt64) ∧ (S4.I o2 1).toInt = (S.I o2 1).toInt + 1 ∧ (∃ g : Nat, g ∉ S.L ∧ isA S4 g 2 ∧ S4.r (S.f o2 0) (S.I o2 1).toNatClampNeg = some g ∧ (∀ i : Nat, i ≠ (S.I o2 1).toNatClampNeg → S4.r (S.f o2 0) i = S.r (S.f o2 0) i) ∧ S4.I g 0 = S.I o2 1 ∧ S4.I g 1 = y1 ∧ S4.I g 2 = y2 ∧ S4.I g 3 = y3 ∧ S4.I g 4 = y4 ∧ S4.I g 7 = (0 : Int32) ∧ S4.I g 8 = (-1 : Int32) ∧ S4.I g 9 = (0 : Int32) ∧ S4.I g 10 = (0 : Int32) ∧ S4.I g 11 = (0 : Int32) ∧ S4.f g 6 ∉ S.L ∧ S4.I (S4.f g 6) 3 = (0 : Int32) ∧ S4.f (S4.f g 6) 0 ∉ S.L)) ∨ (∃ E, f_X9_gear S o2 y1 y2 y3 y4 = .error E ∧ r3 = wc_gear E ∧ f5 = fo ∧ S4 = S)) (h2 : ((((f_X12_in y1.toInt64 (6 : Int64) (200 : Int64)).toInt = 0 ∨ (f_X12_in y2.toInt64 (500 : Int64) (10000 : Int64)).toInt = 0 ∨ (f_X12_in y3.toInt64 (-500 : Int64) (500 : Int64)).toInt = 0 ∨ (f_X12_in y4.toInt64 (1000 : Int64) (99999 : Int64)).toInt = 0) ∧ r12.toInt = 0 ∧ (S16.I o1 15).toInt = 1 ∧ (S16.I (S4.f o1 0) 2).toInt = (S4.I (S4.f o1 0) 2).toInt) ∨ ((¬ (f_X12_in y1.toInt64 (6 : Int64) (200 : Int64)).toInt = 0 ∧ ¬ (f_X12_in y2.toInt64 (500 : Int64) (10000 : Int64)).toInt = 0 ∧ ¬ (f_X12_in y3.toInt64 (-500 : Int64) (500 : Int64)).toInt = 0 ∧ ¬ (f_X12_in y4.toInt64 (1000 : Int64) (99999 : Int64)).toInt = 0) ∧ (S4.I (S4.f o1 0) 2).toInt = 20 ∧ r12.toInt = 0 ∧ (S16.I o1 15).toInt = 2 ∧ (S16.I (S4.f o1 0) 2).toInt = (S4.I (S4.f o1 0) 2).toInt) ∨ ((¬ (f_X12_in y1.toInt64 (6 : Int64) (200 : Int64)).toInt = 0 ∧ ¬ (f_X12_in y2.toInt64 (500 : Int64) (10000 : Int64)).toInt = 0 ∧ ¬ (f_X12_in y3.toInt64 (-500 : Int64) (500 : Int64)).toInt = 0 ∧ ¬ (f_X12_in y4.toInt64 (1000 : Int64) (99999 : Int64)).toInt = 0) ∧ ¬ (S4.I (S4.f o1 0) 2).toInt = 20 ∧ r12.toInt = (S4.I (S4.f o1 0) 2).toInt ∧ (S16.I o1 15).toInt = 0 ∧ (S16.I (S4.f o1 0) 2).toInt = (S4.I (S4.f o1 0) 2).toInt + 1)) ∧ ((S16.I (S4.f o1 0) 2).toInt = (S4.I (S4.f o1 0) 2).toInt → ∃ t : Int32, S16 = S4.sI o1 15 t) ∧ ((S16.I (S4.f o1 0) 2).toInt = (S4.I (S4.f o1 0) 2).toInt + 1 → ∃ g a : Nat, g ∉ S4.L ∧ isA S16 g 10 ∧ S16.F (S4.f o1 0) 1 = some a ∧ isA S16 a 22 ∧ S16.r a (S4.I (S4.f o1 0) 2).toNatClampNeg = some g ∧ (∀ i : Nat, (i : Int) < (S4.I (S4.f o1 0) 2).toInt → S16.r a i = S4.r (S4.f (S4.f o1 0) 1) i) ∧ S16.I g 1 = y1 ∧ S16.I g 2 = y2 ∧ S16.I g 3 = y3 ∧ S16.I g 4 = y4 ∧ S16.I g 7 = (0 : Int32) ∧ S16.I g 8 = (-1 : Int32) ∧ S16.I g 10 = (0 : Int32) ∧ S16.I g 11 = (0 : Int32) ∧ S16.I g 18 = (0 : Int32) ∧ S16.I g 17 = (0 : Int32) ∧ S16.f g 6 ∉ S4.L ∧ ∀ j : Nat, S16.i (S16.f g 6) j = 0)) : RLT o2 S16 o1 := by
  have RW' := RW.gear m.1 hA hW hw hm h h2
  obtain ⟨f4, m4, q4, -, -⟩ := RG.st hw hW hA (by decide) m.1.1
  have hc : (S.I o2 1).toInt = (S4.I (S4.f o1 0) 2).toInt := by rw [f4, q4]; exact m.1.1.2.2.1
  have k9 := (hW.at m.1.1.1 List.not_mem_nil).to_9 m.1.1.1.2.1
  have rr := k9.R1
  obtain ⟨hF, h3, h4⟩ := h2
  rcases ca_gear hc rr hF with ⟨E, n, e1, e2, e3, e4, e5⟩ | ⟨e1, e2, e3, e4⟩
  · rcases h with ⟨v, g, -⟩ | ⟨E2, g, -, -, g4⟩
    · rw [e1] at g; cases g
    · obtain ⟨t, ht⟩ := h3 e5
      rw [ht, g4]; exact RLT.sI hA m
  · rcases h with ⟨v, g, -, -, c4, N⟩ | ⟨E2, g, -⟩
    · obtain ⟨cI, g, b, ng, nb, gA, bA, pa, pb, qg, qb, qo⟩ := RG.qadd (PA := fun g => S4.I g 0 = S.I o2 1 ∧ S4.I g 1 = y1 ∧ S4.I g 2 = y2 ∧ S4.I g 3 = y3 ∧ S4.I g 4 = y4 ∧ S4.I g 7 = (0 : Int32) ∧ S4.I g 8 = (-1 : Int32) ∧ S4.I g 9 = (0 : Int32) ∧ S4.I g 10 = (0 : Int32) ∧ S4.I g 11 = (0 : Int32) ∧ S4.f g 6 ∉ S.L ∧ S4.I (S4.f g 6) 3 = (0 : Int32) ∧ S4.f (S4.f g 6) 0 ∉ S.L) (PB := fun g => S16.I g 1 = y1 ∧ S16.I g 2 = y2 ∧ S16.I g 3 = y3 ∧ S16.I g 4 = y4 ∧ S16.I g 7 = (0 : Int32) ∧ S16.I g 8 = (-1 : Int32) ∧ S16.I g 10 = (0 : Int32) ∧ S16.I g 11 = (0 : Int32) ∧ S16.I g 18 = (0 : Int32) ∧ S16.I g 17 = (0 : Int32) ∧ S16.f g 6 ∉ S4.L ∧ ∀ j : Nat, S16.i (S16.f g 6) j = 0) m.1.1 hA hW hw hm (by decide) (by decide) c4 N (h4 e4)
      obtain ⟨-, -, -, -, -, -, -, -, -, -, -, -, nw⟩ := pa
      obtain ⟨-, -, -, -, -, -, -, -, -, pb17, nr, -⟩ := pb
      obtain ⟨m0, ml, md⟩ := m
      have kg := (hw.1.at gA List.not_mem_nil).to_2 gA.2.1
      have wA := kg.F6.2
      have kw := (hw.1.at wA List.not_mem_nil).to_13 wA.2.1
      have fg : S16.f g 6 = S4.f g 6 := f_of (hm.x.F gA (Or.inl (by decide)) kg.F6.1)
      have fw : S16.f (S4.f g 6) 0 = S4.f (S4.f g 6) 0 := f_of (hm.x.F wA (Or.inl (by decide)) kw.F0.1)
      have ck := cl_int (i := S.I o2 1) rr.1
      have z0 : (0 : Int32).toInt = 0 := rfl
      have old : ∀ i : Nat, (i : Int) < (S.I o2 1).toInt → S16.f (S16.f (S.q (S.f o2 0) i) 6) 0 = S.f (S.f (S.q (S.f o2 0) i) 6) 0 ∧ S16.f (S.q (S.f (S.f o1 0) 1) i) 6 = S.f (S.q (S.f (S.f o1 0) 1) i) 6 ∧ S16.i (S.f (S.f (S.q (S.f o2 0) i) 6) 0) = S.i (S.f (S.f (S.q (S.f o2 0) i) 6) 0) ∧ S16.i (S.f (S.q (S.f (S.f o1 0) 1) i) 6) = S.i (S.f (S.q (S.f (S.f o1 0) 1) i) 6) ∧ S16.I (S.q (S.f (S.f o1 0) 1) i) 17 = S.I (S.q (S.f (S.f o1 0) 1) i) 17 ∧ S.f (S.f (S.q (S.f o2 0) i) 6) 0 ∈ S.L ∧ S.f (S.q (S.f (S.f o1 0) 1) i) 6 ∈ S4.L := fun i hi => by
        obtain ⟨ga, gb, -⟩ := m0.1.2.2.2.1 i hi
        have w := RLT.w hW m0 hi
        obtain ⟨f1, f2, f3⟩ := w.fr (hw.x.tr hm.x) ga gb
        obtain ⟨-, ⟨-, r1⟩, -, r2⟩ := w
        have a1 := (hw.fR _ r1.1 List.not_mem_nil).2.1 (by rw [r1.2.1]; decide)
        have a2 := (hm.fR _ (hw.x.A r1).1 List.not_mem_nil).2.1 (by rw [(hw.x.A r1).2.1]; decide)
        have b1 := (hw.fR _ r2.1 List.not_mem_nil).2.1 (by rw [r2.2.1]; decide)
        have b2 := (hm.fR _ (hw.x.A r2).1 List.not_mem_nil).2.1 (by rw [(hw.x.A r2).2.1]; decide)
        have c1 := ((hw.fR _ gb.1 List.not_mem_nil).1 17 (by rw [gb.2.1]; decide)).1
        have c2 := ((hm.fR _ (hw.x.A gb).1 List.not_mem_nil).1 17 (by rw [(hw.x.A gb).2.1]; decide)).1
        rw [f1, f2, f3]
        exact ⟨rfl, rfl, a2.trans a1, b2.trans b1, c2.trans c1, r1.1, (hw.x.A r2).1⟩
      refine ⟨RW', fun i k hi hk => ?_, fun i j hi hj hn => ?_⟩
      · rw [cI, c4] at hi
        by_cases hik : i = (S.I o2 1).toNatClampNeg
        · rw [hik, qb, pb17, z0] at hk
          omega
        · have hi' : (i : Int) < (S.I o2 1).toInt := by omega
          obtain ⟨p1, p2⟩ := qo i hi'
          obtain ⟨x1, x2, x3, x4, x5, -⟩ := old i hi'
          rw [p2, x5] at hk
          rw [p1, p2, x1, x2, x3, x4]
          exact ml i k hi' hk
      · rw [cI, c4] at hi hj
        by_cases hik : i = (S.I o2 1).toNatClampNeg
        · have hj' : (j : Int) < (S.I o2 1).toInt := by omega
          obtain ⟨x1, x2, -, -, -, x6, x7⟩ := old j hj'
          rw [hik, qg, qb, (qo j hj').1, (qo j hj').2, fg, fw, x1, x2]
          exact ⟨fun z => nw (by rw [z]; exact x6), fun z => nr (by rw [z]; exact x7)⟩
        · have hi' : (i : Int) < (S.I o2 1).toInt := by omega
          obtain ⟨y1, y2, -, -, -, y6, y7⟩ := old i hi'
          by_cases hjk : j = (S.I o2 1).toNatClampNeg
          · rw [hjk, qg, qb, (qo i hi').1, (qo i hi').2, fg, fw, y1, y2]
            exact ⟨fun z => nw (by rw [← z]; exact y6), fun z => nr (by rw [← z]; exact y7)⟩
          · have hj' : (j : Int) < (S.I o2 1).toInt := by omega
            obtain ⟨x1, x2, -⟩ := old j hj'
            rw [(qo i hi').1, (qo i hi').2, (qo j hj').1, (qo j hj').2, x1, x2, y1, y2]
            exact md i j hi' hj' hn
    · rw [e1] at g; cases g
theorem ga_cases {S : wPS} {o2 o : Nat} (y : Int32) (m : RG o2 S o) (hW : wtB S []) (hA : isA S o 12) : (∃ (i a b : Nat), y = nI i ∧ (i : Int) < (S.I o2 1).toInt ∧ f_X9_gearAt S o2 y = .ok a ∧ ¬ f_X12_isGear S o y = 0 ∧ f_X12_gearAt S o y = b ∧ S.q (S.f o2 0) i = a ∧ S.q (S.f (S.f o 0) 1) i = b ∧ GRG S i a b) ∨ (f_X9_gearAt S o2 y = .error "java/lang/IndexOutOfBoundsException" ∧ f_X12_isGear S o y = 0) := by
  obtain ⟨hA2, ⟨e0, l0, n0⟩, mc, mg, -⟩ := m
  have R1 := ((hW.at hA2 List.not_mem_nil).to_9 hA2.2.1).R1
  have z0 : (0 : Int32).toInt = 0 := rfl
  have b0 : (0 : Int64).toInt = 0 := rfl
  have e6 : (S.I (S.f o 0) 2 - (1 : Int32)).toInt = (S.I (S.f o 0) 2).toInt - 1 := t_subr (n := 1) rfl (by omega)
  have hin : f_X12_isGear S o y = f_X12_in y.toInt64 0 ((S.I (S.f o 0) 2 - (1 : Int32)).toInt64) := rfl
  by_cases c : 0 ≤ y.toInt ∧ y.toInt < (S.I o2 1).toInt
  · have hc := cl_int (i := y) c.1
    refine Or.inl ⟨y.toNatClampNeg, S.q (S.f o2 0) y.toNatClampNeg, S.q (S.f (S.f o 0) 1) y.toNatClampNeg, nI_cl c.1, by omega, ?_, ?_, rfl, rfl, rfl, mg _ (by omega)⟩
    · unfold f_X9_gearAt
      rw [if_neg (fun q => by have := Int32.lt_iff_toInt_lt.mp q; omega), if_pos (Int32.lt_iff_toInt_lt.mpr c.2)]
    · rw [hin, in_ok (by rw [i64_i, i64_i, b0, e6]; omega)]; decide
  · refine Or.inr ⟨?_, ?_⟩
    · unfold f_X9_gearAt
      split
      · rfl
      · rename_i h1
        rw [if_neg (fun q => by have h2 := Int32.lt_iff_toInt_lt.mp q; have h3 : ¬ y.toInt < (0 : Int32).toInt := fun q => h1 (Int32.lt_iff_toInt_lt.mpr q); omega)]
    · rw [hin, in_no (by rw [i64_i, i64_i, b0, e6]; omega)]
theorem nI_inj {i j : Nat} {n : Int} (hi : (i : Int) < n) (hj : (j : Int) < n) (hn : n ≤ 100) (e : nI i = nI j) : i = j := by
  have h1 : (nI i).toInt = (i : Int) := nI_toInt (by omega)
  have h2 : (nI j).toInt = (j : Int) := nI_toInt (by omega)
  rw [e] at h1
  omega
theorem neg_add0 {x y : Int32} : x = -y ↔ x + y = 0 := by
  refine ⟨fun h => by rw [h]; exact Int32.add_left_neg y, fun h => ?_⟩
  have h1 : x + y + -y = 0 + -y := by rw [h]
  rw [Int32.add_assoc, Int32.add_right_neg, Int32.add_zero, Int32.zero_add] at h1
  exact h1
theorem nI_s {k : Nat} (h : k < 1000000) : nI k + (1 : Int32) = nI (k + 1) := by
  have e1 : (nI k).toInt = (k : Int) := nI_toInt (by omega)
  have e2 : (nI (k + 1)).toInt = ((k + 1 : Nat) : Int) := nI_toInt (by omega)
  exact Int32.toInt_inj.mp (by rw [t_addr (n := 1) rfl (by omega), e1, e2]; omega)
theorem nI_cN {k : Nat} (h : k < 1000000) : (nI k).toNatClampNeg = k := by
  have e1 : (nI k).toInt = (k : Int) := nI_toInt (by omega)
  have := cl_int (i := nI k) (by omega)
  omega
/-! which machine is soonest, how a gear goes through its way, how gears go one after another -/
def mx (a b : Int) : Int := if a < b then b else a
theorem mx_f (a b : Int) : a ≤ mx a b ∧ b ≤ mx a b ∧ (mx a b = a ∨ mx a b = b) := by
  unfold mx
  by_cases h : a < b
  · rw [if_pos h]; exact ⟨by omega, by omega, Or.inr rfl⟩
  · rw [if_neg h]; exact ⟨by omega, by omega, Or.inl rfl⟩
theorem mx_i {x y : Int32} : (if x < y then y else x).toInt = mx x.toInt y.toInt := by
  unfold mx
  by_cases h : x < y
  · rw [if_pos h, if_pos (Int32.lt_iff_toInt_lt.mp h)]
  · rw [if_neg h, if_neg (fun q => h (Int32.lt_iff_toInt_lt.mpr q))]
def so (K : Nat → Int32) (E : Nat → Int) (c : Int32) : Nat → Int × Int
  | 0 => (-1, 0)
  | i + 1 => if K i = c ∧ ((so K E c i).1 = -1 ∨ E i < (so K E c i).2) then ((i : Int), E i) else so K E c i
theorem so_s (K : Nat → Int32) (E : Nat → Int) (c : Int32) (i : Nat) : so K E c (i + 1) = if K i = c ∧ ((so K E c i).1 = -1 ∨ E i < (so K E c i).2) then ((i : Int), E i) else so K E c i := rfl
theorem so_f {K : Nat → Int32} {E : Nat → Int} {c : Int32} : ∀ n : Nat, ((so K E c n).1 = -1 ∧ ∀ m, m < n → ¬ K m = c) ∨ ∃ m : Nat, m < n ∧ (so K E c n).1 = (m : Int) ∧ (so K E c n).2 = E m ∧ K m = c := by
  intro n
  induction n with
  | zero => exact Or.inl ⟨rfl, fun m hm => absurd hm (by omega)⟩
  | succ n ih =>
    rw [so_s]
    by_cases h : K n = c ∧ ((so K E c n).1 = -1 ∨ E n < (so K E c n).2)
    · rw [if_pos h]; exact Or.inr ⟨n, by omega, rfl, rfl, h.1⟩
    · rw [if_neg h]
      rcases ih with ⟨a, b⟩ | ⟨m, h1, h2, h3, h4⟩
      · refine Or.inl ⟨a, fun m hm e => ?_⟩
        by_cases q : m = n
        · subst q; exact h ⟨e, Or.inl a⟩
        · exact b m (by omega) e
      · exact Or.inr ⟨m, by omega, h2, h3, h4⟩
def psn (n : Nat) (K : Nat → Int32) (T : Nat → Int) (c : Int32) (p : (Nat → Int) × Int) : (Nat → Int) × Int :=
  (fun i => if (i : Int) = (so K (fun j => mx p.2 (p.1 j) + T j) c n).1 then (so K (fun j => mx p.2 (p.1 j) + T j) c n).2 else p.1 i, (so K (fun j => mx p.2 (p.1 j) + T j) c n).2)
def ps (n : Nat) (K : Nat → Int32) (T : Nat → Int) (c : Nat → Int32) (F : Nat → Int) : Nat → (Nat → Int) × Int
  | 0 => (F, 0)
  | k + 1 => psn n K T (c k) (ps n K T c F k)
def gs (n : Nat) (K : Nat → Int32) (T : Nat → Int) (c : Nat → Nat → Int32) (len : Nat → Nat) (F : Nat → Int) : Nat → (Nat → Int) × Int
  | 0 => (F, 0)
  | i + 1 => ps n K T (c i) (gs n K T c len F i).1 (len i)
def PB (n : Nat) (L : Nat → Int) (B : Int) (p : (Nat → Int) × Int) : Prop := (0 ≤ p.2 ∧ p.2 ≤ B) ∧ ∀ i, i < n → 0 ≤ p.1 i ∧ L i ≤ p.1 i ∧ p.1 i ≤ B
theorem psn_b {n : Nat} {K : Nat → Int32} {T L : Nat → Int} {c : Int32} {B : Int} {p : (Nat → Int) × Int} (hT : ∀ i, i < n → 1 ≤ T i ∧ T i ≤ 99) (hm : ∃ m, m < n ∧ K m = c) (h : PB n L B p) : PB n L (B + 99) (psn n K T c p) := by
  obtain ⟨⟨h1, h2⟩, h3⟩ := h
  obtain ⟨m0, hm0, hc0⟩ := hm
  rcases so_f (K := K) (E := fun j => mx p.2 (p.1 j) + T j) (c := c) n with ⟨-, b⟩ | ⟨m, hmn, e1, e2, -⟩
  · exact absurd hc0 (b m0 hm0)
  · obtain ⟨a1, a2, a3⟩ := mx_f p.2 (p.1 m)
    obtain ⟨t1, t2⟩ := hT m hmn
    obtain ⟨f1, f2, f3⟩ := h3 m hmn
    have v : 0 ≤ mx p.2 (p.1 m) + T m ∧ L m ≤ mx p.2 (p.1 m) + T m ∧ mx p.2 (p.1 m) + T m ≤ B + 99 := by
      rcases a3 with a3 | a3 <;> omega
    refine ⟨?_, fun i hi => ?_⟩
    · show 0 ≤ (so K (fun j => mx p.2 (p.1 j) + T j) c n).2 ∧ (so K (fun j => mx p.2 (p.1 j) + T j) c n).2 ≤ B + 99
      rw [e2]
      exact ⟨v.1, v.2.2⟩
    · show 0 ≤ (if (i : Int) = (so K (fun j => mx p.2 (p.1 j) + T j) c n).1 then (so K (fun j => mx p.2 (p.1 j) + T j) c n).2 else p.1 i) ∧ L i ≤ (if (i : Int) = (so K (fun j => mx p.2 (p.1 j) + T j) c n).1 then (so K (fun j => mx p.2 (p.1 j) + T j) c n).2 else p.1 i) ∧ (if (i : Int) = (so K (fun j => mx p.2 (p.1 j) + T j) c n).1 then (so K (fun j => mx p.2 (p.1 j) + T j) c n).2 else p.1 i) ≤ B + 99
      rw [e1, e2]
      by_cases q : (i : Int) = (m : Int)
      · have q2 : i = m := by omega
        subst q2
        rw [if_pos rfl]
        exact v
      · rw [if_neg q]
        obtain ⟨g1, g2, g3⟩ := h3 i hi
        exact ⟨g1, g2, by omega⟩
theorem ps_b {n len : Nat} {K : Nat → Int32} {T L : Nat → Int} {c : Nat → Int32} {F : Nat → Int} {B : Int} (hT : ∀ i, i < n → 1 ≤ T i ∧ T i ≤ 99) (hm : ∀ k, k < len → ∃ m, m < n ∧ K m = c k) (h : ∀ i, i < n → 0 ≤ F i ∧ L i ≤ F i ∧ F i ≤ B) (hB : 0 ≤ B) : ∀ k : Nat, k ≤ len → PB n L (B + 99 * (k : Int)) (ps n K T c F k) := by
  intro k
  induction k with
  | zero =>
    intro _
    refine ⟨⟨Int.le_refl _, ?_⟩, fun i hi => ?_⟩
    · show (0 : Int) ≤ _; omega
    · obtain ⟨a, b, d⟩ := h i hi
      exact ⟨a, b, by show F i ≤ _; omega⟩
  | succ k ih =>
    intro hk
    have e : B + 99 * ((k + 1 : Nat) : Int) = B + 99 * (k : Int) + 99 := by omega
    rw [e]
    exact psn_b hT (hm k (by omega)) (ih (by omega))
theorem gs_b {n cnt : Nat} {K : Nat → Int32} {T L : Nat → Int} {c : Nat → Nat → Int32} {len : Nat → Nat} {F : Nat → Int} (hT : ∀ i, i < n → 1 ≤ T i ∧ T i ≤ 99) (hm : ∀ g, g < cnt → len g ≤ 8 ∧ ∀ k, k < len g → ∃ m, m < n ∧ K m = c g k) (h : ∀ i, i < n → 0 ≤ F i ∧ L i ≤ F i ∧ F i ≤ 9999) : ∀ g : Nat, g ≤ cnt → PB n L (9999 + 792 * (g : Int)) (gs n K T c len F g) := by
  intro g
  induction g with
  | zero =>
    intro _
    refine ⟨⟨Int.le_refl _, ?_⟩, fun i hi => ?_⟩
    · show (0 : Int) ≤ _; omega
    · obtain ⟨a, b, d⟩ := h i hi
      exact ⟨a, b, by show F i ≤ _; omega⟩
  | succ g ih =>
    intro hg
    obtain ⟨-, i2⟩ := ih (by omega)
    obtain ⟨l8, lm⟩ := hm g (by omega)
    obtain ⟨⟨a1, a2⟩, a3⟩ := ps_b hT lm i2 (by omega) (len g) (Nat.le_refl _)
    refine ⟨⟨a1, ?_⟩, fun i hi => ?_⟩
    · show (ps n K T (c g) (gs n K T c len F g).1 (len g)).2 ≤ _; omega
    · obtain ⟨b1, b2, b3⟩ := a3 i hi
      exact ⟨b1, b2, by show (ps n K T (c g) (gs n K T c len F g).1 (len g)).1 i ≤ _; omega⟩
/-- the class's machines, free from F on; all else as in S -/
def CV (n : Nat) (S U : wPS) (o2 : Nat) (F : Nat → Int) : Prop := (U.F = S.F ∧ U.r = S.r ∧ U.i = S.i) ∧ (U.L = S.L ∧ U.K = S.K ∧ U.n = S.n) ∧ (∀ x j, ¬ (j = 3 ∧ S.K x = 7) → U.I x j = S.I x j) ∧ ∀ i, i < n → (U.I (S.q (S.f o2 4) i) 3).toInt = F i
theorem CV.q {n o2 : Nat} {S U : wPS} {F : Nat → Int} (h : CV n S U o2 F) : (∀ a j, U.f a j = S.f a j) ∧ (∀ a j, U.q a j = S.q a j) := ⟨fun a j => by unfold wPS.f; rw [h.1.1], fun a j => by unfold wPS.q; rw [h.1.2.1]⟩
/-- what a machine is: kind, time, where -/
def MC (n : Nat) (S : wPS) (o2 : Nat) (K : Nat → Int32) (T : Nat → Int) : Prop := isA S o2 9 ∧ (S.I o2 5).toInt = (n : Int) ∧ n ≤ 6 ∧ (∀ i, i < n → isA S (S.q (S.f o2 4) i) 7 ∧ S.I (S.q (S.f o2 4) i) 0 = K i ∧ (S.I (S.q (S.f o2 4) i) 1).toInt = T i ∧ 1 ≤ T i ∧ T i ≤ 99) ∧ ∀ i j, i < n → j < n → ¬ i = j → ¬ S.q (S.f o2 4) i = S.q (S.f o2 4) j
theorem so_cls {S U : wPS} {o2 n : Nat} {K : Nat → Int32} {T F : Nat → Int} {c t : Int32} {B : Int} (hM : MC n S o2 K T) (hV : CV n S U o2 F) (hF : ∀ i, i < n → 0 ≤ F i ∧ F i ≤ B) (ht : 0 ≤ t.toInt ∧ t.toInt ≤ B) (hB : B ≤ 1000000) : (f_X9_soonest U o2 c t).toInt = (so K (fun j => mx t.toInt (F j) + T j) c n).1 ∧ ∀ i, i < n → (f_X7_endFrom U (S.q (S.f o2 4) i) t).toInt = mx t.toInt (F i) + T i := by
  obtain ⟨hA, hn, h6, hm, -⟩ := hM
  obtain ⟨vf, vq⟩ := hV.q
  have K9 : ¬ S.K o2 = 7 := by rw [hA.2.1]; decide
  have un : (U.I o2 5).toInt = (n : Int) := by rw [hV.2.2.1 o2 5 (fun z => K9 z.2)]; exact hn
  have en : ∀ i, i < n → (f_X7_endFrom U (S.q (S.f o2 4) i) t).toInt = mx t.toInt (F i) + T i ∧ 0 ≤ mx t.toInt (F i) + T i ∧ mx t.toInt (F i) + T i ≤ B + 99 := fun i hi => by
    obtain ⟨-, -, m1, t1, t2⟩ := hm i hi
    obtain ⟨f1, f2⟩ := hF i hi
    obtain ⟨a1, a2, a3⟩ := mx_f t.toInt (F i)
    have b : 0 ≤ mx t.toInt (F i) ∧ mx t.toInt (F i) ≤ B := by rcases a3 with a3 | a3 <;> omega
    have e1 : (U.I (S.q (S.f o2 4) i) 1).toInt = T i := by rw [hV.2.2.1 _ 1 (fun z => absurd z.1 (by decide))]; exact m1
    have e2 : (if t < U.I (S.q (S.f o2 4) i) 3 then U.I (S.q (S.f o2 4) i) 3 else t).toInt = mx t.toInt (F i) := by rw [mx_i, hV.2.2.2 i hi]
    refine ⟨?_, by omega, by omega⟩
    show ((if t < U.I (S.q (S.f o2 4) i) 3 then U.I (S.q (S.f o2 4) i) 3 else t) + U.I (S.q (S.f o2 4) i) 1).toInt = _
    rw [t_addr (n := T i) e1 (by rw [e2]; omega), e2]
  refine ⟨?_, fun i hi => (en i hi).1⟩
  have mxi : (2147483647 : Int32).toInt = 2147483647 := rfl
  have lp : ∀ (fuel i : Nat) (b l : Int32), i ≤ n → n < i + fuel → b.toInt = (so K (fun j => mx t.toInt (F j) + T j) c i).1 → ((so K (fun j => mx t.toInt (F j) + T j) c i).1 = -1 → l = (2147483647 : Int32)) → (¬ (so K (fun j => mx t.toInt (F j) + T j) c i).1 = -1 → l.toInt = (so K (fun j => mx t.toInt (F j) + T j) c i).2) → (f_X9_soonest_L10 U o2 c t fuel b l (nI i)).1.toInt = (so K (fun j => mx t.toInt (F j) + T j) c n).1 := by
    intro fuel
    induction fuel with
    | zero => intro i b l h1 h2; omega
    | succ fuel ih =>
      intro i b l h1 h2 hb hl1 hl2
      have ei : (nI i).toInt = (i : Int) := nI_toInt (by omega)
      rw [f_X9_soonest_L10_s]
      by_cases hi : n = i
      · rw [if_pos (Int32.le_iff_toInt_le.mpr (by omega)), hi]; exact hb
      · have hlt : i < n := by omega
        rw [if_neg (fun q => by have := Int32.le_iff_toInt_le.mp q; omega), nI_s (by omega), nI_cN (by omega), vf, vq]
        obtain ⟨-, mk, -⟩ := hm i hlt
        obtain ⟨e1, e2, e3⟩ := en i hlt
        have uk : U.I (S.q (S.f o2 4) i) 0 = K i := by rw [hV.2.2.1 _ 0 (fun z => absurd z.1 (by decide))]; exact mk
        have s1 := so_s K (fun j => mx t.toInt (F j) + T j) c i
        rw [uk]
        by_cases hk : K i = c
        · rw [if_pos hk]
          by_cases hle : l ≤ f_X7_endFrom U (S.q (S.f o2 4) i) t
          · have hle' := Int32.le_iff_toInt_le.mp hle
            rw [e1] at hle'
            have ns : ¬ (so K (fun j => mx t.toInt (F j) + T j) c i).1 = -1 := fun z => by
              rw [hl1 z, mxi] at hle'; omega
            have hl := hl2 ns
            rw [if_neg (fun z => by
              rcases z.2 with z | z
              · exact ns z
              · have z' : mx t.toInt (F i) + T i < (so K (fun j => mx t.toInt (F j) + T j) c i).2 := z
                omega)] at s1
            rw [if_pos hle]
            exact ih (i + 1) b l (by omega) (by omega) (by rw [s1]; exact hb) (by rw [s1]; exact hl1) (by rw [s1]; exact hl2)
          · have hle' : ¬ l.toInt ≤ mx t.toInt (F i) + T i := fun z => hle (Int32.le_iff_toInt_le.mpr (by rw [e1]; exact z))
            rw [if_pos ⟨hk, by
              by_cases z : (so K (fun j => mx t.toInt (F j) + T j) c i).1 = -1
              · exact Or.inl z
              · refine Or.inr ?_
                have hl := hl2 z
                show mx t.toInt (F i) + T i < _
                omega⟩] at s1
            rw [if_neg hle]
            refine ih (i + 1) _ _ (by omega) (by omega) (by rw [s1]; exact ei) (fun z => ?_) (fun _ => by rw [s1]; exact e1)
            rw [s1] at z
            have z' : (i : Int) = -1 := z
            omega
        · rw [if_neg (fun z => hk z.1)] at s1
          rw [if_neg hk]
          exact ih (i + 1) b l (by omega) (by omega) (by rw [s1]; exact hb) (by rw [s1]; exact hl1) (by rw [s1]; exact hl2)
  exact lp 21 0 (-1 : Int32) (2147483647 : Int32) (by omega) (by omega) rfl (fun _ => rfl) (fun z => absurd rfl z)
theorem ch_and {v : Int32} (h : 0 ≤ v.toInt ∧ v.toInt ≤ 127) : ((v &&& (255 : Int32)).toUInt32 % 65536).toInt32 = v := by
  have hc := cl_int (i := v) h.1
  have e : v = nI v.toNatClampNeg := nI_cl h.1
  have hl : v.toNatClampNeg < 128 := by omega
  have d : ∀ m : Fin 128, (((nI m.val) &&& (255 : Int32)).toUInt32 % 65536).toInt32 = nI m.val := by decide +kernel
  have q := d ⟨v.toNatClampNeg, hl⟩
  rw [e]; exact q
/-- a way in the class: letters -/
def WY (S : wPS) (w len : Nat) (c : Nat → Int32) : Prop := isA S w 13 ∧ (S.I w 3).toInt = (len : Int) ∧ len ≤ 8 ∧ S.I w 1 = 0 ∧ ∀ k, k < len → S.i (S.f w 0) k = c k ∧ 0 ≤ (c k).toInt ∧ (c k).toInt ≤ 127
theorem WY.len {S U : wPS} {w len n o2 : Nat} {c : Nat → Int32} {F : Nat → Int} (h : WY S w len c) (hV : CV n S U o2 F) : (f_J4_length_8abf5 U w).toInt = (len : Int) := by
  show (U.I w 3).toInt = _
  rw [hV.2.2.1 w 3 (fun z => by rw [h.1.2.1] at z; exact absurd z.2 (by decide))]; exact h.2.1
theorem WY.ch {S U : wPS} {w len n o2 k : Nat} {c : Nat → Int32} {F : Nat → Int} (h : WY S w len c) (hV : CV n S U o2 F) (hk : k < len) : f_J4_charAt_5068e U w (nI k) = c k := by
  obtain ⟨h1, h2, h3, h4, h5⟩ := h
  obtain ⟨a, b⟩ := h5 k hk
  have u1 : U.I w 1 = 0 := by rw [hV.2.2.1 w 1 (fun z => absurd z.1 (by decide))]; exact h4
  have hcN : (nI k).toNatClampNeg = k := nI_cN (by omega)
  show (if U.I w 1 = (0 : Int32) then (((U.i (U.f w 0) (nI k).toNatClampNeg) &&& (255 : Int32)).toUInt32 % 65536).toInt32 else 0) = _
  rw [if_pos u1, hV.q.1, hV.1.2.2, hcN, a, ch_and b]
theorem CV.up {n o2 i : Nat} {S U : wPS} {K : Nat → Int32} {T F : Nat → Int} {v : Int32} (hM : MC n S o2 K T) (hV : CV n S U o2 F) (hi : i < n) : CV n S (U.sI (S.q (S.f o2 4) i) 3 v) o2 (fun j => if (j : Int) = (i : Int) then v.toInt else F j) := by
  obtain ⟨-, -, -, hm, hd⟩ := hM
  obtain ⟨⟨a1, a2, a3⟩, ⟨b1, b2, b3⟩, c1, d1⟩ := hV
  refine ⟨⟨a1, a2, a3⟩, ⟨b1, b2, b3⟩, fun x j hx => ?_, fun j hj => ?_⟩
  · by_cases e : x = S.q (S.f o2 4) i
    · have e3 : ¬ j = 3 := fun z => hx ⟨z, by rw [e]; exact (hm i hi).1.2.1⟩
      rw [e, sI_ne e3, c1 _ _ (fun z => e3 z.1)]
    · rw [sI_no e]; exact c1 x j hx
  · show _ = if (j : Int) = (i : Int) then v.toInt else F j
    by_cases e : j = i
    · rw [e, sI_eq, if_pos rfl]
    · rw [sI_no (hd j i hj hi e), if_neg (by omega)]; exact d1 j hj
theorem pr_cls {S : wPS} {o2 n w len : Nat} {K : Nat → Int32} {T L F0 : Nat → Int} {c : Nat → Int32} {B : Int} (hM : MC n S o2 K T) (hw : WY S w len c) (hm : ∀ k, k < len → ∃ m, m < n ∧ K m = c k) (h : ∀ i, i < n → 0 ≤ F0 i ∧ L i ≤ F0 i ∧ F0 i ≤ B) (hB : 0 ≤ B ∧ B ≤ 100000) {U0 : wPS} (h0 : CV n S U0 o2 F0) : ∃ (U : wPS) (t : Int32), f_X9_passRoute U0 o2 w = (t, U) ∧ CV n S U o2 (ps n K T c F0 len).1 ∧ t.toInt = (ps n K T c F0 len).2 := by
  have hb := ps_b (L := L) (fun i hi => (hM.2.2.2.1 i hi).2.2.2) hm h hB.1
  have z0 : (0 : Int32).toInt = 0 := rfl
  have lp : ∀ (fuel k : Nat) (U : wPS) (t : Int32), k ≤ len → len < k + fuel → CV n S U o2 (ps n K T c F0 k).1 → t.toInt = (ps n K T c F0 k).2 → ∃ (V : wPS) (t' k' : Int32), f_X9_passRoute_L4 U0 o2 w fuel U t (nI k) = (V, t', k') ∧ CV n S V o2 (ps n K T c F0 len).1 ∧ t'.toInt = (ps n K T c F0 len).2 := by
    intro fuel
    induction fuel with
    | zero => intro k U t h1 h2; omega
    | succ fuel ih =>
      intro k U t h1 h2 hV ht
      have l8 := hw.2.2.1
      have ek : (nI k).toInt = (k : Int) := nI_toInt (by omega)
      have ln := hw.len hV
      rw [f_X9_passRoute_L4_s]
      by_cases hk : len = k
      · rw [if_pos (Int32.le_iff_toInt_le.mpr (by omega)), hk]
        exact ⟨U, t, nI k, rfl, hV, ht⟩
      · have hlt : k < len := by omega
        obtain ⟨⟨p1, p2⟩, p3⟩ := hb k h1
        have p8 : B + 99 * (k : Int) ≤ 1000000 := by omega
        obtain ⟨s1, s2⟩ := so_cls (c := c k) (t := t) hM hV (fun i hi => ⟨(p3 i hi).1, (p3 i hi).2.2⟩) (by rw [ht]; exact ⟨p1, p2⟩) p8
        have vq := hV.q.2
        rw [if_neg (fun q => by have := Int32.le_iff_toInt_le.mp q; omega), hw.ch hV hlt, h0.q.1, vq]
        obtain ⟨x, ex⟩ : ∃ z, f_X9_soonest U o2 (c k) t = z := ⟨_, rfl⟩
        rw [ex] at s1 ⊢
        rw [ht] at s1 s2
        have un : (U.I o2 5).toInt = (n : Int) := by rw [hV.2.2.1 o2 5 (fun z => by rw [hM.1.2.1] at z; exact absurd z.2 (by decide))]; exact hM.2.1
        obtain ⟨m0, hm0, hc0⟩ := hm k hlt
        rcases so_f (K := K) (E := fun j => mx (ps n K T c F0 k).2 ((ps n K T c F0 k).1 j) + T j) (c := c k) n with ⟨-, b⟩ | ⟨m, hmn, e1, e2, -⟩
        · exact absurd hc0 (b m0 hm0)
        · have h6 := hM.2.2.1
          have xm : x = nI m := Int32.toInt_inj.mp (by rw [s1, e1, nI_toInt (by omega)])
          have xi : x.toInt = (m : Int) := by rw [s1, e1]
          have xc : x.toNatClampNeg = m := by rw [xm]; exact nI_cN (by omega)
          rw [if_neg (fun q => by have := Int32.lt_iff_toInt_lt.mp q; omega)]
          rw [if_neg (fun q => by have := Int32.le_iff_toInt_le.mp q; omega), xc, nI_s (by omega)]
          have up := CV.up (v := f_X7_endFrom U (S.q (S.f o2 4) m) t) hM hV hmn
          have sm := s2 m hmn
          refine ih (k + 1) (U.sI (S.q (S.f o2 4) m) 3 (f_X7_endFrom U (S.q (S.f o2 4) m) t)) (f_X7_endFrom U (S.q (S.f o2 4) m) t) (by omega) (by omega) ?_ ?_
          · have ef : (ps n K T c F0 (k + 1)).1 = fun (j : Nat) => if (j : Int) = (m : Int) then (f_X7_endFrom U (S.q (S.f o2 4) m) t).toInt else (ps n K T c F0 k).1 j := by
              show (psn n K T (c k) (ps n K T c F0 k)).1 = _
              funext j
              show (if (j : Int) = (so K (fun j => mx (ps n K T c F0 k).2 ((ps n K T c F0 k).1 j) + T j) (c k) n).1 then (so K (fun j => mx (ps n K T c F0 k).2 ((ps n K T c F0 k).1 j) + T j) (c k) n).2 else (ps n K T c F0 k).1 j) = _
              rw [e1, e2, sm]
            rw [ef]; exact up
          · show (f_X7_endFrom U (S.q (S.f o2 4) m) t).toInt = (so K (fun j => mx (ps n K T c F0 k).2 ((ps n K T c F0 k).1 j) + T j) (c k) n).2
            rw [e2, sm]
  obtain ⟨V, t', k', e, hV, ht⟩ := lp 10 0 U0 (0 : Int32) (by omega) (by have := hw.2.2.1; omega) h0 rfl
  refine ⟨V, t', ?_, hV, ht⟩
  have e' : f_X9_passRoute_L4 U0 o2 w 10 U0 (0 : Int32) (0 : Int32) = (V, t', k') := e
  unfold f_X9_passRoute
  rw [e']; rfl
/-- the model, but for when machines are free, as in S -/
def SV (S T : wPS) (o : Nat) : Prop := (T.F = S.F ∧ T.r = S.r ∧ T.I = S.I) ∧ (T.L = S.L ∧ T.K = S.K ∧ T.n = S.n) ∧ ∀ x, ¬ x = S.f o 8 → T.i x = S.i x
theorem SV.rf (S : wPS) (o : Nat) : SV S S o := ⟨⟨rfl, rfl, rfl⟩, ⟨rfl, rfl, rfl⟩, fun _ _ => rfl⟩
theorem SV.f {S T : wPS} {o : Nat} (h : SV S T o) : ∀ a j, T.f a j = S.f a j := fun a j => by unfold wPS.f; rw [h.1.1]
theorem SV.si {S T : wPS} {o : Nat} (h : SV S T o) (g : Nat → Int32) : SV S (T.si (S.f o 8) g) o := ⟨h.1, h.2.1, fun x hx => by
  show va_up T.i (S.f o 8) g x = _
  rw [up_nq hx]; exact h.2.2 x hx⟩
def RV (n : Nat) (S T : wPS) (o : Nat) (F : Nat → Int) : Prop := SV S T o ∧ ∀ i, i < n → mx (T.i (S.f o 8) i).toInt (S.i (S.f o 7) i).toInt = F i
/-- the model's machines -/
def MR (n : Nat) (S : wPS) (o : Nat) (K : Nat → Int32) (T L : Nat → Int) : Prop := isA S o 12 ∧ ((S.I o 19).toInt = (n : Int) ∧ n ≤ 6) ∧ (isA S (S.f o 5) 38 ∧ isA S (S.f o 6) 34 ∧ isA S (S.f o 7) 35 ∧ isA S (S.f o 8) 36) ∧ ∀ i, i < n → S.i (S.f o 5) i = K i ∧ (S.i (S.f o 6) i).toInt = T i ∧ (S.i (S.f o 7) i).toInt = L i ∧ (1 ≤ T i ∧ T i ≤ 99) ∧ 0 ≤ L i ∧ L i ≤ 9999
theorem MR.ne {n o : Nat} {S : wPS} {K : Nat → Int32} {T L : Nat → Int} (h : MR n S o K T L) : ∀ x k, isA S x k → k ≠ 36 → ¬ x = S.f o 8 := fun x k hx hk e => hk (by rw [← hx.2.1, e]; exact h.2.2.1.2.2.2.2.1)
/-- a way in the model -/
def WR (S : wPS) (b len : Nat) (c : Nat → Int32) : Prop := isA S b 10 ∧ ((S.I b 17).toInt = (len : Int) ∧ len ≤ 8) ∧ isA S (S.f b 6) 37 ∧ ∀ k, k < len → S.i (S.f b 6) k = c k
theorem so_any {S T T0 : wPS} {o b n : Nat} {K : Nat → Int32} {TT L : Nat → Int} {t w : Int32} (kt : Int32 → Int32 → Int32 → Int32 × wPS) (hM : MR n S o K TT L) (h0 : SV S T0 o) (hT : SV S T o) : ∀ (fuel i : Nat) (x e : Int32), i ≤ 1000 → fuel ≤ 100 → ∃ x' e' m', f_X12_goesThrough_L21 T0 o b T t w kt fuel x e (nI i) = kt x' e' m' ∧ (x = (-1 : Int32) → (∀ m, m < n → ¬ K m = T.i (S.f b 6) w.toNatClampNeg) → x' = (-1 : Int32)) := by
  obtain ⟨-, ⟨hn, h6⟩, ⟨a5, -, -, -⟩, hm⟩ := id hM
  have i5 := hT.2.2 _ (hM.ne _ _ a5 (by decide))
  intro fuel
  induction fuel with
  | zero => intro i x e _ _; exact ⟨x, e, nI i, rfl, fun h _ => h⟩
  | succ fuel ih =>
    intro i x e hi hfu
    have ei : (nI i).toInt = (i : Int) := nI_toInt (by omega)
    rw [f_X12_goesThrough_L21_s]
    simp only [h0.f]
    by_cases c1 : T.I o 19 ≤ nI i
    · rw [if_pos c1]; exact ⟨x, e, nI i, rfl, fun h _ => h⟩
    · rw [if_neg c1, nI_s (by omega), nI_cN (by omega)]
      have hlt : i < n := by
        have q : ¬ (T.I o 19).toInt ≤ (nI i).toInt := fun z => c1 (Int32.le_iff_toInt_le.mpr z)
        rw [hT.1.2.2, hn, ei] at q; omega
      by_cases c2 : T.i (S.f o 5) i = T.i (S.f b 6) w.toNatClampNeg
      · have bad : (∀ m, m < n → ¬ K m = T.i (S.f b 6) w.toNatClampNeg) → False := fun z => z i hlt (by rw [← (hm i hlt).1, ← i5]; exact c2)
        rw [if_pos c2]
        by_cases c3 : x = (-1 : Int32)
        · rw [if_pos c3]
          obtain ⟨x', e', m', q, -⟩ := ih (i + 1) (nI i) _ (by omega) (by omega)
          exact ⟨x', e', m', q, fun _ z => (bad z).elim⟩
        · rw [if_neg c3]
          by_cases c4 : (if t < (if T.i (S.f o 8) i < T.i (S.f o 7) i then T.i (S.f o 7) i else T.i (S.f o 8) i) then (if T.i (S.f o 8) i < T.i (S.f o 7) i then T.i (S.f o 7) i else T.i (S.f o 8) i) else t) + T.i (S.f o 6) i < e
          · rw [if_pos c4]
            obtain ⟨x', e', m', q, -⟩ := ih (i + 1) (nI i) _ (by omega) (by omega)
            exact ⟨x', e', m', q, fun _ z => (bad z).elim⟩
          · rw [if_neg c4]
            obtain ⟨x', e', m', q, -⟩ := ih (i + 1) x e (by omega) (by omega)
            exact ⟨x', e', m', q, fun _ z => (bad z).elim⟩
      · rw [if_neg c2]
        exact ih (i + 1) x e (by omega) (by omega)
theorem so_ref {S T T0 : wPS} {o b n k : Nat} {K : Nat → Int32} {TT L F : Nat → Int} {c t : Int32} {B : Int} (kt : Int32 → Int32 → Int32 → Int32 × wPS) (hM : MR n S o K TT L) (h0 : SV S T0 o) (hV : RV n S T o F) (hc : T.i (S.f b 6) (nI k).toNatClampNeg = c) (hF : ∀ i, i < n → 0 ≤ F i ∧ F i ≤ B) (ht : 0 ≤ t.toInt ∧ t.toInt ≤ B) (hB : B ≤ 1000000) : ∃ x e m, f_X12_goesThrough_L21 T0 o b T t (nI k) kt 8 (-1 : Int32) (0 : Int32) (0 : Int32) = kt x e m ∧ x.toInt = (so K (fun j => mx t.toInt (F j) + TT j) c n).1 ∧ (¬ (so K (fun j => mx t.toInt (F j) + TT j) c n).1 = -1 → e.toInt = (so K (fun j => mx t.toInt (F j) + TT j) c n).2) := by
  obtain ⟨-, ⟨hn, h6⟩, ⟨a5, a6, a7, -⟩, hm⟩ := id hM
  obtain ⟨hT, hV2⟩ := hV
  have i5 := hT.2.2 _ (hM.ne _ _ a5 (by decide))
  have i6 := hT.2.2 _ (hM.ne _ _ a6 (by decide))
  have i7 := hT.2.2 _ (hM.ne _ _ a7 (by decide))
  have m1 : (-1 : Int32).toInt = -1 := rfl
  have en : ∀ i, i < n → ((if t < (if T.i (S.f o 8) i < T.i (S.f o 7) i then T.i (S.f o 7) i else T.i (S.f o 8) i) then (if T.i (S.f o 8) i < T.i (S.f o 7) i then T.i (S.f o 7) i else T.i (S.f o 8) i) else t) + T.i (S.f o 6) i).toInt = mx t.toInt (F i) + TT i := fun i hi => by
    obtain ⟨-, q6, q7, t1, -⟩ := hm i hi
    obtain ⟨f1, f2⟩ := hF i hi
    obtain ⟨b1, b2, b3⟩ := mx_f t.toInt (F i)
    have e6 : (T.i (S.f o 6) i).toInt = TT i := by rw [i6]; exact q6
    have e2 : (if t < (if T.i (S.f o 8) i < T.i (S.f o 7) i then T.i (S.f o 7) i else T.i (S.f o 8) i) then (if T.i (S.f o 8) i < T.i (S.f o 7) i then T.i (S.f o 7) i else T.i (S.f o 8) i) else t).toInt = mx t.toInt (F i) := by
      rw [mx_i, mx_i, i7, hV2 i hi]
    rw [t_addr (n := TT i) e6 (by rw [e2]; rcases b3 with b3 | b3 <;> omega), e2]
  have lp : ∀ (fuel i : Nat) (x e : Int32), i ≤ n → n < i + fuel → x.toInt = (so K (fun j => mx t.toInt (F j) + TT j) c i).1 → (¬ (so K (fun j => mx t.toInt (F j) + TT j) c i).1 = -1 → e.toInt = (so K (fun j => mx t.toInt (F j) + TT j) c i).2) → ∃ x' e' m', f_X12_goesThrough_L21 T0 o b T t (nI k) kt fuel x e (nI i) = kt x' e' m' ∧ x'.toInt = (so K (fun j => mx t.toInt (F j) + TT j) c n).1 ∧ (¬ (so K (fun j => mx t.toInt (F j) + TT j) c n).1 = -1 → e'.toInt = (so K (fun j => mx t.toInt (F j) + TT j) c n).2) := by
    intro fuel
    induction fuel with
    | zero => intro i x e h1 h2; omega
    | succ fuel ih =>
      intro i x e h1 h2 hx he
      have ei : (nI i).toInt = (i : Int) := nI_toInt (by omega)
      have un : (T.I o 19).toInt = (n : Int) := by rw [hT.1.2.2]; exact hn
      rw [f_X12_goesThrough_L21_s]
      simp only [h0.f]
      rw [hc]
      by_cases hi : n = i
      · rw [if_pos (Int32.le_iff_toInt_le.mpr (by omega))]
        subst hi
        exact ⟨x, e, nI n, rfl, hx, he⟩
      · have hlt : i < n := by omega
        rw [if_neg (fun q => by have := Int32.le_iff_toInt_le.mp q; omega), nI_s (by omega), nI_cN (by omega)]
        have e1 := en i hlt
        obtain ⟨v, ev⟩ : ∃ z, (if t < (if T.i (S.f o 8) i < T.i (S.f o 7) i then T.i (S.f o 7) i else T.i (S.f o 8) i) then (if T.i (S.f o 8) i < T.i (S.f o 7) i then T.i (S.f o 7) i else T.i (S.f o 8) i) else t) + T.i (S.f o 6) i = z := ⟨_, rfl⟩
        rw [ev] at e1
        rw [ev, i5, (hm i hlt).1]
        have s1 := so_s K (fun j => mx t.toInt (F j) + TT j) c i
        by_cases hk : K i = c
        · rw [if_pos hk]
          by_cases hx1 : x = (-1 : Int32)
          · have z1 : (so K (fun j => mx t.toInt (F j) + TT j) c i).1 = -1 := by rw [← hx, hx1]; exact m1
            rw [if_pos ⟨hk, Or.inl z1⟩] at s1
            rw [if_pos hx1]
            exact ih (i + 1) _ _ (by omega) (by omega) (by rw [s1]; exact ei) (fun _ => by rw [s1]; exact e1)
          · have z1 : ¬ (so K (fun j => mx t.toInt (F j) + TT j) c i).1 = -1 := fun z => hx1 (Int32.toInt_inj.mp (by rw [hx, z]; exact m1.symm))
            have he' := he z1
            rw [if_neg hx1]
            by_cases hlt2 : v < e
            · have h9 := Int32.lt_iff_toInt_lt.mp hlt2
              rw [if_pos ⟨hk, Or.inr (by show mx t.toInt (F i) + TT i < _; omega)⟩] at s1
              rw [if_pos hlt2]
              exact ih (i + 1) _ _ (by omega) (by omega) (by rw [s1]; exact ei) (fun _ => by rw [s1]; exact e1)
            · have h9 : ¬ v.toInt < e.toInt := fun z => hlt2 (Int32.lt_iff_toInt_lt.mpr z)
              rw [if_neg (fun z => by
                rcases z.2 with z | z
                · exact z1 z
                · have z' : mx t.toInt (F i) + TT i < (so K (fun j => mx t.toInt (F j) + TT j) c i).2 := z
                  omega)] at s1
              rw [if_neg hlt2]
              exact ih (i + 1) x e (by omega) (by omega) (by rw [s1]; exact hx) (by rw [s1]; exact he)
        · rw [if_neg (fun z => hk z.1)] at s1
          rw [if_neg hk]
          exact ih (i + 1) x e (by omega) (by omega) (by rw [s1]; exact hx) (by rw [s1]; exact he)
  exact lp 8 0 (-1 : Int32) (0 : Int32) (by omega) (by omega) rfl (fun z => absurd rfl z)
theorem gt_any {S T0 : wPS} {o b n len : Nat} {K c : Nat → Int32} {TT L : Nat → Int} (hM : MR n S o K TT L) (hw : WR S b len c) (h0 : SV S T0 o) : ∃ (T : wPS) (r : Int32), f_X12_goesThrough T0 o b = (r, T) ∧ SV S T o ∧ ((∃ k, k < len ∧ ∀ m, m < n → ¬ K m = c k) → r = (-1 : Int32)) := by
  obtain ⟨wA, ⟨hl, l8⟩, a37, hc⟩ := hw
  have lp : ∀ (fuel k : Nat) (T : wPS) (t : Int32), k ≤ len → len < k + fuel → SV S T o → ∃ (T' : wPS) (r : Int32), f_X12_goesThrough_L4 T0 o b (fun (S42 : wPS) (z43 : Int32) (z44 : Int32) => (z43, S42)) fuel T t (nI k) = (r, T') ∧ SV S T' o ∧ ((∃ j, k ≤ j ∧ j < len ∧ ∀ m, m < n → ¬ K m = c j) → r = (-1 : Int32)) := by
    intro fuel
    induction fuel with
    | zero => intro k T t h1 h2; omega
    | succ fuel ih =>
      intro k T t h1 h2 hT
      have ek : (nI k).toInt = (k : Int) := nI_toInt (by omega)
      have ul : (T.I b 17).toInt = (len : Int) := by rw [hT.1.2.2]; exact hl
      rw [f_X12_goesThrough_L4_s]
      by_cases hk : len = k
      · rw [if_pos (Int32.le_iff_toInt_le.mpr (by omega))]
        exact ⟨T, t, rfl, hT, fun ⟨j, j1, j2, _⟩ => by omega⟩
      · have hlt : k < len := by omega
        rw [if_neg (fun q => by have := Int32.le_iff_toInt_le.mp q; omega)]
        have ck : T.i (S.f b 6) (nI k).toNatClampNeg = c k := by rw [nI_cN (by omega), hT.2.2 _ (hM.ne _ _ a37 (by decide))]; exact hc k hlt
        obtain ⟨x, e, m, q, qn⟩ := so_any (b := b) (t := t) (w := nI k) (fun (z30 : Int32) (z31 : Int32) (z32 : Int32) => if z30 = (-1 : Int32) then ((-1 : Int32), T) else l1 (T.si (T0.f o 8) (upd (T.i (T0.f o 8)) z30.toNatClampNeg z31)) (fun S37 => f_X12_goesThrough_L4 T0 o b (fun (S42 : wPS) (z43 : Int32) (z44 : Int32) => (z43, S42)) fuel S37 z31 (nI k + (1 : Int32)))) hM h0 hT 8 0 (-1 : Int32) (0 : Int32) (by omega) (by omega)
        rw [show (nI 0 : Int32) = (0 : Int32) from rfl] at q
        rw [q]
        rw [ck] at qn
        by_cases hx : x = (-1 : Int32)
        · refine ⟨T, (-1 : Int32), ?_, hT, fun _ => rfl⟩
          show (if x = (-1 : Int32) then ((-1 : Int32), T) else _) = _
          rw [if_pos hx]
        · obtain ⟨T', r, e1, e2, e3⟩ := ih (k + 1) (T.si (S.f o 8) (upd (T.i (S.f o 8)) x.toNatClampNeg e)) e (by omega) (by omega) (hT.si _)
          refine ⟨T', r, ?_, e2, fun ⟨j, j1, j2, j3⟩ => ?_⟩
          · show (if x = (-1 : Int32) then ((-1 : Int32), T) else f_X12_goesThrough_L4 T0 o b (fun (S42 : wPS) (z43 : Int32) (z44 : Int32) => (z43, S42)) fuel (T.si (T0.f o 8) (upd (T.i (T0.f o 8)) x.toNatClampNeg e)) e (nI k + (1 : Int32))) = _
            rw [if_neg hx, h0.f, nI_s (by omega)]
            exact e1
          · by_cases hj : j = k
            · subst hj; exact absurd (qn rfl j3) hx
            · exact e3 ⟨j, by omega, j2, j3⟩
  obtain ⟨T', r, e1, e2, e3⟩ := lp 10 0 T0 (0 : Int32) (by omega) (by omega) h0
  exact ⟨T', r, e1, e2, fun ⟨k, k1, k2⟩ => e3 ⟨k, by omega, k1, k2⟩⟩
theorem gt_ok {S T0 : wPS} {o b n len : Nat} {K c : Nat → Int32} {TT L F0 : Nat → Int} {B : Int} (hM : MR n S o K TT L) (hw : WR S b len c) (hm : ∀ k, k < len → ∃ m, m < n ∧ K m = c k) (h : ∀ i, i < n → 0 ≤ F0 i ∧ L i ≤ F0 i ∧ F0 i ≤ B) (hB : 0 ≤ B ∧ B ≤ 100000) (h0 : RV n S T0 o F0) : ∃ (T : wPS) (r : Int32), f_X12_goesThrough T0 o b = (r, T) ∧ RV n S T o (ps n K TT c F0 len).1 ∧ r.toInt = (ps n K TT c F0 len).2 := by
  obtain ⟨wA, ⟨hl, l8⟩, a37, hc⟩ := hw
  have hb := ps_b (L := L) (fun i hi => (hM.2.2.2 i hi).2.2.2.1) hm h hB.1
  have lp : ∀ (fuel k : Nat) (T : wPS) (t : Int32), k ≤ len → len < k + fuel → RV n S T o (ps n K TT c F0 k).1 → t.toInt = (ps n K TT c F0 k).2 → ∃ (T' : wPS) (r : Int32), f_X12_goesThrough_L4 T0 o b (fun (S42 : wPS) (z43 : Int32) (z44 : Int32) => (z43, S42)) fuel T t (nI k) = (r, T') ∧ RV n S T' o (ps n K TT c F0 len).1 ∧ r.toInt = (ps n K TT c F0 len).2 := by
    intro fuel
    induction fuel with
    | zero => intro k T t h1 h2; omega
    | succ fuel ih =>
      intro k T t h1 h2 hT ht
      have ek : (nI k).toInt = (k : Int) := nI_toInt (by omega)
      have ul : (T.I b 17).toInt = (len : Int) := by rw [hT.1.1.2.2]; exact hl
      rw [f_X12_goesThrough_L4_s]
      by_cases hk : len = k
      · rw [if_pos (Int32.le_iff_toInt_le.mpr (by omega)), hk]
        exact ⟨T, t, rfl, hT, ht⟩
      · have hlt : k < len := by omega
        rw [if_neg (fun q => by have := Int32.le_iff_toInt_le.mp q; omega)]
        have ck : T.i (S.f b 6) (nI k).toNatClampNeg = c k := by rw [nI_cN (by omega), hT.1.2.2 _ (hM.ne _ _ a37 (by decide))]; exact hc k hlt
        obtain ⟨⟨p1, p2⟩, p3⟩ := hb k h1
        obtain ⟨x, e, m, q, qx, qe⟩ := so_ref (b := b) (k := k) (t := t) (fun (z30 : Int32) (z31 : Int32) (z32 : Int32) => if z30 = (-1 : Int32) then ((-1 : Int32), T) else l1 (T.si (T0.f o 8) (upd (T.i (T0.f o 8)) z30.toNatClampNeg z31)) (fun S37 => f_X12_goesThrough_L4 T0 o b (fun (S42 : wPS) (z43 : Int32) (z44 : Int32) => (z43, S42)) fuel S37 z31 (nI k + (1 : Int32)))) hM h0.1 hT ck (fun i hi => ⟨(p3 i hi).1, (p3 i hi).2.2⟩) (by rw [ht]; exact ⟨p1, p2⟩) (by omega)
        rw [q]
        rw [ht] at qx qe
        obtain ⟨m0, hm0, hc0⟩ := hm k hlt
        rcases so_f (K := K) (E := fun j => mx (ps n K TT c F0 k).2 ((ps n K TT c F0 k).1 j) + TT j) (c := c k) n with ⟨-, b9⟩ | ⟨mm, hmn, e1, e2, -⟩
        · exact absurd hc0 (b9 m0 hm0)
        · have h6 := hM.2.1.2
          have qe' := qe (by rw [e1]; omega)
          rw [e1] at qx
          have xm : x = nI mm := Int32.toInt_inj.mp (by rw [qx, nI_toInt (by omega)])
          have xc : x.toNatClampNeg = mm := by rw [xm]; exact nI_cN (by omega)
          have hx : ¬ x = (-1 : Int32) := fun z => by rw [z] at qx; have m1 : (-1 : Int32).toInt = -1 := rfl; omega
          show ∃ (T' : wPS) (r : Int32), (if x = (-1 : Int32) then ((-1 : Int32), T) else f_X12_goesThrough_L4 T0 o b (fun (S42 : wPS) (z43 : Int32) (z44 : Int32) => (z43, S42)) fuel (T.si (T0.f o 8) (upd (T.i (T0.f o 8)) x.toNatClampNeg e)) e (nI k + (1 : Int32))) = (r, T') ∧ _
          rw [if_neg hx, h0.1.f, nI_s (by omega), xc]
          have es : (ps n K TT c F0 (k + 1)).2 = e.toInt := by
            show (so K (fun j => mx (ps n K TT c F0 k).2 ((ps n K TT c F0 k).1 j) + TT j) (c k) n).2 = _
            rw [qe']
          refine ih (k + 1) _ _ (by omega) (by omega) ⟨hT.1.si _, fun j hj => ?_⟩ es.symm
          show mx (va_up T.i (S.f o 8) (upd (T.i (S.f o 8)) mm e) (S.f o 8) j).toInt (S.i (S.f o 7) j).toInt = (if (j : Int) = (so K (fun j => mx (ps n K TT c F0 k).2 ((ps n K TT c F0 k).1 j) + TT j) (c k) n).1 then (so K (fun j => mx (ps n K TT c F0 k).2 ((ps n K TT c F0 k).1 j) + TT j) (c k) n).2 else (ps n K TT c F0 k).1 j)
          rw [e1, ← qe', up_qq]
          unfold upd
          by_cases hj2 : j = mm
          · subst hj2
            rw [if_pos rfl, if_pos rfl]
            obtain ⟨g1, g2, g3⟩ := mx_f (ps n K TT c F0 k).2 ((ps n K TT c F0 k).1 j)
            obtain ⟨-, u2, -⟩ := p3 j hj
            obtain ⟨-, -, l7, tt, -⟩ := hM.2.2.2 j hj
            have v2 : e.toInt = mx (ps n K TT c F0 k).2 ((ps n K TT c F0 k).1 j) + TT j := by rw [qe', e2]
            obtain ⟨w1, w2, w3⟩ := mx_f e.toInt (S.i (S.f o 7) j).toInt
            rw [l7] at w1 w2 w3 ⊢
            rcases w3 with w3 | w3
            · exact w3
            · omega
          · rw [if_neg hj2, if_neg (by omega)]
            exact hT.2 j hj
  obtain ⟨T', r, e1, e2, e3⟩ := lp 10 0 T0 (0 : Int32) (by omega) (by omega) h0 rfl
  exact ⟨T', r, e1, e2, e3⟩
theorem CV.congr {n o2 : Nat} {S U : wPS} {F G : Nat → Int} (h : CV n S U o2 F) (e : ∀ j, j < n → F j = G j) : CV n S U o2 G := ⟨h.1, h.2.1, h.2.2.1, fun j hj => (h.2.2.2 j hj).trans (e j hj)⟩
theorem dn_12 {S : wPS} {o2 n r : Nat} {x : Int32} {K : Nat → Int32} {T L : Nat → Int} (hM : MC n S o2 K T) (hl : ∀ i, i < n → (S.I (S.q (S.f o2 4) i) 2).toInt = L i) : ∃ (V : wPS) (z : Int32), f_X9_doneAt_L12 S o2 x r 8 S (0 : Int32) = (V, z) ∧ CV n S V o2 L := by
  have h6 := hM.2.2.1
  have lp : ∀ (fuel i : Nat) (U : wPS), i ≤ n → n < i + fuel → CV n S U o2 (fun j => if j < i then L j else (S.I (S.q (S.f o2 4) j) 3).toInt) → ∃ (V : wPS) (z : Int32), f_X9_doneAt_L12 S o2 x r fuel U (nI i) = (V, z) ∧ CV n S V o2 L := by
    intro fuel
    induction fuel with
    | zero => intro i U h1 h2; omega
    | succ fuel ih =>
      intro i U h1 h2 hV
      have ei : (nI i).toInt = (i : Int) := nI_toInt (by omega)
      have un : (U.I o2 5).toInt = (n : Int) := by rw [hV.2.2.1 o2 5 (fun z => by rw [hM.1.2.1] at z; exact absurd z.2 (by decide))]; exact hM.2.1
      rw [f_X9_doneAt_L12_s]
      by_cases hi : n = i
      · rw [if_pos (Int32.le_iff_toInt_le.mpr (by omega))]
        exact ⟨U, nI i, rfl, hV.congr (fun j hj => by rw [if_pos (by omega)])⟩
      · have hlt : i < n := by omega
        rw [if_neg (fun q => by have := Int32.le_iff_toInt_le.mp q; omega), hV.q.2, nI_s (by omega), nI_cN (by omega)]
        refine ih (i + 1) (U.sI (S.q (S.f o2 4) i) 3 (U.I (S.q (S.f o2 4) i) 2)) (by omega) (by omega) ((CV.up hM hV hlt).congr (fun j hj => ?_))
        show (if (j : Int) = (i : Int) then (U.I (S.q (S.f o2 4) i) 2).toInt else if j < i then L j else (S.I (S.q (S.f o2 4) j) 3).toInt) = if j < i + 1 then L j else (S.I (S.q (S.f o2 4) j) 3).toInt
        by_cases hj2 : j = i
        · subst hj2
          rw [if_pos rfl, if_pos (by omega), hV.2.2.1 _ 2 (fun z => absurd z.1 (by decide))]
          exact hl j hj
        · rw [if_neg (by omega)]
          by_cases hj3 : j < i
          · rw [if_pos hj3, if_pos (by omega)]
          · rw [if_neg hj3, if_neg (by omega)]
  exact lp 8 0 S (by omega) (by omega) ⟨⟨rfl, rfl, rfl⟩, ⟨rfl, rfl, rfl⟩, fun _ _ _ => rfl, fun j _ => (if_neg (show ¬ j < 0 by omega)).symm⟩
/-- the ways of all gears, on both sides -/
def WS2 (cnt : Nat) (S : wPS) (o2 o : Nat) (len : Nat → Nat) (c : Nat → Nat → Int32) : Prop := ((S.I o2 1).toInt = (cnt : Int) ∧ (S.I (S.f o 0) 2).toInt = (cnt : Int) ∧ cnt ≤ 20) ∧ isA S o2 9 ∧ ∀ i, i < cnt → WY S (S.f (S.q (S.f o2 0) i) 6) (len i) (c i) ∧ WR S (S.q (S.f (S.f o 0) 1) i) (len i) (c i)
theorem dn_49 {S S29 : wPS} {o2 o n cnt a r : Nat} {x z30 : Int32} {K : Nat → Int32} {T L : Nat → Int} {len : Nat → Nat} {c : Nat → Nat → Int32} (hM : MC n S o2 K T) (hw : WS2 cnt S o2 o len c) (hm : ∀ g, g < cnt → ∀ k, k < len g → ∃ m, m < n ∧ K m = c g k) (hL : ∀ i, i < n → 0 ≤ L i ∧ L i ≤ 9999) (ha : a < cnt) (hr : S.I r 0 = nI a) {U0 : wPS} (h0 : CV n S U0 o2 L) : ∃ (V : wPS) (t z : Int32), f_X9_doneAt_L49 S o2 x r S29 z30 22 U0 (0 : Int32) (0 : Int32) = (V, t, z) ∧ CV n S V o2 (gs n K T c len L (a + 1)).1 ∧ t.toInt = (gs n K T c len L (a + 1)).2 := by
  obtain ⟨⟨h1c, -, h20⟩, h9, hws⟩ := hw
  have hb := gs_b (L := L) (cnt := cnt) (c := c) (len := len) (fun i hi => (hM.2.2.2.1 i hi).2.2.2) (fun g hg => ⟨(hws g hg).1.2.2.1, hm g hg⟩) (F := L) (fun i hi => ⟨(hL i hi).1, Int.le_refl _, (hL i hi).2⟩)
  have lp : ∀ (fuel i : Nat) (U : wPS) (t : Int32), i ≤ a + 1 → a + 1 < i + fuel → CV n S U o2 (gs n K T c len L i).1 → t.toInt = (gs n K T c len L i).2 → ∃ (V : wPS) (t' z : Int32), f_X9_doneAt_L49 S o2 x r S29 z30 fuel U t (nI i) = (V, t', z) ∧ CV n S V o2 (gs n K T c len L (a + 1)).1 ∧ t'.toInt = (gs n K T c len L (a + 1)).2 := by
    intro fuel
    induction fuel with
    | zero => intro i U t h1 h2; omega
    | succ fuel ih =>
      intro i U t h1 h2 hV ht
      have ei : (nI i).toInt = (i : Int) := nI_toInt (by omega)
      have ea : (nI a).toInt = (a : Int) := nI_toInt (by omega)
      have ur : U.I r 0 = nI a := by rw [hV.2.2.1 r 0 (fun z => absurd z.1 (by decide))]; exact hr
      have uc : (U.I o2 1).toInt = (cnt : Int) := by rw [hV.2.2.1 o2 1 (fun z => absurd z.1 (by decide))]; exact h1c
      rw [f_X9_doneAt_L49_s, ur]
      by_cases hi : i = a + 1
      · rw [if_pos (Int32.lt_iff_toInt_lt.mpr (by omega))]
        subst hi
        exact ⟨U, t, nI (a + 1), rfl, hV, ht⟩
      · have hlt : i < cnt := by omega
        rw [if_neg (fun q => by have := Int32.lt_iff_toInt_lt.mp q; omega)]
        rw [if_neg (fun q => by have := Int32.le_iff_toInt_le.mp q; omega), hV.q.1, hV.q.2, nI_s (by omega), nI_cN (by omega)]
        obtain ⟨-, b2⟩ := hb i (by omega)
        obtain ⟨V, t', e, k1, k2⟩ := pr_cls (L := L) hM (hws i hlt).1 (hm i hlt) b2 (by omega) hV
        rw [e]
        exact ih (i + 1) V t' (by omega) (by omega) k1 k2
  exact lp 22 0 U0 (0 : Int32) (by omega) (by omega) h0 rfl
theorem nm_ok {S : wPS} {o2 o n cnt : Nat} {K : Nat → Int32} {T F : Nat → Int} {len : Nat → Nat} {c : Nat → Nat → Int32} (hM : MC n S o2 K T) (hw : WS2 cnt S o2 o len c) (hF : ∀ i, i < n → (S.I (S.q (S.f o2 4) i) 3).toInt = F i ∧ 0 ≤ F i ∧ F i ≤ 30000) : (f_X9_needMachines S o2 = .ok () ∧ ∀ g, g < cnt → ∀ k, k < len g → ∃ m, m < n ∧ K m = c g k) ∨ (f_X9_needMachines S o2 = .error "java/util/NoSuchElementException" ∧ ∃ g, g < cnt ∧ ∃ k, k < len g ∧ ∀ m, m < n → ¬ K m = c g k) := by
  obtain ⟨⟨h1c, -, h20⟩, h9, hws⟩ := hw
  have hV : CV n S S o2 F := ⟨⟨rfl, rfl, rfl⟩, ⟨rfl, rfl, rfl⟩, fun _ _ _ => rfl, fun i hi => (hF i hi).1⟩
  have z0 : (0 : Int32).toInt = 0 := rfl
  have m1 : (-1 : Int32).toInt = -1 := rfl
  have sn : ∀ q : Int32, (f_X9_soonest S o2 q (0 : Int32) = (-1 : Int32) ∧ ∀ m, m < n → ¬ K m = q) ∨ (¬ f_X9_soonest S o2 q (0 : Int32) = (-1 : Int32) ∧ ∃ m, m < n ∧ K m = q) := fun q => by
    obtain ⟨s1, -⟩ := so_cls (c := q) (t := (0 : Int32)) (B := 30000) hM hV (fun i hi => (hF i hi).2) (by rw [z0]; omega) (by omega)
    rcases so_f (K := K) (E := fun j => mx (0 : Int32).toInt (F j) + T j) (c := q) n with ⟨a, b⟩ | ⟨m, hm, e1, e2, e3⟩
    · exact Or.inl ⟨Int32.toInt_inj.mp (by rw [s1, a]; exact m1.symm), b⟩
    · exact Or.inr ⟨fun z => by rw [z, m1, e1] at s1; omega, m, hm, e3⟩
  have inner : ∀ (g : Nat), g < cnt → ∀ (kt : Int32 → Except String Unit) (fuel k : Nat), k ≤ len g → len g < k + fuel → ((∃ z, f_X9_needMachines_L22 S o2 (nI g) kt fuel (nI k) = kt z) ∧ ∀ j, k ≤ j → j < len g → ∃ m, m < n ∧ K m = c g j) ∨ (f_X9_needMachines_L22 S o2 (nI g) kt fuel (nI k) = .error "java/util/NoSuchElementException" ∧ ∃ j, j < len g ∧ ∀ m, m < n → ¬ K m = c g j) := by
    intro g hg kt fuel
    have wy := (hws g hg).1
    have l8 := wy.2.2.1
    have ln := wy.len hV
    induction fuel with
    | zero => intro k h1 h2; omega
    | succ fuel ih =>
      intro k h1 h2
      have ek : (nI k).toInt = (k : Int) := nI_toInt (by omega)
      rw [f_X9_needMachines_L22_s, nI_cN (k := g) (by omega)]
      by_cases hk : len g = k
      · rw [if_pos (Int32.le_iff_toInt_le.mpr (by omega))]
        exact Or.inl ⟨⟨nI k, rfl⟩, fun j j1 j2 => by omega⟩
      · have hlt : k < len g := by omega
        rw [if_neg (fun q => by have := Int32.le_iff_toInt_le.mp q; omega), wy.ch hV hlt, nI_s (by omega)]
        rcases sn (c g k) with ⟨s1, s2⟩ | ⟨s1, s2⟩
        · rw [if_pos s1]; exact Or.inr ⟨rfl, k, hlt, s2⟩
        · rw [if_neg s1]
          rcases ih (k + 1) (by omega) (by omega) with ⟨q1, q2⟩ | q
          · refine Or.inl ⟨q1, fun j j1 j2 => ?_⟩
            by_cases e : j = k
            · subst e; exact s2
            · exact q2 j (by omega) j2
          · exact Or.inr q
  have outer : ∀ (fuel g : Nat), g ≤ cnt → cnt < g + fuel → (f_X9_needMachines_L2 S o2 (fun (z29 : Int32) => .ok ()) fuel (nI g) = .ok () ∧ ∀ i, g ≤ i → i < cnt → ∀ k, k < len i → ∃ m, m < n ∧ K m = c i k) ∨ (f_X9_needMachines_L2 S o2 (fun (z29 : Int32) => .ok ()) fuel (nI g) = .error "java/util/NoSuchElementException" ∧ ∃ i, i < cnt ∧ ∃ k, k < len i ∧ ∀ m, m < n → ¬ K m = c i k) := by
    intro fuel
    induction fuel with
    | zero => intro g h1 h2; omega
    | succ fuel ih =>
      intro g h1 h2
      have eg : (nI g).toInt = (g : Int) := nI_toInt (by omega)
      rw [f_X9_needMachines_L2_s]
      by_cases hg : cnt = g
      · rw [if_pos (Int32.le_iff_toInt_le.mpr (by omega))]
        exact Or.inl ⟨rfl, fun i i1 i2 => by omega⟩
      · have hlt : g < cnt := by omega
        have l8 := (hws g hlt).1.2.2.1
        rw [if_neg (fun q => by have := Int32.le_iff_toInt_le.mp q; omega), nI_s (by omega)]
        rcases inner g hlt (fun (z26 : Int32) => f_X9_needMachines_L2 S o2 (fun (z29 : Int32) => .ok ()) fuel (nI (g + 1))) 10 0 (by omega) (by omega) with ⟨⟨z, q1⟩, q2⟩ | ⟨q1, q2⟩
        · rw [show (nI 0 : Int32) = (0 : Int32) from rfl] at q1
          rw [q1]
          rcases ih (g + 1) (by omega) (by omega) with ⟨p1, p2⟩ | p
          · refine Or.inl ⟨p1, fun i i1 i2 k hk => ?_⟩
            by_cases e : i = g
            · subst e; exact q2 k (by omega) hk
            · exact p2 i (by omega) i2 k hk
          · exact Or.inr p
        · rw [show (nI 0 : Int32) = (0 : Int32) from rfl] at q1
          rw [q1]
          exact Or.inr ⟨rfl, g, hlt, q2⟩
  rcases outer 22 0 (by omega) (by omega) with ⟨p1, p2⟩ | p
  · exact Or.inl ⟨p1, fun g hg k hk => p2 g (by omega) hg k hk⟩
  · exact Or.inr p
theorem rf_16 {S : wPS} {o : Nat} {x : Int32} : ∃ (T : wPS) (z : Int32), f_X12_doneAt_L16 S o x 7 S (0 : Int32) = (T, z) ∧ SV S T o ∧ ∀ j, j < 6 → T.i (S.f o 8) j = 0 := by
  have i6 : (6 : Int32).toInt = 6 := rfl
  have lp : ∀ (fuel i : Nat) (T : wPS), i ≤ 6 → 6 < i + fuel → SV S T o → (∀ j, j < i → T.i (S.f o 8) j = 0) → ∃ (T' : wPS) (z : Int32), f_X12_doneAt_L16 S o x fuel T (nI i) = (T', z) ∧ SV S T' o ∧ ∀ j, j < 6 → T'.i (S.f o 8) j = 0 := by
    intro fuel
    induction fuel with
    | zero => intro i T h1 h2; omega
    | succ fuel ih =>
      intro i T h1 h2 hT hz
      have ei : (nI i).toInt = (i : Int) := nI_toInt (by omega)
      rw [f_X12_doneAt_L16_s]
      by_cases hi : i = 6
      · rw [if_pos (Int32.le_iff_toInt_le.mpr (by omega))]
        subst hi
        exact ⟨T, nI 6, rfl, hT, hz⟩
      · rw [if_neg (fun q => by have := Int32.le_iff_toInt_le.mp q; omega), nI_s (by omega), nI_cN (by omega)]
        refine ih (i + 1) (T.si (S.f o 8) (upd (T.i (S.f o 8)) i (0 : Int32))) (by omega) (by omega) (hT.si _) (fun j hj => ?_)
        show va_up T.i (S.f o 8) (upd (T.i (S.f o 8)) i (0 : Int32)) (S.f o 8) j = 0
        rw [up_qq]
        unfold upd
        by_cases e : j = i
        · rw [if_pos e]
        · rw [if_neg e]; exact hz j (by omega)
  exact lp 7 0 S (by omega) (by omega) (SV.rf S o) (fun j hj => absurd hj (by omega))
theorem rf_ga {S T : wPS} {o i : Nat} (h : SV S T o) (hi : i < 1000) : f_X12_gearAt T o (nI i) = S.q (S.f (S.f o 0) 1) i := by
  show ((T.r ((T.F ((T.F o 0).getD 0) 1).getD 0) (nI i).toNatClampNeg).getD 0) = ((S.r ((S.F ((S.F o 0).getD 0) 1).getD 0) i).getD 0)
  rw [h.1.1, h.1.2.1, nI_cN (by omega)]
theorem rf_no {S S0 S17 : wPS} {o2 o n cnt : Nat} {x z18 : Int32} {K : Nat → Int32} {T L : Nat → Int} {len : Nat → Nat} {c : Nat → Nat → Int32} (hM : MR n S o K T L) (hw : WS2 cnt S o2 o len c) (hS0 : S0.f o 0 = S.f o 0) (hno : ∃ g, g < cnt ∧ ∃ k, k < len g ∧ ∀ m, m < n → ¬ K m = c g k) {T0 : wPS} (h0 : SV S T0 o) : ∃ (V : wPS) (a f z : Int32), f_X12_doneAt_L42 S0 o x S17 z18 42 T0 (0 : Int32) (0 : Int32) (0 : Int32) = (V, a, f, z) ∧ SV S V o ∧ ¬ f = 0 := by
  obtain ⟨⟨-, h2c, h20⟩, -, hws⟩ := hw
  have lp : ∀ (fuel i : Nat) (T1 : wPS) (a f : Int32), i ≤ cnt → cnt < i + fuel → SV S T1 o → (¬ f = 0 ∨ ∃ g, i ≤ g ∧ g < cnt ∧ ∃ k, k < len g ∧ ∀ m, m < n → ¬ K m = c g k) → ∃ (V : wPS) (a' f' z : Int32), f_X12_doneAt_L42 S0 o x S17 z18 fuel T1 a f (nI i) = (V, a', f', z) ∧ SV S V o ∧ ¬ f' = 0 := by
    intro fuel
    induction fuel with
    | zero => intro i T1 a f h1 h2; omega
    | succ fuel ih =>
      intro i T1 a f h1 h2 hT hf
      have ei : (nI i).toInt = (i : Int) := nI_toInt (by omega)
      have uc : (f_Jx4a65c_size_8abf5 T1 (S0.f o 0)).toInt = (cnt : Int) := by
        show (T1.I (S0.f o 0) 2).toInt = _
        rw [hS0, hT.1.2.2]; exact h2c
      rw [f_X12_doneAt_L42_s]
      by_cases hi : cnt = i
      · rw [if_pos (Int32.le_iff_toInt_le.mpr (by omega))]
        refine ⟨T1, a, f, nI i, rfl, hT, ?_⟩
        rcases hf with hf | ⟨g, g1, g2, -⟩
        · exact hf
        · omega
      · have hlt : i < cnt := by omega
        rw [if_neg (fun q => by have := Int32.le_iff_toInt_le.mp q; omega), rf_ga hT (by omega), nI_s (by omega)]
        obtain ⟨V, r, e, v1, v2⟩ := gt_any hM (hws i hlt).2 hT
        dsimp only [l1]
        rw [e]
        show ∃ (V' : wPS) (a' f' z : Int32), (if f = (0 : Int32) then if r = (-1 : Int32) then if nI i = x then f_X12_doneAt_L42 S0 o x S17 z18 fuel V r (1 : Int32) (nI (i + 1)) else f_X12_doneAt_L42 S0 o x S17 z18 fuel V a (1 : Int32) (nI (i + 1)) else if nI i = x then f_X12_doneAt_L42 S0 o x S17 z18 fuel V r (0 : Int32) (nI (i + 1)) else f_X12_doneAt_L42 S0 o x S17 z18 fuel V a (0 : Int32) (nI (i + 1)) else if nI i = x then f_X12_doneAt_L42 S0 o x S17 z18 fuel V r (1 : Int32) (nI (i + 1)) else f_X12_doneAt_L42 S0 o x S17 z18 fuel V a (1 : Int32) (nI (i + 1))) = (V', a', f', z) ∧ _
        have one : ¬ (1 : Int32) = 0 := by decide
        by_cases c1 : f = (0 : Int32)
        · rw [if_pos c1]
          by_cases c2 : r = (-1 : Int32)
          · rw [if_pos c2]
            by_cases c3 : nI i = x
            · rw [if_pos c3]; exact ih (i + 1) V r 1 (by omega) (by omega) v1 (Or.inl one)
            · rw [if_neg c3]; exact ih (i + 1) V a 1 (by omega) (by omega) v1 (Or.inl one)
          · have nx : ∃ g, i + 1 ≤ g ∧ g < cnt ∧ ∃ k, k < len g ∧ ∀ m, m < n → ¬ K m = c g k := by
              rcases hf with hf | ⟨g, g1, g2, g3⟩
              · exact absurd c1 hf
              · by_cases q : g = i
                · subst q; exact absurd (v2 g3) c2
                · exact ⟨g, by omega, g2, g3⟩
            rw [if_neg c2]
            by_cases c3 : nI i = x
            · rw [if_pos c3]; exact ih (i + 1) V r 0 (by omega) (by omega) v1 (Or.inr nx)
            · rw [if_neg c3]; exact ih (i + 1) V a 0 (by omega) (by omega) v1 (Or.inr nx)
        · rw [if_neg c1]
          by_cases c3 : nI i = x
          · rw [if_pos c3]; exact ih (i + 1) V r 1 (by omega) (by omega) v1 (Or.inl one)
          · rw [if_neg c3]; exact ih (i + 1) V a 1 (by omega) (by omega) v1 (Or.inl one)
  obtain ⟨g, g1, g2⟩ := hno
  exact lp 42 0 T0 (0 : Int32) (0 : Int32) (by omega) (by omega) h0 (Or.inr ⟨g, by omega, g1, g2⟩)
theorem rf_ok {S S0 S17 : wPS} {o2 o n cnt a : Nat} {z18 : Int32} {K : Nat → Int32} {T L : Nat → Int} {len : Nat → Nat} {c : Nat → Nat → Int32} (hM : MR n S o K T L) (hw : WS2 cnt S o2 o len c) (hS0 : S0.f o 0 = S.f o 0) (hm : ∀ g, g < cnt → ∀ k, k < len g → ∃ m, m < n ∧ K m = c g k) (ha : a < cnt) {T0 : wPS} (h0 : RV n S T0 o L) : ∃ (V : wPS) (t z : Int32), f_X12_doneAt_L42 S0 o (nI a) S17 z18 42 T0 (0 : Int32) (0 : Int32) (0 : Int32) = (V, t, (0 : Int32), z) ∧ SV S V o ∧ t.toInt = (gs n K T c len L (a + 1)).2 := by
  obtain ⟨⟨-, h2c, h20⟩, -, hws⟩ := hw
  have hb := gs_b (L := L) (cnt := cnt) (c := c) (len := len) (fun i hi => (hM.2.2.2 i hi).2.2.2.1) (fun g hg => ⟨(hws g hg).2.2.1.2, hm g hg⟩) (F := L) (fun i hi => ⟨(hM.2.2.2 i hi).2.2.2.2.1, Int.le_refl _, (hM.2.2.2 i hi).2.2.2.2.2⟩)
  have lp : ∀ (fuel i : Nat) (T1 : wPS) (t : Int32), i ≤ cnt → cnt < i + fuel → RV n S T1 o (gs n K T c len L i).1 → (a < i → t.toInt = (gs n K T c len L (a + 1)).2) → ∃ (V : wPS) (t' z : Int32), f_X12_doneAt_L42 S0 o (nI a) S17 z18 fuel T1 t (0 : Int32) (nI i) = (V, t', (0 : Int32), z) ∧ SV S V o ∧ t'.toInt = (gs n K T c len L (a + 1)).2 := by
    intro fuel
    induction fuel with
    | zero => intro i T1 t h1 h2; omega
    | succ fuel ih =>
      intro i T1 t h1 h2 hT ht
      have ei : (nI i).toInt = (i : Int) := nI_toInt (by omega)
      have ea : (nI a).toInt = (a : Int) := nI_toInt (by omega)
      have uc : (f_Jx4a65c_size_8abf5 T1 (S0.f o 0)).toInt = (cnt : Int) := by
        show (T1.I (S0.f o 0) 2).toInt = _
        rw [hS0, hT.1.1.2.2]; exact h2c
      rw [f_X12_doneAt_L42_s]
      by_cases hi : cnt = i
      · rw [if_pos (Int32.le_iff_toInt_le.mpr (by omega))]
        exact ⟨T1, t, nI i, rfl, hT.1, ht (by omega)⟩
      · have hlt : i < cnt := by omega
        rw [if_neg (fun q => by have := Int32.le_iff_toInt_le.mp q; omega), rf_ga hT.1 (by omega), nI_s (by omega)]
        obtain ⟨-, b2⟩ := hb i (by omega)
        obtain ⟨V, r, e, v1, v2⟩ := gt_ok (L := L) hM (hws i hlt).2 (hm i hlt) b2 (by omega) hT
        dsimp only [l1]
        rw [e]
        show ∃ (V' : wPS) (t' z : Int32), (if (0 : Int32) = (0 : Int32) then if r = (-1 : Int32) then if nI i = nI a then f_X12_doneAt_L42 S0 o (nI a) S17 z18 fuel V r (1 : Int32) (nI (i + 1)) else f_X12_doneAt_L42 S0 o (nI a) S17 z18 fuel V t (1 : Int32) (nI (i + 1)) else if nI i = nI a then f_X12_doneAt_L42 S0 o (nI a) S17 z18 fuel V r (0 : Int32) (nI (i + 1)) else f_X12_doneAt_L42 S0 o (nI a) S17 z18 fuel V t (0 : Int32) (nI (i + 1)) else if nI i = nI a then f_X12_doneAt_L42 S0 o (nI a) S17 z18 fuel V r (1 : Int32) (nI (i + 1)) else f_X12_doneAt_L42 S0 o (nI a) S17 z18 fuel V t (1 : Int32) (nI (i + 1))) = (V', t', (0 : Int32), z) ∧ _
        obtain ⟨⟨n0, -⟩, -⟩ := hb (i + 1) (by omega)
        have v2' : r.toInt = (gs n K T c len L (i + 1)).2 := v2
        have c2 : ¬ r = (-1 : Int32) := fun z => by rw [z] at v2'; have m1 : (-1 : Int32).toInt = -1 := rfl; omega
        rw [if_pos rfl, if_neg c2]
        by_cases c3 : i = a
        · subst c3
          rw [if_pos rfl]
          exact ih (i + 1) V r (by omega) (by omega) v1 (fun _ => v2')
        · rw [if_neg (fun z => by rw [z] at ei; omega)]
          exact ih (i + 1) V t (by omega) (by omega) v1 (fun q => ht (by omega))
  exact lp 42 0 T0 (0 : Int32) (by omega) (by omega) h0 (fun q => absurd q (by omega))
theorem CV.A {n o2 : Nat} {S U : wPS} {F : Nat → Int} (h : CV n S U o2 F) {x k : Nat} (a : isA S x k) : isA U x k := by
  unfold isA at a ⊢; rw [h.2.1.1, h.2.1.2.1, h.2.1.2.2]; exact a
theorem CV.I {n o2 : Nat} {S U : wPS} {F : Nat → Int} (h : CV n S U o2 F) {x k : Nat} (j : Nat) (a : isA S x k) (hk : k ≠ 7) : U.I x j = S.I x j := h.2.2.1 x j (fun z => hk (by rw [← a.2.1]; exact z.2))
theorem R58.view {n o2 o : Nat} {S U : wPS} {F : Nat → Int} (h : CV n S U o2 F) (hn : (n : Int) = (S.I o2 5).toInt) (hF : ∀ i, i < n → 0 ≤ F i ∧ F i ≤ 30000) (m : R58 o2 S o) : R58 o2 U o := by
  obtain ⟨hA2, ⟨⟨e5, a5⟩, ⟨e6, a6⟩, ⟨e7, a7⟩, e8, a8⟩, mg, mz, md⟩ := m
  have f' := h.q.1
  have q' := h.q.2
  have I5 : U.I o2 5 = S.I o2 5 := h.I 5 hA2 (by decide)
  refine ⟨h.A hA2, ⟨⟨by rw [h.1.1, f']; exact e5, by rw [f']; exact h.A a5⟩, ⟨by rw [h.1.1, f']; exact e6, by rw [f']; exact h.A a6⟩, ⟨by rw [h.1.1, f']; exact e7, by rw [f']; exact h.A a7⟩, by rw [h.1.1, f']; exact e8, by rw [f']; exact h.A a8⟩, fun i hi => ?_, fun i hi => ?_, fun i j hi hj hn => ?_⟩
  · rw [I5] at hi
    obtain ⟨ga, p0, p1, p2, r1, r2, -⟩ := mg i hi
    have i3 := h.2.2.2 i (by omega)
    have b3 := hF i (by omega)
    simp only [f', q', h.1.2.2]
    rw [h.2.2.1 (S.q (S.f o2 4) i) 0 (fun z => absurd z.1 (by decide)), h.2.2.1 (S.q (S.f o2 4) i) 1 (fun z => absurd z.1 (by decide)), h.2.2.1 (S.q (S.f o2 4) i) 2 (fun z => absurd z.1 (by decide)), i3]
    exact ⟨h.A ga, p0, p1, p2, r1, r2, b3.1, b3.2⟩
  · rw [I5] at hi
    simp only [f', h.1.2.2]
    exact mz i hi
  · rw [I5] at hi hj
    simp only [f', q']
    exact md i j hi hj hn
theorem R58.mc {n o2 o : Nat} {S : wPS} (hn : (n : Int) = (S.I o2 5).toInt) (h6 : n ≤ 6) (m : R58 o2 S o) : MC n S o2 (S.i (S.f o 5)) (fun i => (S.i (S.f o 6) i).toInt) ∧ ∀ i, i < n → ((S.I (S.q (S.f o2 4) i) 2).toInt = (S.i (S.f o 7) i).toInt ∧ 0 ≤ (S.i (S.f o 7) i).toInt ∧ (S.i (S.f o 7) i).toInt ≤ 9999) ∧ 0 ≤ (S.I (S.q (S.f o2 4) i) 3).toInt ∧ (S.I (S.q (S.f o2 4) i) 3).toInt ≤ 30000 := by
  obtain ⟨hA2, -, mg, -, md⟩ := m
  refine ⟨⟨hA2, hn.symm, h6, fun i hi => ?_, fun i j hi hj hne => md i j (by omega) (by omega) hne⟩, fun i hi => ?_⟩
  · obtain ⟨ga, p0, p1, p2, r1, r2, -⟩ := mg i (by omega)
    exact ⟨ga, p0, by rw [p1], by rw [p1] at r1; exact r1⟩
  · obtain ⟨ga, p0, p1, p2, r1, r2, r3⟩ := mg i (by omega)
    exact ⟨⟨by rw [p2], by rw [p2] at r2; exact r2⟩, r3⟩
theorem R58.mr {n o2 o : Nat} {S : wPS} (hn : (n : Int) = (S.I o2 5).toInt) (h6 : n ≤ 6) (h19 : S.I o2 5 = S.I o 19) (hA : isA S o 12) (m : R58 o2 S o) : MR n S o (S.i (S.f o 5)) (fun i => (S.i (S.f o 6) i).toInt) (fun i => (S.i (S.f o 7) i).toInt) := by
  obtain ⟨hA2, ⟨⟨e5, a5⟩, ⟨e6, a6⟩, ⟨e7, a7⟩, e8, a8⟩, mg, -, -⟩ := m
  refine ⟨hA, ⟨by rw [← h19]; exact hn.symm, h6⟩, ⟨a5, a6, a7, a8⟩, fun i hi => ?_⟩
  obtain ⟨ga, p0, p1, p2, r1, r2, -⟩ := mg i (by omega)
  rw [p1] at r1
  rw [p2] at r2
  exact ⟨rfl, rfl, rfl, r1, r2⟩
theorem MR.view {n o o2 : Nat} {S U : wPS} {K : Nat → Int32} {T L F : Nat → Int} (h : CV n S U o2 F) (m : MR n S o K T L) : MR n U o K T L := by
  obtain ⟨hA, ⟨c1, c2⟩, ⟨a5, a6, a7, a8⟩, hm⟩ := m
  refine ⟨h.A hA, ⟨by rw [h.I 19 hA (by decide)]; exact c1, c2⟩, ⟨by rw [h.q.1]; exact h.A a5, by rw [h.q.1]; exact h.A a6, by rw [h.q.1]; exact h.A a7, by rw [h.q.1]; exact h.A a8⟩, fun i hi => ?_⟩
  simp only [h.q.1, h.1.2.2]
  exact hm i hi
theorem WS2.view {n cnt o o2 : Nat} {S U : wPS} {F : Nat → Int} {len : Nat → Nat} {c : Nat → Nat → Int32} (h : CV n S U o2 F) (hl : isA S (S.f o 0) 14) (m : WS2 cnt S o2 o len c) : WS2 cnt U o2 o len c := by
  obtain ⟨⟨c1, c2, c3⟩, h9, hw⟩ := m
  refine ⟨⟨by rw [h.I 1 h9 (by decide)]; exact c1, by rw [h.q.1, h.I 2 hl (by decide)]; exact c2, c3⟩, h.A h9, fun i hi => ?_⟩
  obtain ⟨⟨w1, w2, w3, w4, w5⟩, b1, ⟨b2, b3⟩, b4, b5⟩ := hw i hi
  simp only [h.q.1, h.q.2]
  refine ⟨⟨h.A w1, by rw [h.I 3 w1 (by decide)]; exact w2, w3, by rw [h.I 1 w1 (by decide)]; exact w4, fun k hk => ?_⟩, h.A b1, ⟨by rw [h.I 17 b1 (by decide)]; exact b2, b3⟩, by rw [h.q.1]; exact h.A b4, fun k hk => ?_⟩
  · rw [h.q.1, h.1.2.2]; exact w5 k hk
  · rw [h.q.1, h.1.2.2]; exact b5 k hk
theorem RLT.ws {cnt o2 o : Nat} {S : wPS} (hW : wtB S []) (hc : (cnt : Int) = (S.I o2 1).toInt) (h20 : cnt ≤ 20) (m : RLT o2 S o) : WS2 cnt S o2 o (fun i => (S.I (S.q (S.f (S.f o 0) 1) i) 17).toNatClampNeg) (fun i k => S.i (S.f (S.q (S.f (S.f o 0) 1) i) 6) k) := by
  obtain ⟨⟨m1, my, -⟩, ml, -⟩ := m
  refine ⟨⟨hc.symm, by rw [← m1.2.2.1]; exact hc.symm, h20⟩, m1.1, fun i hi => ?_⟩
  have hi' : (i : Int) < (S.I o2 1).toInt := by omega
  obtain ⟨ga, gb, -⟩ := m1.2.2.2.1 i hi'
  obtain ⟨e6, w13, p⟩ := my i hi'
  have kb := (hW.at gb List.not_mem_nil).to_10 gb.2.1
  have kw := (hW.at w13 List.not_mem_nil).to_13 w13.2.1
  have R17 := kb.R17
  have R1 := kw.R1
  have cl := cl_int (i := S.I (S.q (S.f (S.f o 0) 1) i) 17) R17.1
  have z0 : (0 : Int32).toInt = 0 := rfl
  have l8 : (S.I (S.q (S.f (S.f o 0) 1) i) 17).toNatClampNeg ≤ 8 := by omega
  refine ⟨⟨w13, by rw [p]; exact cl.symm, l8, Int32.toInt_inj.mp (by omega), fun k hk => ?_⟩, gb, ⟨cl.symm, l8⟩, kb.F6.2.1, fun k _ => rfl⟩
  have hk' : k < (S.I (S.q (S.f (S.f o 0) 1) i) 17).toNatClampNeg := hk
  exact ml i k hi' (by omega)
theorem eq_doneAt {S S4 S16 : wPS} {o1 o2 : Nat} {y1 r3 r20 : Int32} {r12 : Int32} {fo f5 : Nat → Int64} (mR55 : R55 o2 S o1) (mRLT : RLT o2 S o1) (mR58 : R58 o2 S o1) (hA : isA S o1 12) (hW : wtB S []) (hw : stp [(7, 3)] [] [] S S4) (hm : stp [(12, 15), (36, 100)] [] [] S4 S16) (h : (∃ v, f_X9_doneAt S o2 y1 = .ok (v, S4) ∧ r3 = 0 ∧ f5 = vp_updL fo (0 : Int32).toNatClampNeg (v.toInt64)) ∨ (∃ E, f_X9_doneAt S o2 y1 = .error E ∧ r3 = wc_doneAt E ∧ f5 = fo ∧ S4 = S)) (h2 : (r12, S16) = f_X12_doneAt S4 o1 y1) (h3 : r20 = f_X12_thrown S16 o1) : (r20 = r3 ∧ (r3 = 0 → f5 (0 : Int32).toNatClampNeg = r12.toInt64)) ∧ R58 o2 S16 o1 := by
  have ok : ∀ v z U T, f_X9_doneAt S o2 y1 = .ok (v, U) → f_X12_doneAt U o1 y1 = (z, T) → T.I o1 15 = 0 → ((v.toInt64) : Int64) = z.toInt64 → (R58 o2 T o1) → (r20 = r3 ∧ (r3 = 0 → f5 (0 : Int32).toNatClampNeg = r12.toInt64)) ∧ R58 o2 S16 o1 := fun v z U T e1 e2 e3 e4 e5 => by
    rcases h with ⟨w, g, g2, g3⟩ | ⟨E, g, -⟩
    · rw [e1] at g
      obtain ⟨rfl, rfl⟩ := Prod.mk.inj (Except.ok.inj g)
      rw [e2] at h2
      obtain ⟨rfl, rfl⟩ := Prod.mk.inj h2
      exact ⟨⟨(h3.trans e3).trans g2.symm, fun _ => by rw [g3, ← e4]; simp [vp_updL]⟩, e5⟩
    · rw [e1] at g; cases g
  have er : ∀ E n z, f_X9_doneAt S o2 y1 = .error E → wc_doneAt E = n → ¬ n = 0 → f_X12_doneAt S o1 y1 = (z, S.sI o1 15 n) → (r20 = r3 ∧ (r3 = 0 → f5 (0 : Int32).toNatClampNeg = r12.toInt64)) ∧ R58 o2 S16 o1 := fun E n z e1 e2 e3 e4 => by
    rcases h with ⟨w, g, -⟩ | ⟨E2, g, g2, g3, g4⟩
    · rw [e1] at g; cases g
    · rw [e1] at g; cases g
      rw [g4, e4] at h2
      obtain ⟨rfl, rfl⟩ := Prod.mk.inj h2
      have t20 : r20 = n := h3.trans sI_eq
      have t3 : r3 = n := g2.trans e2
      exact ⟨⟨t20.trans t3.symm, fun q => absurd (t3.symm.trans q) e3⟩, R58.sI hA mR58⟩
  have k9 := (hW.at mR58.1 List.not_mem_nil).to_9 mR58.1.2.1
  have R1 := k9.R1
  have R5 := k9.R5
  obtain ⟨cnt, ec⟩ : ∃ z : Nat, (z : Int) = (S.I o2 1).toInt := ⟨_, cl_int R1.1⟩
  obtain ⟨n, en⟩ : ∃ z : Nat, (z : Int) = (S.I o2 5).toInt := ⟨_, cl_int R5.1⟩
  have h20 : cnt ≤ 20 := by omega
  have h6 : n ≤ 6 := by omega
  have hWS := RLT.ws hW ec h20 mRLT
  obtain ⟨hMC, hst⟩ := R58.mc en h6 mR58
  have hMR := R58.mr en h6 mR55.2 hA mR58
  obtain ⟨K, eK⟩ : ∃ z, S.i (S.f o1 5) = z := ⟨_, rfl⟩
  obtain ⟨T, eT⟩ : ∃ z : Nat → Int, (fun i => (S.i (S.f o1 6) i).toInt) = z := ⟨_, rfl⟩
  obtain ⟨L, eL⟩ : ∃ z : Nat → Int, (fun i => (S.i (S.f o1 7) i).toInt) = z := ⟨_, rfl⟩
  obtain ⟨len, el⟩ : ∃ z : Nat → Nat, (fun i => (S.I (S.q (S.f (S.f o1 0) 1) i) 17).toNatClampNeg) = z := ⟨_, rfl⟩
  obtain ⟨c, el2⟩ : ∃ z : Nat → Nat → Int32, (fun i k => S.i (S.f (S.q (S.f (S.f o1 0) 1) i) 6) k) = z := ⟨_, rfl⟩
  have eLi : ∀ i, (S.i (S.f o1 7) i).toInt = L i := fun i => congrFun eL i
  rw [eK, eT] at hMC hMR
  rw [eL] at hMR
  rw [el, el2] at hWS
  have hl : ∀ i, i < n → (S.I (S.q (S.f o2 4) i) 2).toInt = L i := fun i hi => by rw [← eLi]; exact (hst i hi).1.1
  have hL : ∀ i, i < n → 0 ≤ L i ∧ L i ≤ 9999 := fun i hi => by rw [← eLi]; exact (hst i hi).1.2
  have m4 : S4 = S → R58 o2 S16 o1 := fun e => R58.keep hm hw.1 (hw.x.A hA) (by decide) trivial (by rw [e]; exact mR58)
  rcases ga_cases y1 mRLT.1.1 hW hA with ⟨a, ag, bg, hy, hi, c1, c2, c3, ea, eb, g⟩ | ⟨c1, c2⟩
  · have hr : S.I ag 0 = nI a := g.2.2
    have ha : a < cnt := by omega
    rcases nm_ok (F := fun i => (S.I (S.q (S.f o2 4) i) 3).toInt) hMC hWS (fun i hi => ⟨rfl, (hst i hi).2⟩) with ⟨nm, hmm⟩ | ⟨nm, hno⟩
    · obtain ⟨V1, z1, e12, cv1⟩ := dn_12 (x := y1) (r := ag) hMC hl
      obtain ⟨V, t, z2, e49, cv2, ht⟩ := dn_49 (S29 := V1) (z30 := z1) (x := y1) hMC hWS hmm hL ha hr cv1
      have cls : f_X9_doneAt S o2 y1 = .ok (t, V) := by
        unfold f_X9_doneAt
        rw [eB_ok c1, eB_ok nm, e12]
        dsimp only [l2]
        rw [e49]; rfl
      rcases h with ⟨w, g1, g2, g3⟩ | ⟨E, g1, -⟩
      · rw [cls] at g1
        obtain ⟨et, eV⟩ := Prod.mk.inj (Except.ok.inj g1)
        rw [eV] at cv2
        have hb := gs_b (L := L) (cnt := cnt) (c := c) (len := len) (K := K) (T := T) (n := n) (fun i hi => (hMC.2.2.2.1 i hi).2.2.2) (fun g hg => ⟨(hWS.2.2 g hg).1.2.2.1, hmm g hg⟩) (F := L) (fun i hi => ⟨(hL i hi).1, Int.le_refl _, (hL i hi).2⟩) (a + 1) (by omega)
        have m9 : R58 o2 S4 o1 := R58.view cv2 en (fun i hi => by
          obtain ⟨b1, b2, b3⟩ := hb.2 i hi
          exact ⟨b1, by omega⟩) mR58
        refine ⟨?_, R58.keep hm hw.1 (hw.x.A hA) (by decide) trivial m9⟩
        have l14 : isA S (S.f o1 0) 14 := mRLT.1.1.2.1.2.1
        have MR4 := MR.view cv2 hMR
        have WS4 := WS2.view cv2 l14 hWS
        obtain ⟨T1, z3, e16, sv1, z16⟩ := rf_16 (S := S4) (o := o1) (x := y1)
        have L4 : ∀ i, (S4.i (S4.f o1 7) i).toInt = L i := fun i => by rw [cv2.q.1, cv2.1.2.2]; exact eLi i
        have rv1 : RV n S4 T1 o1 L := ⟨sv1, fun i hi => by
          have hLi := hL i hi
          rw [z16 i (by omega), L4]
          show (if (0 : Int) < L i then L i else 0) = L i
          by_cases q : (0 : Int) < L i
          · rw [if_pos q]
          · rw [if_neg q]; omega⟩
        obtain ⟨T2, t2, z4, e42, sv2, ht2⟩ := rf_ok (S0 := S4) (S17 := T1) (z18 := z3) MR4 WS4 rfl hmm ha rv1
        have ig : f_X12_isGear S4 o1 y1 = f_X12_isGear S o1 y1 := by
          show f_X12_in y1.toInt64 0 ((S4.I (S4.f o1 0) 2 - (1 : Int32)).toInt64) = f_X12_in y1.toInt64 0 ((S.I (S.f o1 0) 2 - (1 : Int32)).toInt64)
          rw [cv2.q.1, cv2.I 2 l14 (by decide)]
        have ref : f_X12_doneAt S4 o1 y1 = (t2, T2.sI o1 15 0) := by
          unfold f_X12_doneAt
          rw [ig, if_neg c2, e16]
          dsimp only [l2]
          rw [← hy] at e42
          rw [e42]
          first | rfl | (dsimp only [l4, l2]; first | rfl | (rw [if_pos rfl]; rfl))
        rw [ref] at h2
        obtain ⟨h8, h9⟩ := Prod.mk.inj h2
        have t20 : r20 = 0 := by rw [h3, h9]; exact sI_eq
        have e9 : w = t2 := by rw [← et]; exact Int32.toInt_inj.mp (by rw [ht, ht2])
        exact ⟨t20.trans g2.symm, fun _ => by rw [g3, h8, e9]; simp [vp_updL]⟩
      · rw [cls] at g1; cases g1
    · have cls : f_X9_doneAt S o2 y1 = .error "java/util/NoSuchElementException" := by
        unfold f_X9_doneAt
        rw [eB_ok c1]; exact eB_er nm
      rcases h with ⟨w, g1, -⟩ | ⟨E, g1, g2, g3, g4⟩
      · rw [cls] at g1; cases g1
      · rw [cls] at g1; cases g1
        refine ⟨?_, m4 g4⟩
        rw [g4] at h2
        obtain ⟨T1, z3, e16, sv1, z16⟩ := rf_16 (S := S) (o := o1) (x := y1)
        obtain ⟨T2, t2, f2, z4, e42, sv2, hf2⟩ := rf_no (S0 := S) (S17 := T1) (z18 := z3) (x := y1) hMR hWS rfl hno sv1
        have ref : f_X12_doneAt S o1 y1 = (0, T2.sI o1 15 2) := by
          unfold f_X12_doneAt
          rw [if_neg c2, e16]
          dsimp only [l2]
          rw [e42]
          dsimp only [l4]
          rw [if_neg hf2]; rfl
        rw [ref] at h2
        obtain ⟨h8, h9⟩ := Prod.mk.inj h2
        have t20 : r20 = 2 := by rw [h3, h9]; exact sI_eq
        have t3 : r3 = 2 := g2.trans (by decide +kernel)
        exact ⟨t20.trans t3.symm, fun q => absurd (t3.symm.trans q) (by decide)⟩
  · refine er "java/lang/IndexOutOfBoundsException" 1 0 ?_ (by decide +kernel) (by decide) ?_
    · unfold f_X9_doneAt; exact eB_er c1
    · unfold f_X12_doneAt; rw [if_pos c2]; rfl
/-! machine: the same kinds, the same times, the same number -/
theorem kd_eq (x : Int32) : (f_X9_needKind x = .ok () ∧ f_X12_isKind x = 1) ∨ (f_X9_needKind x = .error "java/lang/IllegalArgumentException" ∧ f_X12_isKind x = 0) := by
  unfold f_X9_needKind f_X12_isKind
  by_cases a : x = (104 : Int32)
  · rw [if_pos a, if_pos a]; exact Or.inl ⟨rfl, rfl⟩
  rw [if_neg a, if_neg a]
  by_cases a : x = (102 : Int32)
  · rw [if_pos a, if_pos a]; exact Or.inl ⟨rfl, rfl⟩
  rw [if_neg a, if_neg a]
  by_cases a : x = (103 : Int32)
  · rw [if_pos a, if_pos a]; exact Or.inl ⟨rfl, rfl⟩
  rw [if_neg a, if_neg a]
  by_cases a : x = (99 : Int32)
  · rw [if_pos a, if_pos a]; exact Or.inl ⟨rfl, rfl⟩
  rw [if_neg a, if_neg a]
  exact Or.inr ⟨rfl, rfl⟩
theorem add_sub1 (x : Int32) : x + (1 : Int32) - (1 : Int32) = x := Int32.add_sub_cancel x 1
theorem eq_machine {S S4 S16 : wPS} {o1 o2 : Nat} {y1 y2 r3 r12 r20 : Int32} {fo f5 : Nat → Int64} (hR : R55 o2 S o1) (hA : isA S o1 12) (hW : wtB S []) (hw : stp [(9, 5), (21, 101)] [] [] S S4) (hm : stp [(12, 15), (12, 19), (34, 100), (38, 100)] [] [] S4 S16) (h : (∃ v, f_X9_machine S o2 y1 y2 = .ok v ∧ r3 = 0 ∧ f5 = vp_updL fo (0 : Int32).toNatClampNeg (v.toInt64) ∧ (S4.I o2 5).toInt = (S.I o2 5).toInt + 1) ∨ (∃ E, f_X9_machine S o2 y1 y2 = .error E ∧ r3 = wc_machine E ∧ f5 = fo ∧ S4 = S)) (h2 : (r12, S16) = f_X12_machine S4 o1 y1 y2) (h3 : r20 = f_X12_thrown S16 o1) : (r20 = r3 ∧ (r3 = 0 → f5 (0 : Int32).toNatClampNeg = r12.toInt64)) ∧ R55 o2 S16 o1 := by
  obtain ⟨hA2, m1⟩ := hR
  have hne : o1 ≠ o2 := fun e => by
    have k1 := hA.2.1; rw [e, hA2.2.1] at k1; exact absurd k1 (by decide)
  have q19 : S4.I o1 19 = S.I o1 19 := ((hw.fR o1 hA.1 List.not_mem_nil).1 19 (by rw [hA.2.1]; decide)).1
  have q5 : S16.I o2 5 = S4.I o2 5 := ((hm.fR o2 (hw.x.A hA2).1 List.not_mem_nil).1 5 (by rw [(hw.x.A hA2).2.1]; decide)).1
  have r5 := ((hW.at hA2 List.not_mem_nil).to_9 hA2.2.1).R5
  have hAs : isA S16 o2 9 := hm.x.A (hw.x.A hA2)
  have l6 : (6 : Int32).toInt = 6 := rfl
  have a1 : (1 : Int32).toInt = 1 := rfl
  have a99 : (99 : Int32).toInt = 99 := rfl
  have bad : ∀ (E : String) (n : Int32), f_X9_machine S o2 y1 y2 = .error E → wc_machine E = n → n ≠ 0 → f_X12_machine S4 o1 y1 y2 = (0, S4.sI o1 15 n) → (r20 = r3 ∧ (r3 = 0 → f5 (0 : Int32).toNatClampNeg = r12.toInt64)) ∧ R55 o2 S16 o1 := by
    intro E n e1 e2 e3 e4
    rcases h with ⟨v, g, -, -, -⟩ | ⟨E2, g, g2, g3, g4⟩
    · rw [e1] at g; cases g
    · rw [e1] at g; cases g
      rw [e4] at h2
      have h9 := (Prod.mk.inj h2).2
      have h4 : r20 = n := by rw [h3, h9]; exact sI_eq
      have h5 : r3 = n := g2.trans e2
      refine ⟨⟨h4.trans h5.symm, fun q => absurd (h5.symm.trans q) e3⟩, hAs, ?_⟩
      rw [h9, sI_no hne.symm, sI_ne (by decide), g4]; exact m1
  rcases kd_eq y1 with ⟨k1, k2⟩ | ⟨k1, k2⟩
  · by_cases c2 : 1 ≤ y2.toInt ∧ y2.toInt ≤ 99
    · by_cases c3 : (S.I o2 5).toInt < 6
      · have e1 : f_X9_machine S o2 y1 y2 = .ok (S.I o2 5) := by
          unfold f_X9_machine
          rw [eB_ok k1, eB_ok (rng_ok (by rw [a1, a99]; exact c2)), if_pos (Int32.lt_iff_toInt_lt.mpr (by rw [l6]; exact c3))]
        have n6 : ¬ S4.I o1 19 = (6 : Int32) := fun q => by
          rw [q19, ← m1] at q; rw [q, l6] at c3; exact absurd c3 (by decide)
        have e2 : ∃ T : wPS, T.I = S4.I ∧ f_X12_machine S4 o1 y1 y2 = ((T.sI o1 19 (T.I o1 19 + (1 : Int32))).I o1 19 - (1 : Int32), (T.sI o1 19 (T.I o1 19 + (1 : Int32))).sI o1 15 0) := by
          unfold f_X12_machine
          rw [k2, li64 (a := 1) (b := 99) rfl rfl c2, if_neg (by decide), if_neg (by decide), if_neg n6]
          refine ⟨(S4.si (S4.f o1 5) _).si (S4.f o1 6) _, ?_, rfl⟩
          rfl
        obtain ⟨T, hT, e2⟩ := e2
        rcases h with ⟨v, g, g2, g3, g4⟩ | ⟨E, g, -⟩
        · rw [e1] at g; cases g
          rw [e2, hT, sI_eq, add_sub1] at h2
          obtain ⟨rfl, h9⟩ := Prod.mk.inj h2
          refine ⟨⟨(by rw [h3, h9]; exact sI_eq : r20 = 0).trans g2.symm, fun _ => ?_⟩, hAs, ?_⟩
          · rw [g3, q19, ← m1]; simp [vp_updL]
          · have h8 : S16.I o1 19 = S4.I o1 19 + (1 : Int32) := by rw [h9, sI_ne (by decide), sI_eq]
            rw [h8, q5, q19, ← m1]
            refine Int32.toInt_inj.mp ?_
            rw [g4, t_addr (x := S.I o2 5) (n := 1) rfl (by omega)]
        · rw [e1] at g; cases g
      · refine bad "java/lang/IllegalStateException" 2 ?_ ?_ (by decide) ?_
        · unfold f_X9_machine
          rw [eB_ok k1, eB_ok (rng_ok (by rw [a1, a99]; exact c2)), if_neg (fun q => c3 (by have := Int32.lt_iff_toInt_lt.mp q; rw [l6] at this; exact this))]
        · exact (if_neg (by decide)).trans (if_pos rfl)
        · have n6 : S4.I o1 19 = (6 : Int32) := by
            rw [q19, ← m1]; refine Int32.toInt_inj.mp ?_; rw [l6]; omega
          unfold f_X12_machine
          rw [k2, li64 (a := 1) (b := 99) rfl rfl c2, if_neg (by decide), if_neg (by decide), if_pos n6]
          rfl
    · refine bad "java/lang/IllegalArgumentException" 1 ?_ (if_pos rfl) (by decide) ?_
      · unfold f_X9_machine
        rw [eB_ok k1]
        exact eB_er (rng_er (by rw [a1, a99]; exact c2))
      · unfold f_X12_machine
        rw [k2, li64n (a := 1) (b := 99) rfl rfl c2, if_neg (by decide), if_pos rfl]
        rfl
  · refine bad "java/lang/IllegalArgumentException" 1 ?_ (if_pos rfl) (by decide) ?_
    · unfold f_X9_machine
      exact eB_er k1
    · unfold f_X12_machine
      rw [k2, if_pos rfl]
      rfl
theorem nar_kd {y : Int32} (h : f_X9_needKind y = .ok ()) : vp_nar .char y = y ∧ vp_nar .byte y.toInt8.toInt32 = y ∧ 0 ≤ y.toInt ∧ y.toInt ≤ 127 := by
  rcases nk_i h with e | e | e | e <;> subst e <;> exact ⟨rfl, rfl, by decide, by decide⟩
theorem R58.machine {S S4 S16 : wPS} {o1 o2 : Nat} {y1 y2 r3 r12 : Int32} {fo f5 : Nat → Int64} (m : R58 o2 S o1) (m5 : R55 o2 S o1) (hA : isA S o1 12) (hW : wtB S []) (hw : stp [(9, 5), (21, 101)] [] [] S S4) (hm : stp [(12, 15), (12, 19), (34, 100), (38, 100)] [] [] S4 S16) (h : (∃ v, f_X9_machine S o2 y1 y2 = .ok v ∧ r3 = 0 ∧ f5 = vp_updL fo (0 : Int32).toNatClampNeg (v.toInt64) ∧ (S4.I o2 5).toInt = (S.I o2 5).toInt + 1 ∧ ∃ g : Nat, g ∉ S.L ∧ isA S4 g 7 ∧ S4.r (S.f o2 4) (S.I o2 5).toNatClampNeg = some g ∧ (∀ i : Nat, i ≠ (S.I o2 5).toNatClampNeg → S4.r (S.f o2 4) i = S.r (S.f o2 4) i) ∧ S4.I g 0 = y1 ∧ S4.I g 1 = y2 ∧ S4.I g 2 = (0 : Int32) ∧ S4.I g 3 = (0 : Int32)) ∨ (∃ E, f_X9_machine S o2 y1 y2 = .error E ∧ r3 = wc_machine E ∧ f5 = fo ∧ S4 = S)) (h2 : (r12, S16) = f_X12_machine S4 o1 y1 y2) : R58 o2 S16 o1 := by
  have l6 : (6 : Int32).toInt = 6 := rfl
  have a1 : (1 : Int32).toInt = 1 := rfl
  have a99 : (99 : Int32).toInt = 99 := rfl
  have z0 : (0 : Int32).toInt = 0 := rfl
  have r5 := ((hW.at m.1 List.not_mem_nil).to_9 m.1.2.1).R5
  have q19 : S4.I o1 19 = S.I o1 19 := ((hw.fR o1 hA.1 List.not_mem_nil).1 19 (by rw [hA.2.1]; decide)).1
  have m1 := m5.2
  have bad : ∀ (E : String) (n : Int32), f_X9_machine S o2 y1 y2 = .error E → f_X12_machine S4 o1 y1 y2 = (0, S4.sI o1 15 n) → R58 o2 S16 o1 := fun E n e1 e2 => by
    rcases h with ⟨v, g, -⟩ | ⟨E2, g, -, -, g4⟩
    · rw [e1] at g; cases g
    · rw [e2] at h2
      obtain ⟨-, rfl⟩ := Prod.mk.inj h2
      rw [g4]; exact R58.sI hA m
  rcases kd_eq y1 with ⟨k1, k2⟩ | ⟨k1, k2⟩
  · by_cases c2 : 1 ≤ y2.toInt ∧ y2.toInt ≤ 99
    · by_cases c3 : (S.I o2 5).toInt < 6
      · have e1 : f_X9_machine S o2 y1 y2 = .ok (S.I o2 5) := by
          unfold f_X9_machine
          rw [eB_ok k1, eB_ok (rng_ok (by rw [a1, a99]; exact c2)), if_pos (Int32.lt_iff_toInt_lt.mpr (by rw [l6]; exact c3))]
        have n6 : ¬ S4.I o1 19 = (6 : Int32) := fun q => by
          rw [q19, ← m1] at q; rw [q, l6] at c3; exact absurd c3 (by decide)
        have e2 : ∃ z, f_X12_machine S4 o1 y1 y2 = (z, (((S4.si (S4.f o1 5) (upd (S4.i (S4.f o1 5)) (S4.I o1 19).toNatClampNeg (vp_nar .char y1))).si (S4.f o1 6) (upd ((S4.si (S4.f o1 5) (upd (S4.i (S4.f o1 5)) (S4.I o1 19).toNatClampNeg (vp_nar .char y1))).i (S4.f o1 6)) (S4.I o1 19).toNatClampNeg y2)).sI o1 19 (S4.I o1 19 + (1 : Int32))).sI o1 15 0) := by
          unfold f_X12_machine
          rw [k2, li64 (a := 1) (b := 99) rfl rfl c2, if_neg (by decide), if_neg (by decide), if_neg n6]
          exact ⟨_, rfl⟩
        obtain ⟨z, e2⟩ := e2
        rcases h with ⟨v, g9, -, -, c4, g, ng, gA, gr, go, v0, v1, v2, v3⟩ | ⟨E, g9, -⟩
        · rw [e2] at h2
          obtain ⟨-, rfl⟩ := Prod.mk.inj h2
          obtain ⟨hA2, ⟨⟨e5, a5⟩, ⟨e6, a6⟩, ⟨e7, a7⟩, e8, a8⟩, mg, mz, md⟩ := m
          have kne : ∀ {x y k l : Nat}, isA S x k → isA S y l → k ≠ l → ¬ x = y := fun hx hy hk q => hk (by rw [← hx.2.1, q]; exact hy.2.1)
          have x5 := hw.x.F hA (Or.inl (by decide)) e5
          have x6 := hw.x.F hA (Or.inl (by decide)) e6
          have x7 := hw.x.F hA (Or.inl (by decide)) e7
          have x8 := hw.x.F hA (Or.inl (by decide)) e8
          have f5 : S4.f o1 5 = S.f o1 5 := f_of x5
          have f6 : S4.f o1 6 = S.f o1 6 := f_of x6
          have f7 : S4.f o1 7 = S.f o1 7 := f_of x7
          have f8 : S4.f o1 8 = S.f o1 8 := f_of x8
          have i5 : S4.i (S.f o1 5) = S.i (S.f o1 5) := (hw.fR _ a5.1 List.not_mem_nil).2.1 (by rw [a5.2.1]; decide)
          have i6 : S4.i (S.f o1 6) = S.i (S.f o1 6) := (hw.fR _ a6.1 List.not_mem_nil).2.1 (by rw [a6.2.1]; decide)
          have i7 : S4.i (S.f o1 7) = S.i (S.f o1 7) := (hw.fR _ a7.1 List.not_mem_nil).2.1 (by rw [a7.2.1]; decide)
          have k9 := (hW.at hA2 List.not_mem_nil).to_9 hA2.2.1
          have fa : S4.f o2 4 = S.f o2 4 := f_of (hw.x.F hA2 (Or.inl (by decide)) k9.F4.1)
          have ck := cl_int (i := S.I o2 5) r5.1
          obtain ⟨K, hK⟩ : ∃ z, (S.I o2 5).toNatClampNeg = z := ⟨_, rfl⟩
          have k19 : (S4.I o1 19).toNatClampNeg = K := by rw [q19, ← m1]; exact hK
          rw [hK] at gr go ck
          obtain ⟨T, hT⟩ : ∃ z, (((S4.si (S4.f o1 5) (upd (S4.i (S4.f o1 5)) (S4.I o1 19).toNatClampNeg (vp_nar .char y1))).si (S4.f o1 6) (upd ((S4.si (S4.f o1 5) (upd (S4.i (S4.f o1 5)) (S4.I o1 19).toNatClampNeg (vp_nar .char y1))).i (S4.f o1 6)) (S4.I o1 19).toNatClampNeg y2)).sI o1 19 (S4.I o1 19 + (1 : Int32))).sI o1 15 0 = z := ⟨_, rfl⟩
          have TF : T.F = S4.F := by rw [← hT]; rfl
          have Tr : T.r = S4.r := by rw [← hT]; rfl
          have TA : ∀ {x k : Nat}, isA S4 x k → isA T x k := fun h => by rw [← hT]; exact h
          have Tf : ∀ x j, T.f x j = S4.f x j := fun x j => by unfold wPS.f; rw [TF]
          have Tq : ∀ x j, T.q x j = S4.q x j := fun x j => by unfold wPS.q; rw [Tr]
          have TI : ∀ x k : Nat, isA S4 x k → k ≠ 12 → T.I x = S4.I x := fun x k hx hk => by
            have ne : ¬ x = o1 := fun e => hk (by rw [← hx.2.1, e]; exact (hw.x.A hA).2.1)
            rw [← hT]; exact (sI_no ne).trans (sI_no ne)
          have n56 : ¬ S.f o1 5 = S.f o1 6 := kne a5 a6 (by decide)
          have n75 : ¬ S.f o1 7 = S.f o1 5 := kne a7 a5 (by decide)
          have n76 : ¬ S.f o1 7 = S.f o1 6 := kne a7 a6 (by decide)
          have T5 : T.i (S.f o1 5) = upd (S.i (S.f o1 5)) K y1 := by
            rw [← hT, f5, f6, k19, (nar_kd k1).1]
            show va_up (va_up S4.i (S.f o1 5) _) (S.f o1 6) _ (S.f o1 5) = _
            rw [up_nq n56, up_qq, i5]
          have T6 : T.i (S.f o1 6) = upd (S.i (S.f o1 6)) K y2 := by
            rw [← hT, f5, f6, k19]
            show va_up (va_up S4.i (S.f o1 5) _) (S.f o1 6) (upd (va_up S4.i (S.f o1 5) _ (S.f o1 6)) K y2) (S.f o1 6) = _
            rw [up_qq, up_nq (fun e => n56 e.symm), i6]
          have T7 : T.i (S.f o1 7) = S.i (S.f o1 7) := by
            rw [← hT, f5, f6]
            show va_up (va_up S4.i (S.f o1 5) _) (S.f o1 6) _ (S.f o1 7) = _
            rw [up_nq n76, up_nq n75, i7]
          rw [hT]
          have cI : T.I o2 5 = S4.I o2 5 := congrFun (TI _ _ (hw.x.A hA2) (by decide)) 5
          have qN : S4.q (S.f o2 4) K = g := q_of gr
          have qO : ∀ i, ¬ i = K → S4.q (S.f o2 4) i = S.q (S.f o2 4) i := fun i hi => by unfold wPS.q; rw [go i hi]
          refine ⟨TA (hw.x.A hA2), ⟨⟨by rw [TF, Tf, f5]; exact x5, by rw [Tf, f5]; exact TA (hw.x.A a5)⟩, ⟨by rw [TF, Tf, f6]; exact x6, by rw [Tf, f6]; exact TA (hw.x.A a6)⟩, ⟨by rw [TF, Tf, f7]; exact x7, by rw [Tf, f7]; exact TA (hw.x.A a7)⟩, by rw [TF, Tf, f8]; exact x8, by rw [Tf, f8]; exact TA (hw.x.A a8)⟩, fun i hi => ?_, fun i hi => ?_, fun i j hi hj hn => ?_⟩
          · rw [cI, c4] at hi
            simp only [Tf, Tq]
            rw [fa, f5, f6, f7, T5, T6, T7]
            unfold upd
            by_cases hik : i = K
            · rw [hik, qN, if_pos rfl, if_pos rfl, TI _ _ gA (by decide), v0, v1, v2, v3, mz K (by omega)]
              exact ⟨TA gA, rfl, rfl, rfl, c2, by decide, by decide⟩
            · obtain ⟨ga, p⟩ := mg i (by omega)
              have fr := (hw.fR _ ga.1 List.not_mem_nil).1
              rw [ga.2.1] at fr
              rw [qO i hik, if_neg hik, if_neg hik, TI _ _ (hw.x.A ga) (by decide), (fr 0 (by decide)).1, (fr 1 (by decide)).1, (fr 2 (by decide)).1, (fr 3 (by decide)).1]
              exact ⟨TA (hw.x.A ga), p⟩
          · rw [cI, c4] at hi
            rw [Tf, f7, T7]; exact mz i (by omega)
          · rw [cI, c4] at hi hj
            simp only [Tf, Tq]
            rw [fa]
            by_cases hik : i = K
            · rw [hik, qN, qO j (fun e => hn (hik.trans e.symm))]
              exact fun e => ng (by rw [e]; exact (mg j (by omega)).1.1)
            · by_cases hjk : j = K
              · rw [hjk, qN, qO i hik]
                exact fun e => ng (by rw [← e]; exact (mg i (by omega)).1.1)
              · rw [qO i hik, qO j hjk]
                exact md i j (by omega) (by omega) hn
        · rw [e1] at g9; cases g9
      · refine bad "java/lang/IllegalStateException" 2 ?_ ?_
        · unfold f_X9_machine
          rw [eB_ok k1, eB_ok (rng_ok (by rw [a1, a99]; exact c2)), if_neg (fun q => c3 (by have := Int32.lt_iff_toInt_lt.mp q; rw [l6] at this; exact this))]
        · have n6 : S4.I o1 19 = (6 : Int32) := by
            rw [q19, ← m1]; refine Int32.toInt_inj.mp ?_; rw [l6]; omega
          unfold f_X12_machine
          rw [k2, li64 (a := 1) (b := 99) rfl rfl c2, if_neg (by decide), if_neg (by decide), if_pos n6]
          rfl
    · refine bad "java/lang/IllegalArgumentException" 1 ?_ ?_
      · unfold f_X9_machine
        rw [eB_ok k1]
        exact eB_er (rng_er (by rw [a1, a99]; exact c2))
      · unfold f_X12_machine
        rw [k2, li64n (a := 1) (b := 99) rfl rfl c2, if_neg (by decide), if_pos rfl]
        rfl
  · refine bad "java/lang/IllegalArgumentException" 1 ?_ ?_
    · unfold f_X9_machine
      exact eB_er k1
    · unfold f_X12_machine
      rw [k2, if_pos rfl]
      rfl
theorem eq_toolsAt {S S4 S16 : wPS} {o1 o2 : Nat} {y1 y2 r3 r20 : Int32} {r12 : Int32} {fo f5 : Nat → Int64} (mR55 : R55 o2 S o1) (mR58 : R58 o2 S o1) (hA : isA S o1 12) (hW : wtB S []) (hw : stp [(7, 2)] [] [] S S4) (hm : stp [(12, 15), (35, 100)] [] [] S4 S16) (h : (∃ v, f_X9_toolsAt S o2 y1 y2 = .ok (v, S4) ∧ r3 = 0 ∧ f5 = vp_updL fo (0 : Int32).toNatClampNeg (v.toInt64)) ∨ (∃ E, f_X9_toolsAt S o2 y1 y2 = .error E ∧ r3 = wc_toolsAt E ∧ f5 = fo ∧ S4 = S)) (h2 : (r12, S16) = f_X12_toolsAt S4 o1 y1 y2) (h3 : r20 = f_X12_thrown S16 o1) : (r20 = r3 ∧ (r3 = 0 → f5 (0 : Int32).toNatClampNeg = r12.toInt64)) ∧ R58 o2 S16 o1 := by
  have ok : ∀ v z U T, f_X9_toolsAt S o2 y1 y2 = .ok (v, U) → f_X12_toolsAt U o1 y1 y2 = (z, T) → T.I o1 15 = 0 → ((v.toInt64) : Int64) = z.toInt64 → (R58 o2 T o1) → (r20 = r3 ∧ (r3 = 0 → f5 (0 : Int32).toNatClampNeg = r12.toInt64)) ∧ R58 o2 S16 o1 := fun v z U T e1 e2 e3 e4 e5 => by
    rcases h with ⟨w, g, g2, g3⟩ | ⟨E, g, -⟩
    · rw [e1] at g
      obtain ⟨rfl, rfl⟩ := Prod.mk.inj (Except.ok.inj g)
      rw [e2] at h2
      obtain ⟨rfl, rfl⟩ := Prod.mk.inj h2
      exact ⟨⟨(h3.trans e3).trans g2.symm, fun _ => by rw [g3, ← e4]; simp [vp_updL]⟩, e5⟩
    · rw [e1] at g; cases g
  have er : ∀ E n z, f_X9_toolsAt S o2 y1 y2 = .error E → wc_toolsAt E = n → ¬ n = 0 → f_X12_toolsAt S o1 y1 y2 = (z, S.sI o1 15 n) → (r20 = r3 ∧ (r3 = 0 → f5 (0 : Int32).toNatClampNeg = r12.toInt64)) ∧ R58 o2 S16 o1 := fun E n z e1 e2 e3 e4 => by
    rcases h with ⟨w, g, -⟩ | ⟨E2, g, g2, g3, g4⟩
    · rw [e1] at g; cases g
    · rw [e1] at g; cases g
      rw [g4, e4] at h2
      obtain ⟨rfl, rfl⟩ := Prod.mk.inj h2
      have t20 : r20 = n := h3.trans sI_eq
      have t3 : r3 = n := g2.trans e2
      exact ⟨⟨t20.trans t3.symm, fun q => absurd (t3.symm.trans q) e3⟩, R58.sI hA mR58⟩
  have b0 : (0 : Int64).toInt = 0 := rfl
  have a0 : (0 : Int32).toInt = 0 := rfl
  have a9 : (9999 : Int32).toInt = 9999 := rfl
  have R5 := ((hW.at mR58.1 List.not_mem_nil).to_9 mR58.1.2.1).R5
  have e19 : S.I o1 19 = S.I o2 5 := mR55.2.symm
  have e6 : (S.I o1 19 - (1 : Int32)).toInt = (S.I o2 5).toInt - 1 := by rw [e19]; exact t_subr (n := 1) rfl (by omega)
  by_cases c : 0 ≤ y1.toInt ∧ y1.toInt < (S.I o2 5).toInt
  · have hc := cl_int (i := y1) c.1
    have n0 : ¬ y1 < (0 : Int32) := fun q => by have := Int32.lt_iff_toInt_lt.mp q; omega
    have n1 : y1 < S.I o2 5 := Int32.lt_iff_toInt_lt.mpr c.2
    by_cases k : 0 ≤ y2.toInt ∧ y2.toInt ≤ 9999
    · have hi : (y1.toNatClampNeg : Int) < (S.I o2 5).toInt := by omega
      have m' := R58.set (v := y2) k hi mR58
      obtain ⟨ga, -, -, p, -⟩ := mR58.2.2.1 _ hi
      obtain ⟨a, ea⟩ : ∃ z, S.q (S.f o2 4) y1.toNatClampNeg = z := ⟨_, rfl⟩
      rw [ea] at ga p m'
      have U19 : (S.sI a 2 y2).I o1 19 = S.I o1 19 := congrFun (sI_no (fun e => by have k := hA.2.1; rw [e, ga.2.1] at k; exact absurd k (by decide))) 19
      refine ok (S.I a 2) (S.i (S.f o1 7) y1.toNatClampNeg) (S.sI a 2 y2) (((S.sI a 2 y2).si (S.f o1 7) (upd (S.i (S.f o1 7)) y1.toNatClampNeg y2)).sI o1 15 0) ?_ ?_ sI_eq (by rw [p]) (R58.sI hA m')
      · unfold f_X9_toolsAt
        rw [if_neg n0, if_pos n1, eB_ok (rng_ok (by rw [a0, a9]; exact k)), ea]; rfl
      · unfold f_X12_toolsAt
        rw [in_ok (by rw [i64_i, i64_i, b0, U19, e6]; omega), if_neg (by decide), li64 (a := 0) (b := 9999) rfl rfl k, if_neg (by decide)]; rfl
    · refine er "java/lang/IllegalArgumentException" 2 0 ?_ (by decide +kernel) (by decide) ?_
      · unfold f_X9_toolsAt
        rw [if_neg n0, if_pos n1]; exact eB_er (rng_er (by rw [a0, a9]; exact k))
      · unfold f_X12_toolsAt
        rw [in_ok (by rw [i64_i, i64_i, b0, e6]; omega), if_neg (by decide), li64n (a := 0) (b := 9999) rfl rfl k, if_pos rfl]; rfl
  · refine er "java/lang/IndexOutOfBoundsException" 1 0 ?_ (by decide +kernel) (by decide) ?_
    · unfold f_X9_toolsAt
      by_cases q : y1 < (0 : Int32)
      · rw [if_pos q]
      · rw [if_neg q, if_neg (fun q2 => by have h2 := Int32.lt_iff_toInt_lt.mp q2; have h3 : ¬ y1.toInt < (0 : Int32).toInt := fun q => absurd (Int32.lt_iff_toInt_lt.mpr q) (by assumption); omega)]
    · unfold f_X12_toolsAt
      rw [in_no (by rw [i64_i, i64_i, b0, e6]; omega), if_pos rfl]; rfl
theorem kd_cases (y : Int32) : (f_X9_needKind y = .ok () ∧ ¬ f_X12_isKind y = 0 ∧ 0 ≤ y.toInt ∧ y.toInt ≤ 255) ∨ (f_X9_needKind y = .error "java/lang/IllegalArgumentException" ∧ f_X12_isKind y = 0) := by
  unfold f_X9_needKind f_X12_isKind
  by_cases h1 : y = (104 : Int32)
  · rw [if_pos h1, if_pos h1]; exact Or.inl ⟨rfl, by decide, by rw [h1]; decide, by rw [h1]; decide⟩
  · rw [if_neg h1, if_neg h1]
    by_cases h2 : y = (102 : Int32)
    · rw [if_pos h2, if_pos h2]; exact Or.inl ⟨rfl, by decide, by rw [h2]; decide, by rw [h2]; decide⟩
    · rw [if_neg h2, if_neg h2]
      by_cases h3 : y = (103 : Int32)
      · rw [if_pos h3, if_pos h3]; exact Or.inl ⟨rfl, by decide, by rw [h3]; decide, by rw [h3]; decide⟩
      · rw [if_neg h3, if_neg h3]
        by_cases h4 : y = (99 : Int32)
        · rw [if_pos h4, if_pos h4]; exact Or.inl ⟨rfl, by decide, by rw [h4]; decide, by rw [h4]; decide⟩
        · rw [if_neg h4, if_neg h4]; exact Or.inr ⟨rfl, rfl⟩
theorem eq_route {S S4 S16 : wPS} {o1 o2 : Nat} {y1 y2 r3 r20 : Int32} {r12 : Int32} {fo f5 : Nat → Int64} (mRLT : RLT o2 S o1) (hA : isA S o1 12) (hW : wtB S []) (hw : stp [(13, 3), (15, 100)] [] [] S S4) (hm : stp [(10, 17), (12, 15), (37, 100)] [] [] S4 S16) (h : (∃ v, f_X9_route S o2 y1 y2 = .ok (v, S4) ∧ r3 = 0 ∧ f5 = vp_updL fo (0 : Int32).toNatClampNeg (v.toInt64)) ∨ (∃ E, f_X9_route S o2 y1 y2 = .error E ∧ r3 = wc_route E ∧ f5 = fo ∧ S4 = S)) (h2 : (r12, S16) = f_X12_route S4 o1 y1 y2) (h3 : r20 = f_X12_thrown S16 o1) : (r20 = r3 ∧ (r3 = 0 → f5 (0 : Int32).toNatClampNeg = r12.toInt64)) ∧ RLT o2 S16 o1 := by
  have ok : ∀ v z U T, f_X9_route S o2 y1 y2 = .ok (v, U) → f_X12_route U o1 y1 y2 = (z, T) → T.I o1 15 = 0 → ((v.toInt64) : Int64) = z.toInt64 → (RLT o2 T o1) → (r20 = r3 ∧ (r3 = 0 → f5 (0 : Int32).toNatClampNeg = r12.toInt64)) ∧ RLT o2 S16 o1 := fun v z U T e1 e2 e3 e4 e5 => by
    rcases h with ⟨w, g, g2, g3⟩ | ⟨E, g, -⟩
    · rw [e1] at g
      obtain ⟨rfl, rfl⟩ := Prod.mk.inj (Except.ok.inj g)
      rw [e2] at h2
      obtain ⟨rfl, rfl⟩ := Prod.mk.inj h2
      exact ⟨⟨(h3.trans e3).trans g2.symm, fun _ => by rw [g3, ← e4]; simp [vp_updL]⟩, e5⟩
    · rw [e1] at g; cases g
  have er : ∀ E n z, f_X9_route S o2 y1 y2 = .error E → wc_route E = n → ¬ n = 0 → f_X12_route S o1 y1 y2 = (z, S.sI o1 15 n) → (r20 = r3 ∧ (r3 = 0 → f5 (0 : Int32).toNatClampNeg = r12.toInt64)) ∧ RLT o2 S16 o1 := fun E n z e1 e2 e3 e4 => by
    rcases h with ⟨w, g, -⟩ | ⟨E2, g, g2, g3, g4⟩
    · rw [e1] at g; cases g
    · rw [e1] at g; cases g
      rw [g4, e4] at h2
      obtain ⟨rfl, rfl⟩ := Prod.mk.inj h2
      have t20 : r20 = n := h3.trans sI_eq
      have t3 : r3 = n := g2.trans e2
      exact ⟨⟨t20.trans t3.symm, fun q => absurd (t3.symm.trans q) e3⟩, RLT.sI hA mRLT⟩
  have l8 : (8 : Int32).toInt = 8 := rfl
  rcases ga_cases y1 mRLT.1.1 hW hA with ⟨i, a, b, hy, hi, c1, c2, c3, ea, eb, g⟩ | ⟨c1, c2⟩
  · rcases kd_cases y2 with ⟨k1, k2, k3⟩ | ⟨k1, k2⟩
    · obtain ⟨ga, gb, -⟩ := g
      obtain ⟨e6, w13, p⟩ := mRLT.1.2.1 i hi
      rw [ea] at e6 w13 p
      rw [eb] at p
      obtain ⟨w, ew⟩ : ∃ z, S.f a 6 = z := ⟨_, rfl⟩
      rw [ew] at w13 p
      have kw := (hW.at w13 List.not_mem_nil).to_13 w13.2.1
      have R3 := kw.R3
      have hwb : ¬ w = b := fun e => by have k := w13.2.1; rw [e, gb.2.1] at k; exact absurd k (by decide)
      have bw : ¬ b = w := fun e => hwb e.symm
      by_cases c : (S.I w 3).toInt < 8
      · have i1 : ¬ f_J5_isLatin1_aae02 S w = (0 : Int32) := fun z => by have q := isl_i (S := S) (o := w) kw.R1; rw [z] at q; exact absurd q (by decide)
        have i2 : ¬ f_J1_canEncode_fc78d y2 = (0 : Int32) := fun z => by have q := ce_i (x := y2) k3; rw [z] at q; exact absurd q (by decide)
        obtain ⟨U, eU⟩ : ∃ U, U = (S.sI w 3 (S.I w 3 + (1 : Int32))).si (S.f w 0) (upd (S.i (S.f w 0)) (S.I w 3).toNatClampNeg (vp_nar .byte y2.toInt8.toInt32)) := ⟨_, rfl⟩
        have a5 : f_J5_append_3fe6f S w y2 = (w, U) := by
          unfold f_J5_append_3fe6f
          rw [if_neg i1, if_neg i2, eU]; rfl
        have a4 : f_J4_append_cf468 S w y2 = (w, U) := by
          unfold f_J4_append_cf468
          rw [a5]; rfl
        have uI : ∀ x, ¬ x = w → U.I x = S.I x := fun x h => by rw [eU]; exact (show (S.sI w 3 (S.I w 3 + (1 : Int32))).I x = S.I x from sI_no h)
        have u3 : U.I w 3 = S.I w 3 + (1 : Int32) := by rw [eU]; exact (show (S.sI w 3 (S.I w 3 + (1 : Int32))).I w 3 = _ from sI_eq)
        have uL : U.L = S.L := by rw [eU]; rfl
        have uK : U.K = S.K := by rw [eU]; rfl
        have un : U.n = S.n := by rw [eU]; rfl
        have uF : U.F = S.F := by rw [eU]; rfl
        have ur : U.r = S.r := by rw [eU]; rfl
        have hlen : f_J4_length_8abf5 S w < (8 : Int32) := Int32.lt_iff_toInt_lt.mpr (by show (S.I w 3).toInt < _; rw [l8]; exact c)
        have g1 : f_X12_isGear U o1 y1 = f_X12_isGear S o1 y1 := by
          show f_X12_in y1.toInt64 0 ((U.I ((U.F o1 0).getD 0) 2 - (1 : Int32)).toInt64) = f_X12_in y1.toInt64 0 ((S.I (S.f o1 0) 2 - (1 : Int32)).toInt64)
          rw [uF]
          show f_X12_in y1.toInt64 0 ((U.I (S.f o1 0) 2 - (1 : Int32)).toInt64) = _
          rw [uI (S.f o1 0) (fun e => by have k := mRLT.1.1.2.1.2.1.2.1; rw [e, w13.2.1] at k; exact absurd k (by decide))]
        have g2 : f_X12_gearAt U o1 y1 = b := by
          rw [← c3]
          show ((U.r ((U.F ((U.F o1 0).getD 0) 1).getD 0) y1.toNatClampNeg).getD 0) = ((S.r ((S.F ((S.F o1 0).getD 0) 1).getD 0) y1.toNatClampNeg).getD 0)
          rw [uF, ur]
        have ub : U.I b 17 = S.I b 17 := by rw [uI b bw]
        have n8 : ¬ U.I b 17 = (8 : Int32) := fun z => by
          rw [ub, ← p] at z
          rw [z, l8] at c
          exact absurd c (by decide)
        obtain ⟨V, eV⟩ : ∃ V, V = (U.si (U.f b 6) (upd (U.i (U.f b 6)) (U.I b 17).toNatClampNeg (vp_nar .char y2))).sI b 17 (U.I b 17 + (1 : Int32)) := ⟨_, rfl⟩
        have vI : ∀ x, ¬ x = b → V.I x = U.I x := fun x h => by rw [eV]; exact (show ((U.si (U.f b 6) (upd (U.i (U.f b 6)) (U.I b 17).toNatClampNeg (vp_nar .char y2))).sI b 17 (U.I b 17 + (1 : Int32))).I x = _ from sI_no h)
        have v17 : V.I b 17 = S.I b 17 + (1 : Int32) := by rw [eV, sI_eq, ub]
        have vL : V.L = S.L := by rw [eV]; exact uL
        have vK : V.K = S.K := by rw [eV]; exact uK
        have vn : V.n = S.n := by rw [eV]; exact un
        have vF : V.F = S.F := by rw [eV]; exact uF
        have vr : V.r = S.r := by rw [eV]; exact ur
        have hAV : isA V o1 12 := by unfold isA at hA ⊢; rw [vL, vK, vn]; exact hA
        have mV : RW o2 V o1 := RW.upd vL vK vn vF vr hi (fun x h1 h2 => by
          rw [ea, ew] at h1
          rw [eb] at h2
          rw [vI x h2, uI x h1]) (by rw [ea, ew, eb, v17, vI w hwb, u3, p]) mRLT.1
        obtain ⟨n1, n2, n3⟩ := nar_kd k1
        have R17 := ((hW.at gb List.not_mem_nil).to_10 gb.2.1).R17
        have cB := cl_int (i := S.I b 17) R17.1
        have p' : (S.I w 3).toInt = (S.I b 17).toInt := by rw [p]
        have uf : U.f b 6 = S.f b 6 := by unfold wPS.f; rw [uF]
        have ui : U.i = va_up S.i (S.f w 0) (upd (S.i (S.f w 0)) (S.I b 17).toNatClampNeg y2) := by rw [eU, n2, p]; rfl
        have vi : V.i = va_up U.i (S.f b 6) (upd (U.i (S.f b 6)) (S.I b 17).toNatClampNeg y2) := by rw [eV, n1, uf, ub]; rfl
        have lw := RLT.w hW mRLT.1 hi
        rw [ea, eb] at lw
        unfold RLw at lw
        rw [ew] at lw
        have hPQ : ¬ S.f b 6 = S.f w 0 := fun z => by
          have k9 := lw.2.2.2.2.1
          rw [z, lw.2.1.2.2.1] at k9
          exact absurd k9 (by decide)
        have ia : ∀ x k, V.i x k = if (x = S.f w 0 ∨ x = S.f b 6) ∧ (k : Int) = (S.I b 17).toInt then y2 else S.i x k := fun x k => by
          rw [vi]
          by_cases hx : x = S.f b 6
          · rw [hx, up_qq, ui, up_nq hPQ]
            unfold upd
            by_cases hk : k = (S.I b 17).toNatClampNeg
            · rw [if_pos hk, if_pos ⟨Or.inr rfl, by omega⟩]
            · rw [if_neg hk, if_neg (fun z => hk (by have := z.2; omega))]
          · rw [up_nq hx, ui]
            by_cases hx2 : x = S.f w 0
            · rw [hx2, up_qq]
              unfold upd
              by_cases hk : k = (S.I b 17).toNatClampNeg
              · rw [if_pos hk, if_pos ⟨Or.inl rfl, by omega⟩]
              · rw [if_neg hk, if_neg (fun z => hk (by have := z.2; omega))]
            · rw [up_nq hx2, if_neg (fun z => by
                rcases z.1 with q | q
                · exact hx2 q
                · exact hx q)]
        have no2 : V.I o2 1 = S.I o2 1 := by
          rw [vI o2 (fun z => by have k := mRLT.1.1.1.2.1; rw [z, gb.2.1] at k; exact absurd k (by decide)), uI o2 (fun z => by have k := mRLT.1.1.1.2.1; rw [z, w13.2.1] at k; exact absurd k (by decide))]
        have mL : RLT o2 V o1 := RLT.upd (v := y2) hW mRLT mV no2 vF vr hi n3 (fun j hj hn => by
            rw [vI _ (fun z => (mRLT.1.1.2.2.2.2 j i hj hi hn).2 (z.trans eb.symm)), uI _ (fun z => by have k := (mRLT.1.1.2.2.2.1 j hj).2.1.2.1; rw [z, w13.2.1] at k; exact absurd k (by decide))])
          (fun k h1 h2 => by
            rw [eb] at h1 h2 ⊢
            rw [v17, t_addr (n := 1) rfl (by omega)] at h1
            omega)
          (fun x k => by rw [ea, ew, eb]; exact ia x k)
        refine ok (S.I w 3 + (1 : Int32)) (V.I b 17) U (V.sI o1 15 0) ?_ ?_ sI_eq (by rw [v17, p]) (RLT.sI hAV mL)
        · unfold f_X9_route
          rw [eB_ok c1, eB_ok k1, ew, if_pos hlen, a4]
          show Except.ok (U.I w 3, U) = _
          rw [u3]
        · unfold f_X12_route
          rw [g1, if_neg c2, if_neg k2, g2]
          show (if U.I b 17 = (8 : Int32) then _ else _) = _
          rw [if_neg n8, eV]; rfl
      · have e8 : S.I w 3 = (8 : Int32) := Int32.toInt_inj.mp (by rw [l8]; omega)
        have hlen : ¬ f_J4_length_8abf5 S w < (8 : Int32) := fun z => c (by have z' := Int32.lt_iff_toInt_lt.mp z; rw [l8] at z'; exact z')
        refine er "java/lang/IllegalStateException" 3 0 ?_ (by decide +kernel) (by decide) ?_
        · unfold f_X9_route
          rw [eB_ok c1, eB_ok k1, ew, if_neg hlen]
        · unfold f_X12_route
          rw [if_neg c2, if_neg k2, c3]
          show (if S.I b 17 = (8 : Int32) then _ else _) = _
          rw [if_pos (p.symm.trans e8)]; rfl
    · refine er "java/lang/IllegalArgumentException" 2 0 ?_ (by decide +kernel) (by decide) ?_
      · unfold f_X9_route; rw [eB_ok c1]; exact eB_er k1
      · unfold f_X12_route; rw [if_neg c2, if_pos k2]; rfl
  · refine er "java/lang/IndexOutOfBoundsException" 1 0 ?_ (by decide +kernel) (by decide) ?_
    · unfold f_X9_route; exact eB_er c1
    · unfold f_X12_route; rw [if_pos c2]; rfl
