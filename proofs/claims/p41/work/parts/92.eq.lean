/-- the same gears on both sides -/
def GRG (S : wPS) (i a b : Nat) : Prop := isA S a 2 ∧ isA S b 10 ∧ S.I a 0 = nI i ∧ S.I a 1 = S.I b 1 ∧ S.I a 2 = S.I b 2 ∧ S.I a 3 = S.I b 3 ∧ S.I a 4 = S.I b 4 ∧ S.I a 7 = S.I b 7 ∧ S.I a 8 = S.I b 8 ∧ S.I a 9 = S.I b 18 ∧ S.I a 10 = S.I b 11 ∧ S.I a 11 = S.I b 10
def RG (o2 : Nat) (S : wPS) (o : Nat) : Prop := isA S o2 9 ∧ (S.F o 0 = some (S.f o 0) ∧ isA S (S.f o 0) 14 ∧ S.n (S.f o 0) = 10) ∧ (S.I o2 1).toInt = (S.I (S.f o 0) 2).toInt ∧ (∀ i : Nat, (i : Int) < (S.I o2 1).toInt → GRG S i (S.q (S.f o2 0) i) (S.q (S.f (S.f o 0) 1) i)) ∧ (∀ i j : Nat, (i : Int) < (S.I o2 1).toInt → (j : Int) < (S.I o2 1).toInt → ¬ i = j → ¬ S.q (S.f o2 0) i = S.q (S.f o2 0) j ∧ ¬ S.q (S.f (S.f o 0) 1) i = S.q (S.f (S.f o 0) 1) j)
theorem GRG.fr {W : List (Nat × Nat)} {S U : wPS} {i a b : Nat} (h : stp W [] [] S U) (h1 : ∀ p ∈ ([(2, 0), (2, 1), (2, 2), (2, 3), (2, 4), (2, 7), (2, 8), (2, 9), (2, 10), (2, 11), (9, 1), (10, 1), (10, 2), (10, 3), (10, 4), (10, 7), (10, 8), (10, 10), (10, 11), (10, 18), (19, 101), (114, 10), (122, 10)] : List (Nat × Nat)), p ∉ W) (m : GRG S i a b) : GRG U i a b := by
  obtain ⟨ga, gb, g0, p1, p2, p3, p4, p7, p8, p9, p10, p11⟩ := m
  have fa := (h.fR a ga.1 List.not_mem_nil).1
  have fb := (h.fR b gb.1 List.not_mem_nil).1
  rw [ga.2.1] at fa
  rw [gb.2.1] at fb
  exact ⟨h.x.A ga, h.x.A gb, by rw [(fa 0 (h1 _ (by decide))).1]; exact g0, by rw [(fa 1 (h1 _ (by decide))).1, (fb 1 (h1 _ (by decide))).1]; exact p1, by rw [(fa 2 (h1 _ (by decide))).1, (fb 2 (h1 _ (by decide))).1]; exact p2, by rw [(fa 3 (h1 _ (by decide))).1, (fb 3 (h1 _ (by decide))).1]; exact p3, by rw [(fa 4 (h1 _ (by decide))).1, (fb 4 (h1 _ (by decide))).1]; exact p4, by rw [(fa 7 (h1 _ (by decide))).1, (fb 7 (h1 _ (by decide))).1]; exact p7, by rw [(fa 8 (h1 _ (by decide))).1, (fb 8 (h1 _ (by decide))).1]; exact p8, by rw [(fa 9 (h1 _ (by decide))).1, (fb 18 (h1 _ (by decide))).1]; exact p9, by rw [(fa 10 (h1 _ (by decide))).1, (fb 11 (h1 _ (by decide))).1]; exact p10, by rw [(fa 11 (h1 _ (by decide))).1, (fb 10 (h1 _ (by decide))).1]; exact p11⟩
theorem RG.st {W : List (Nat × Nat)} {S U : wPS} {o2 o : Nat} (h : stp W [] [] S U) (hW : wtB S []) (hA : isA S o 12) (hl : (114, 10) ∉ W ∧ (122, 10) ∉ W) (m : RG o2 S o) : U.f o 0 = S.f o 0 ∧ (U.F o 0 = some (U.f o 0) ∧ isA U (U.f o 0) 14 ∧ U.n (U.f o 0) = 10) ∧ U.I (S.f o 0) 2 = S.I (S.f o 0) 2 ∧ U.f (S.f o 0) 1 = S.f (S.f o 0) 1 ∧ ∀ i : Nat, (i : Int) < (S.I o2 1).toInt → U.r (S.f (S.f o 0) 1) i = S.r (S.f (S.f o 0) 1) i := by
  obtain ⟨hA2, ⟨e0, l0, n0⟩, mc, -, -⟩ := m
  have e' := h.x.F hA (Or.inl (by decide)) e0
  have f' : U.f o 0 = S.f o 0 := f_of e'
  have q := h.2.2.2.2.2 (S.f o 0) l0.1 List.not_mem_nil
  have q2 : U.I (S.f o 0) 2 = S.I (S.f o 0) 2 ∧ U.F (S.f o 0) = S.F (S.f o 0) := by
    rcases (q.1 l0.2.1).2 with w | w
    · rw [n0] at w; exact absurd w hl.1
    · exact w
  refine ⟨f', ⟨by rw [f']; exact e', by rw [f']; exact h.x.A l0, by rw [f', h.x.n l0]; exact n0⟩, q2.1, by show (U.F (S.f o 0) 1).getD 0 = (S.F (S.f o 0) 1).getD 0; rw [q2.2], fun i hi => ?_⟩
  rcases (hW.at l0 List.not_mem_nil).to_14 l0.2.1 with ⟨-, z⟩ | ⟨-, a2, -, a4, -, -, -⟩
  · omega
  · rcases (h.2.2.2.2.2 _ a2.1 List.not_mem_nil).2 a2.2.1 10 (by rw [a4, n0]) with w | w
    · exact absurd w hl.2
    · rw [w]
theorem RG.keep {W : List (Nat × Nat)} {S U : wPS} {o2 o : Nat} (h : stp W [] [] S U) (hW : wtB S []) (hA : isA S o 12) (h1 : ∀ p ∈ ([(2, 0), (2, 1), (2, 2), (2, 3), (2, 4), (2, 7), (2, 8), (2, 9), (2, 10), (2, 11), (9, 1), (10, 1), (10, 2), (10, 3), (10, 4), (10, 7), (10, 8), (10, 10), (10, 11), (10, 18), (19, 101), (114, 10), (122, 10)] : List (Nat × Nat)), p ∉ W) (_ : True) (m : RG o2 S o) : RG o2 U o := by
  have m0 := m
  obtain ⟨hA2, ⟨e0, l0, n0⟩, mc, mg, md⟩ := m
  obtain ⟨f', m1, q2, fl, rl⟩ := RG.st h hW hA ⟨h1 _ (by decide), h1 _ (by decide)⟩ m0
  have c1 : U.I o2 1 = S.I o2 1 := ((h.fR o2 hA2.1 List.not_mem_nil).1 1 (by rw [hA2.2.1]; exact h1 _ (by decide))).1
  have k9 := (hW.at hA2 List.not_mem_nil).to_9 hA2.2.1
  have fa : U.f o2 0 = S.f o2 0 := f_of (h.x.F hA2 (Or.inl (by decide)) k9.F0.1)
  have ra : U.r (S.f o2 0) = S.r (S.f o2 0) := (h.fR _ k9.F0.2.1.1 List.not_mem_nil).2.2.1 (by rw [k9.F0.2.1.2.1]; exact h1 _ (by decide))
  have qa : ∀ i, U.q (U.f o2 0) i = S.q (S.f o2 0) i := fun i => by unfold wPS.q; rw [fa, ra]
  have qb : ∀ i : Nat, (i : Int) < (S.I o2 1).toInt → U.q (U.f (U.f o 0) 1) i = S.q (S.f (S.f o 0) 1) i := fun i hi => by unfold wPS.q; rw [f', fl, rl i hi]
  refine ⟨h.x.A hA2, m1, by rw [c1, f', q2]; exact mc, fun i hi => ?_, fun i j hi hj hn => ?_⟩
  · rw [c1] at hi
    rw [qa, qb i hi]
    exact (mg i hi).fr h h1
  · rw [c1] at hi hj
    rw [qa, qa, qb i hi, qb j hj]
    exact md i j hi hj hn
theorem RG.sI {S : wPS} {o2 o j : Nat} {t : Int32} (hA : isA S o 12) (m : RG o2 S o) : RG o2 (S.sI o j t) o := by
  have ne : ∀ {x k : Nat}, isA S x k → k ≠ 12 → (S.sI o j t).I x = S.I x := fun hx hk => sI_no (fun e => hk (by rw [← hx.2.1, e]; exact hA.2.1))
  obtain ⟨hA2, ⟨e0, l0, n0⟩, mc, mg, md⟩ := m
  refine ⟨hA2, ⟨e0, l0, n0⟩, ?_, fun i hi => ?_, fun i j hi hj hn => ?_⟩
  · show ((S.sI o j t).I o2 1).toInt = ((S.sI o j t).I (S.f o 0) 2).toInt
    rw [ne hA2 (by decide), ne l0 (by decide)]; exact mc
  · rw [ne hA2 (by decide)] at hi
    obtain ⟨ga, gb, g0, p1, p2, p3, p4, p7, p8, p9, p10, p11⟩ := mg i hi
    show GRG (S.sI o j t) i (S.q (S.f o2 0) i) (S.q (S.f (S.f o 0) 1) i)
    exact ⟨ga, gb, by rw [ne ga (by decide)]; exact g0, by rw [ne ga (by decide), ne gb (by decide)]; exact p1, by rw [ne ga (by decide), ne gb (by decide)]; exact p2, by rw [ne ga (by decide), ne gb (by decide)]; exact p3, by rw [ne ga (by decide), ne gb (by decide)]; exact p4, by rw [ne ga (by decide), ne gb (by decide)]; exact p7, by rw [ne ga (by decide), ne gb (by decide)]; exact p8, by rw [ne ga (by decide), ne gb (by decide)]; exact p9, by rw [ne ga (by decide), ne gb (by decide)]; exact p10, by rw [ne ga (by decide), ne gb (by decide)]; exact p11⟩
  · rw [ne hA2 (by decide)] at hi hj
    exact md i j hi hj hn
theorem RG.set7 {S : wPS} {o2 o i : Nat} {v : Int32} (hA : isA S o 12) (hi : (i : Int) < (S.I o2 1).toInt) (m : RG o2 S o) : RG o2 ((S.sI (S.q (S.f o2 0) i) 7 v).sI (S.q (S.f (S.f o 0) 1) i) 7 v) o := by
  obtain ⟨hA2, ⟨e0, l0, n0⟩, mc, mg, md⟩ := m
  obtain ⟨ga, gb, -⟩ := mg i hi
  have hab : ¬ (S.q (S.f o2 0) i) = (S.q (S.f (S.f o 0) 1) i) := fun e => by have k := ga.2.1; rw [e, gb.2.1] at k; exact absurd k (by decide)
  obtain ⟨a, ea⟩ : ∃ z, (S.q (S.f o2 0) i) = z := ⟨_, rfl⟩
  obtain ⟨b, eb⟩ : ∃ z, (S.q (S.f (S.f o 0) 1) i) = z := ⟨_, rfl⟩
  rw [ea] at ga hab
  rw [eb] at gb hab
  rw [ea, eb]
  have oth : ∀ x : Nat, ¬ x = a → ¬ x = b → ((S.sI a 7 v).sI b 7 v).I x = S.I x := fun x h1 h2 => (sI_no h2).trans (sI_no h1)
  have neq : ∀ {x k : Nat}, isA S x k → k ≠ 2 → k ≠ 10 → ((S.sI a 7 v).sI b 7 v).I x = S.I x := fun hx h1 h2 => oth _ (fun e => h1 (by rw [← hx.2.1, e]; exact ga.2.1)) (fun e => h2 (by rw [← hx.2.1, e]; exact gb.2.1))
  refine ⟨hA2, ⟨e0, l0, n0⟩, ?_, fun j hj => ?_, fun j k hj hk hn => ?_⟩
  · show (((S.sI a 7 v).sI b 7 v).I o2 1).toInt = (((S.sI a 7 v).sI b 7 v).I (S.f o 0) 2).toInt
    rw [neq hA2 (by decide) (by decide), neq l0 (by decide) (by decide)]; exact mc
  · rw [neq hA2 (by decide) (by decide)] at hj
    show GRG ((S.sI a 7 v).sI b 7 v) j (S.q (S.f o2 0) j) (S.q (S.f (S.f o 0) 1) j)
    obtain ⟨ha, hb, g0, p1, p2, p3, p4, p7, p8, p9, p10, p11⟩ := mg j hj
    by_cases hji : j = i
    · subst hji
      rw [ea] at ha g0 p1 p2 p3 p4 p7 p8 p9 p10 p11
      rw [eb] at hb p1 p2 p3 p4 p7 p8 p9 p10 p11
      rw [ea, eb]
      have Ia : ∀ z, ¬ z = 7 → ((S.sI a 7 v).sI b 7 v).I a z = S.I a z := fun z h => (congrFun (sI_no hab) z).trans (sI_ne h)
      have Ib : ∀ z, ¬ z = 7 → ((S.sI a 7 v).sI b 7 v).I b z = S.I b z := fun z h => (sI_ne h).trans (congrFun (sI_no (fun e => hab e.symm)) z)
      have Iap : ((S.sI a 7 v).sI b 7 v).I a 7 = v := (congrFun (sI_no hab) 7).trans sI_eq
      have Ibp : ((S.sI a 7 v).sI b 7 v).I b 7 = v := sI_eq
      exact ⟨ha, hb, by rw [Ia 0 (by decide)]; exact g0, by rw [Ia 1 (by decide), Ib 1 (by decide)]; exact p1, by rw [Ia 2 (by decide), Ib 2 (by decide)]; exact p2, by rw [Ia 3 (by decide), Ib 3 (by decide)]; exact p3, by rw [Ia 4 (by decide), Ib 4 (by decide)]; exact p4, by rw [Iap, Ibp], by rw [Ia 8 (by decide), Ib 8 (by decide)]; exact p8, by rw [Ia 9 (by decide), Ib 18 (by decide)]; exact p9, by rw [Ia 10 (by decide), Ib 11 (by decide)]; exact p10, by rw [Ia 11 (by decide), Ib 10 (by decide)]; exact p11⟩
    · obtain ⟨na, nb⟩ := md j i hj hi hji
      rw [ea] at na
      rw [eb] at nb
      have nab : ¬ S.q (S.f o2 0) j = b := fun e => by have k := ha.2.1; rw [e, gb.2.1] at k; exact absurd k (by decide)
      have nba : ¬ S.q (S.f (S.f o 0) 1) j = a := fun e => by have k := hb.2.1; rw [e, ga.2.1] at k; exact absurd k (by decide)
      exact ⟨ha, hb, by rw [oth _ na nab]; exact g0, by rw [oth _ na nab, oth _ nba nb]; exact p1, by rw [oth _ na nab, oth _ nba nb]; exact p2, by rw [oth _ na nab, oth _ nba nb]; exact p3, by rw [oth _ na nab, oth _ nba nb]; exact p4, by rw [oth _ na nab, oth _ nba nb]; exact p7, by rw [oth _ na nab, oth _ nba nb]; exact p8, by rw [oth _ na nab, oth _ nba nb]; exact p9, by rw [oth _ na nab, oth _ nba nb]; exact p10, by rw [oth _ na nab, oth _ nba nb]; exact p11⟩
  · rw [neq hA2 (by decide) (by decide)] at hj hk
    exact md j k hj hk hn
theorem RG.set8 {S : wPS} {o2 o i : Nat} {v : Int32} (hA : isA S o 12) (hi : (i : Int) < (S.I o2 1).toInt) (m : RG o2 S o) : RG o2 ((S.sI (S.q (S.f o2 0) i) 8 v).sI (S.q (S.f (S.f o 0) 1) i) 8 v) o := by
  obtain ⟨hA2, ⟨e0, l0, n0⟩, mc, mg, md⟩ := m
  obtain ⟨ga, gb, -⟩ := mg i hi
  have hab : ¬ (S.q (S.f o2 0) i) = (S.q (S.f (S.f o 0) 1) i) := fun e => by have k := ga.2.1; rw [e, gb.2.1] at k; exact absurd k (by decide)
  obtain ⟨a, ea⟩ : ∃ z, (S.q (S.f o2 0) i) = z := ⟨_, rfl⟩
  obtain ⟨b, eb⟩ : ∃ z, (S.q (S.f (S.f o 0) 1) i) = z := ⟨_, rfl⟩
  rw [ea] at ga hab
  rw [eb] at gb hab
  rw [ea, eb]
  have oth : ∀ x : Nat, ¬ x = a → ¬ x = b → ((S.sI a 8 v).sI b 8 v).I x = S.I x := fun x h1 h2 => (sI_no h2).trans (sI_no h1)
  have neq : ∀ {x k : Nat}, isA S x k → k ≠ 2 → k ≠ 10 → ((S.sI a 8 v).sI b 8 v).I x = S.I x := fun hx h1 h2 => oth _ (fun e => h1 (by rw [← hx.2.1, e]; exact ga.2.1)) (fun e => h2 (by rw [← hx.2.1, e]; exact gb.2.1))
  refine ⟨hA2, ⟨e0, l0, n0⟩, ?_, fun j hj => ?_, fun j k hj hk hn => ?_⟩
  · show (((S.sI a 8 v).sI b 8 v).I o2 1).toInt = (((S.sI a 8 v).sI b 8 v).I (S.f o 0) 2).toInt
    rw [neq hA2 (by decide) (by decide), neq l0 (by decide) (by decide)]; exact mc
  · rw [neq hA2 (by decide) (by decide)] at hj
    show GRG ((S.sI a 8 v).sI b 8 v) j (S.q (S.f o2 0) j) (S.q (S.f (S.f o 0) 1) j)
    obtain ⟨ha, hb, g0, p1, p2, p3, p4, p7, p8, p9, p10, p11⟩ := mg j hj
    by_cases hji : j = i
    · subst hji
      rw [ea] at ha g0 p1 p2 p3 p4 p7 p8 p9 p10 p11
      rw [eb] at hb p1 p2 p3 p4 p7 p8 p9 p10 p11
      rw [ea, eb]
      have Ia : ∀ z, ¬ z = 8 → ((S.sI a 8 v).sI b 8 v).I a z = S.I a z := fun z h => (congrFun (sI_no hab) z).trans (sI_ne h)
      have Ib : ∀ z, ¬ z = 8 → ((S.sI a 8 v).sI b 8 v).I b z = S.I b z := fun z h => (sI_ne h).trans (congrFun (sI_no (fun e => hab e.symm)) z)
      have Iap : ((S.sI a 8 v).sI b 8 v).I a 8 = v := (congrFun (sI_no hab) 8).trans sI_eq
      have Ibp : ((S.sI a 8 v).sI b 8 v).I b 8 = v := sI_eq
      exact ⟨ha, hb, by rw [Ia 0 (by decide)]; exact g0, by rw [Ia 1 (by decide), Ib 1 (by decide)]; exact p1, by rw [Ia 2 (by decide), Ib 2 (by decide)]; exact p2, by rw [Ia 3 (by decide), Ib 3 (by decide)]; exact p3, by rw [Ia 4 (by decide), Ib 4 (by decide)]; exact p4, by rw [Ia 7 (by decide), Ib 7 (by decide)]; exact p7, by rw [Iap, Ibp], by rw [Ia 9 (by decide), Ib 18 (by decide)]; exact p9, by rw [Ia 10 (by decide), Ib 11 (by decide)]; exact p10, by rw [Ia 11 (by decide), Ib 10 (by decide)]; exact p11⟩
    · obtain ⟨na, nb⟩ := md j i hj hi hji
      rw [ea] at na
      rw [eb] at nb
      have nab : ¬ S.q (S.f o2 0) j = b := fun e => by have k := ha.2.1; rw [e, gb.2.1] at k; exact absurd k (by decide)
      have nba : ¬ S.q (S.f (S.f o 0) 1) j = a := fun e => by have k := hb.2.1; rw [e, ga.2.1] at k; exact absurd k (by decide)
      exact ⟨ha, hb, by rw [oth _ na nab]; exact g0, by rw [oth _ na nab, oth _ nba nb]; exact p1, by rw [oth _ na nab, oth _ nba nb]; exact p2, by rw [oth _ na nab, oth _ nba nb]; exact p3, by rw [oth _ na nab, oth _ nba nb]; exact p4, by rw [oth _ na nab, oth _ nba nb]; exact p7, by rw [oth _ na nab, oth _ nba nb]; exact p8, by rw [oth _ na nab, oth _ nba nb]; exact p9, by rw [oth _ na nab, oth _ nba nb]; exact p10, by rw [oth _ na nab, oth _ nba nb]; exact p11⟩
  · rw [neq hA2 (by decide) (by decide)] at hj hk
    exact md j k hj hk hn
theorem RG.set9 {S : wPS} {o2 o i : Nat} {v : Int32} (hA : isA S o 12) (hi : (i : Int) < (S.I o2 1).toInt) (m : RG o2 S o) : RG o2 ((S.sI (S.q (S.f o2 0) i) 9 v).sI (S.q (S.f (S.f o 0) 1) i) 18 v) o := by
  obtain ⟨hA2, ⟨e0, l0, n0⟩, mc, mg, md⟩ := m
  obtain ⟨ga, gb, -⟩ := mg i hi
  have hab : ¬ (S.q (S.f o2 0) i) = (S.q (S.f (S.f o 0) 1) i) := fun e => by have k := ga.2.1; rw [e, gb.2.1] at k; exact absurd k (by decide)
  obtain ⟨a, ea⟩ : ∃ z, (S.q (S.f o2 0) i) = z := ⟨_, rfl⟩
  obtain ⟨b, eb⟩ : ∃ z, (S.q (S.f (S.f o 0) 1) i) = z := ⟨_, rfl⟩
  rw [ea] at ga hab
  rw [eb] at gb hab
  rw [ea, eb]
  have oth : ∀ x : Nat, ¬ x = a → ¬ x = b → ((S.sI a 9 v).sI b 18 v).I x = S.I x := fun x h1 h2 => (sI_no h2).trans (sI_no h1)
  have neq : ∀ {x k : Nat}, isA S x k → k ≠ 2 → k ≠ 10 → ((S.sI a 9 v).sI b 18 v).I x = S.I x := fun hx h1 h2 => oth _ (fun e => h1 (by rw [← hx.2.1, e]; exact ga.2.1)) (fun e => h2 (by rw [← hx.2.1, e]; exact gb.2.1))
  refine ⟨hA2, ⟨e0, l0, n0⟩, ?_, fun j hj => ?_, fun j k hj hk hn => ?_⟩
  · show (((S.sI a 9 v).sI b 18 v).I o2 1).toInt = (((S.sI a 9 v).sI b 18 v).I (S.f o 0) 2).toInt
    rw [neq hA2 (by decide) (by decide), neq l0 (by decide) (by decide)]; exact mc
  · rw [neq hA2 (by decide) (by decide)] at hj
    show GRG ((S.sI a 9 v).sI b 18 v) j (S.q (S.f o2 0) j) (S.q (S.f (S.f o 0) 1) j)
    obtain ⟨ha, hb, g0, p1, p2, p3, p4, p7, p8, p9, p10, p11⟩ := mg j hj
    by_cases hji : j = i
    · subst hji
      rw [ea] at ha g0 p1 p2 p3 p4 p7 p8 p9 p10 p11
      rw [eb] at hb p1 p2 p3 p4 p7 p8 p9 p10 p11
      rw [ea, eb]
      have Ia : ∀ z, ¬ z = 9 → ((S.sI a 9 v).sI b 18 v).I a z = S.I a z := fun z h => (congrFun (sI_no hab) z).trans (sI_ne h)
      have Ib : ∀ z, ¬ z = 18 → ((S.sI a 9 v).sI b 18 v).I b z = S.I b z := fun z h => (sI_ne h).trans (congrFun (sI_no (fun e => hab e.symm)) z)
      have Iap : ((S.sI a 9 v).sI b 18 v).I a 9 = v := (congrFun (sI_no hab) 9).trans sI_eq
      have Ibp : ((S.sI a 9 v).sI b 18 v).I b 18 = v := sI_eq
      exact ⟨ha, hb, by rw [Ia 0 (by decide)]; exact g0, by rw [Ia 1 (by decide), Ib 1 (by decide)]; exact p1, by rw [Ia 2 (by decide), Ib 2 (by decide)]; exact p2, by rw [Ia 3 (by decide), Ib 3 (by decide)]; exact p3, by rw [Ia 4 (by decide), Ib 4 (by decide)]; exact p4, by rw [Ia 7 (by decide), Ib 7 (by decide)]; exact p7, by rw [Ia 8 (by decide), Ib 8 (by decide)]; exact p8, by rw [Iap, Ibp], by rw [Ia 10 (by decide), Ib 11 (by decide)]; exact p10, by rw [Ia 11 (by decide), Ib 10 (by decide)]; exact p11⟩
    · obtain ⟨na, nb⟩ := md j i hj hi hji
      rw [ea] at na
      rw [eb] at nb
      have nab : ¬ S.q (S.f o2 0) j = b := fun e => by have k := ha.2.1; rw [e, gb.2.1] at k; exact absurd k (by decide)
      have nba : ¬ S.q (S.f (S.f o 0) 1) j = a := fun e => by have k := hb.2.1; rw [e, ga.2.1] at k; exact absurd k (by decide)
      exact ⟨ha, hb, by rw [oth _ na nab]; exact g0, by rw [oth _ na nab, oth _ nba nb]; exact p1, by rw [oth _ na nab, oth _ nba nb]; exact p2, by rw [oth _ na nab, oth _ nba nb]; exact p3, by rw [oth _ na nab, oth _ nba nb]; exact p4, by rw [oth _ na nab, oth _ nba nb]; exact p7, by rw [oth _ na nab, oth _ nba nb]; exact p8, by rw [oth _ na nab, oth _ nba nb]; exact p9, by rw [oth _ na nab, oth _ nba nb]; exact p10, by rw [oth _ na nab, oth _ nba nb]; exact p11⟩
  · rw [neq hA2 (by decide) (by decide)] at hj hk
    exact md j k hj hk hn
theorem RG.set10 {S : wPS} {o2 o i : Nat} {v : Int32} (hA : isA S o 12) (hi : (i : Int) < (S.I o2 1).toInt) (m : RG o2 S o) : RG o2 ((S.sI (S.q (S.f o2 0) i) 10 v).sI (S.q (S.f (S.f o 0) 1) i) 11 v) o := by
  obtain ⟨hA2, ⟨e0, l0, n0⟩, mc, mg, md⟩ := m
  obtain ⟨ga, gb, -⟩ := mg i hi
  have hab : ¬ (S.q (S.f o2 0) i) = (S.q (S.f (S.f o 0) 1) i) := fun e => by have k := ga.2.1; rw [e, gb.2.1] at k; exact absurd k (by decide)
  obtain ⟨a, ea⟩ : ∃ z, (S.q (S.f o2 0) i) = z := ⟨_, rfl⟩
  obtain ⟨b, eb⟩ : ∃ z, (S.q (S.f (S.f o 0) 1) i) = z := ⟨_, rfl⟩
  rw [ea] at ga hab
  rw [eb] at gb hab
  rw [ea, eb]
  have oth : ∀ x : Nat, ¬ x = a → ¬ x = b → ((S.sI a 10 v).sI b 11 v).I x = S.I x := fun x h1 h2 => (sI_no h2).trans (sI_no h1)
  have neq : ∀ {x k : Nat}, isA S x k → k ≠ 2 → k ≠ 10 → ((S.sI a 10 v).sI b 11 v).I x = S.I x := fun hx h1 h2 => oth _ (fun e => h1 (by rw [← hx.2.1, e]; exact ga.2.1)) (fun e => h2 (by rw [← hx.2.1, e]; exact gb.2.1))
  refine ⟨hA2, ⟨e0, l0, n0⟩, ?_, fun j hj => ?_, fun j k hj hk hn => ?_⟩
  · show (((S.sI a 10 v).sI b 11 v).I o2 1).toInt = (((S.sI a 10 v).sI b 11 v).I (S.f o 0) 2).toInt
    rw [neq hA2 (by decide) (by decide), neq l0 (by decide) (by decide)]; exact mc
  · rw [neq hA2 (by decide) (by decide)] at hj
    show GRG ((S.sI a 10 v).sI b 11 v) j (S.q (S.f o2 0) j) (S.q (S.f (S.f o 0) 1) j)
    obtain ⟨ha, hb, g0, p1, p2, p3, p4, p7, p8, p9, p10, p11⟩ := mg j hj
    by_cases hji : j = i
    · subst hji
      rw [ea] at ha g0 p1 p2 p3 p4 p7 p8 p9 p10 p11
      rw [eb] at hb p1 p2 p3 p4 p7 p8 p9 p10 p11
      rw [ea, eb]
      have Ia : ∀ z, ¬ z = 10 → ((S.sI a 10 v).sI b 11 v).I a z = S.I a z := fun z h => (congrFun (sI_no hab) z).trans (sI_ne h)
      have Ib : ∀ z, ¬ z = 11 → ((S.sI a 10 v).sI b 11 v).I b z = S.I b z := fun z h => (sI_ne h).trans (congrFun (sI_no (fun e => hab e.symm)) z)
      have Iap : ((S.sI a 10 v).sI b 11 v).I a 10 = v := (congrFun (sI_no hab) 10).trans sI_eq
      have Ibp : ((S.sI a 10 v).sI b 11 v).I b 11 = v := sI_eq
      exact ⟨ha, hb, by rw [Ia 0 (by decide)]; exact g0, by rw [Ia 1 (by decide), Ib 1 (by decide)]; exact p1, by rw [Ia 2 (by decide), Ib 2 (by decide)]; exact p2, by rw [Ia 3 (by decide), Ib 3 (by decide)]; exact p3, by rw [Ia 4 (by decide), Ib 4 (by decide)]; exact p4, by rw [Ia 7 (by decide), Ib 7 (by decide)]; exact p7, by rw [Ia 8 (by decide), Ib 8 (by decide)]; exact p8, by rw [Ia 9 (by decide), Ib 18 (by decide)]; exact p9, by rw [Iap, Ibp], by rw [Ia 11 (by decide), Ib 10 (by decide)]; exact p11⟩
    · obtain ⟨na, nb⟩ := md j i hj hi hji
      rw [ea] at na
      rw [eb] at nb
      have nab : ¬ S.q (S.f o2 0) j = b := fun e => by have k := ha.2.1; rw [e, gb.2.1] at k; exact absurd k (by decide)
      have nba : ¬ S.q (S.f (S.f o 0) 1) j = a := fun e => by have k := hb.2.1; rw [e, ga.2.1] at k; exact absurd k (by decide)
      exact ⟨ha, hb, by rw [oth _ na nab]; exact g0, by rw [oth _ na nab, oth _ nba nb]; exact p1, by rw [oth _ na nab, oth _ nba nb]; exact p2, by rw [oth _ na nab, oth _ nba nb]; exact p3, by rw [oth _ na nab, oth _ nba nb]; exact p4, by rw [oth _ na nab, oth _ nba nb]; exact p7, by rw [oth _ na nab, oth _ nba nb]; exact p8, by rw [oth _ na nab, oth _ nba nb]; exact p9, by rw [oth _ na nab, oth _ nba nb]; exact p10, by rw [oth _ na nab, oth _ nba nb]; exact p11⟩
  · rw [neq hA2 (by decide) (by decide)] at hj hk
    exact md j k hj hk hn
theorem RG.set11 {S : wPS} {o2 o i : Nat} {v : Int32} (hA : isA S o 12) (hi : (i : Int) < (S.I o2 1).toInt) (m : RG o2 S o) : RG o2 ((S.sI (S.q (S.f o2 0) i) 11 v).sI (S.q (S.f (S.f o 0) 1) i) 10 v) o := by
  obtain ⟨hA2, ⟨e0, l0, n0⟩, mc, mg, md⟩ := m
  obtain ⟨ga, gb, -⟩ := mg i hi
  have hab : ¬ (S.q (S.f o2 0) i) = (S.q (S.f (S.f o 0) 1) i) := fun e => by have k := ga.2.1; rw [e, gb.2.1] at k; exact absurd k (by decide)
  obtain ⟨a, ea⟩ : ∃ z, (S.q (S.f o2 0) i) = z := ⟨_, rfl⟩
  obtain ⟨b, eb⟩ : ∃ z, (S.q (S.f (S.f o 0) 1) i) = z := ⟨_, rfl⟩
  rw [ea] at ga hab
  rw [eb] at gb hab
  rw [ea, eb]
  have oth : ∀ x : Nat, ¬ x = a → ¬ x = b → ((S.sI a 11 v).sI b 10 v).I x = S.I x := fun x h1 h2 => (sI_no h2).trans (sI_no h1)
  have neq : ∀ {x k : Nat}, isA S x k → k ≠ 2 → k ≠ 10 → ((S.sI a 11 v).sI b 10 v).I x = S.I x := fun hx h1 h2 => oth _ (fun e => h1 (by rw [← hx.2.1, e]; exact ga.2.1)) (fun e => h2 (by rw [← hx.2.1, e]; exact gb.2.1))
  refine ⟨hA2, ⟨e0, l0, n0⟩, ?_, fun j hj => ?_, fun j k hj hk hn => ?_⟩
  · show (((S.sI a 11 v).sI b 10 v).I o2 1).toInt = (((S.sI a 11 v).sI b 10 v).I (S.f o 0) 2).toInt
    rw [neq hA2 (by decide) (by decide), neq l0 (by decide) (by decide)]; exact mc
  · rw [neq hA2 (by decide) (by decide)] at hj
    show GRG ((S.sI a 11 v).sI b 10 v) j (S.q (S.f o2 0) j) (S.q (S.f (S.f o 0) 1) j)
    obtain ⟨ha, hb, g0, p1, p2, p3, p4, p7, p8, p9, p10, p11⟩ := mg j hj
    by_cases hji : j = i
    · subst hji
      rw [ea] at ha g0 p1 p2 p3 p4 p7 p8 p9 p10 p11
      rw [eb] at hb p1 p2 p3 p4 p7 p8 p9 p10 p11
      rw [ea, eb]
      have Ia : ∀ z, ¬ z = 11 → ((S.sI a 11 v).sI b 10 v).I a z = S.I a z := fun z h => (congrFun (sI_no hab) z).trans (sI_ne h)
      have Ib : ∀ z, ¬ z = 10 → ((S.sI a 11 v).sI b 10 v).I b z = S.I b z := fun z h => (sI_ne h).trans (congrFun (sI_no (fun e => hab e.symm)) z)
      have Iap : ((S.sI a 11 v).sI b 10 v).I a 11 = v := (congrFun (sI_no hab) 11).trans sI_eq
      have Ibp : ((S.sI a 11 v).sI b 10 v).I b 10 = v := sI_eq
      exact ⟨ha, hb, by rw [Ia 0 (by decide)]; exact g0, by rw [Ia 1 (by decide), Ib 1 (by decide)]; exact p1, by rw [Ia 2 (by decide), Ib 2 (by decide)]; exact p2, by rw [Ia 3 (by decide), Ib 3 (by decide)]; exact p3, by rw [Ia 4 (by decide), Ib 4 (by decide)]; exact p4, by rw [Ia 7 (by decide), Ib 7 (by decide)]; exact p7, by rw [Ia 8 (by decide), Ib 8 (by decide)]; exact p8, by rw [Ia 9 (by decide), Ib 18 (by decide)]; exact p9, by rw [Ia 10 (by decide), Ib 11 (by decide)]; exact p10, by rw [Iap, Ibp]⟩
    · obtain ⟨na, nb⟩ := md j i hj hi hji
      rw [ea] at na
      rw [eb] at nb
      have nab : ¬ S.q (S.f o2 0) j = b := fun e => by have k := ha.2.1; rw [e, gb.2.1] at k; exact absurd k (by decide)
      have nba : ¬ S.q (S.f (S.f o 0) 1) j = a := fun e => by have k := hb.2.1; rw [e, ga.2.1] at k; exact absurd k (by decide)
      exact ⟨ha, hb, by rw [oth _ na nab]; exact g0, by rw [oth _ na nab, oth _ nba nb]; exact p1, by rw [oth _ na nab, oth _ nba nb]; exact p2, by rw [oth _ na nab, oth _ nba nb]; exact p3, by rw [oth _ na nab, oth _ nba nb]; exact p4, by rw [oth _ na nab, oth _ nba nb]; exact p7, by rw [oth _ na nab, oth _ nba nb]; exact p8, by rw [oth _ na nab, oth _ nba nb]; exact p9, by rw [oth _ na nab, oth _ nba nb]; exact p10, by rw [oth _ na nab, oth _ nba nb]; exact p11⟩
  · rw [neq hA2 (by decide) (by decide)] at hj hk
    exact md j k hj hk hn
theorem nI_cl {x : Int32} (h : 0 ≤ x.toInt) : x = nI x.toNatClampNeg := by
  obtain ⟨j, hj, e⟩ := nI_of (x := x) (nneg_i h)
  have h1 := cl_int (i := x) h
  have h2 : x.toInt = (j : Int) := by rw [e]; exact nI_toInt hj
  have h3 : x.toNatClampNeg = j := by omega
  rw [h3]; exact e
theorem RG.add {EA EB : Nat → Prop} {WC WM : List (Nat × Nat)} {S S4 S16 : wPS} {o2 o : Nat} {x1 x2 x3 x4 : Int32} (m : RG o2 S o) (hA : isA S o 12) (hW : wtB S []) (hw : stp WC [] [] S S4) (hm : stp WM [] [] S4 S16) (hc : ∀ p ∈ ([(2, 0), (2, 1), (2, 2), (2, 3), (2, 4), (2, 7), (2, 8), (2, 9), (2, 10), (2, 11), (10, 1), (10, 2), (10, 3), (10, 4), (10, 7), (10, 8), (10, 10), (10, 11), (10, 18), (114, 10), (122, 10)] : List (Nat × Nat)), p ∉ WC) (hk : ∀ p ∈ ([(2, 0), (2, 1), (2, 2), (2, 3), (2, 4), (2, 7), (2, 8), (2, 9), (2, 10), (2, 11), (9, 1), (10, 1), (10, 2), (10, 3), (10, 4), (10, 7), (10, 8), (10, 10), (10, 11), (10, 18), (19, 101)] : List (Nat × Nat)), p ∉ WM)
    (c4 : (S4.I o2 1).toInt = (S.I o2 1).toInt + 1) (N : ∃ g : Nat, g ∉ S.L ∧ isA S4 g 2 ∧ S4.r (S.f o2 0) (S.I o2 1).toNatClampNeg = some g ∧ (∀ i : Nat, i ≠ (S.I o2 1).toNatClampNeg → S4.r (S.f o2 0) i = S.r (S.f o2 0) i) ∧ S4.I g 0 = S.I o2 1 ∧ S4.I g 1 = x1 ∧ S4.I g 2 = x2 ∧ S4.I g 3 = x3 ∧ S4.I g 4 = x4 ∧ S4.I g 7 = (0 : Int32) ∧ S4.I g 8 = (-1 : Int32) ∧ S4.I g 9 = (0 : Int32) ∧ S4.I g 10 = (0 : Int32) ∧ S4.I g 11 = (0 : Int32) ∧ EA g)
    (n1 : (S16.I (S4.f o 0) 2).toInt = (S4.I (S4.f o 0) 2).toInt + 1) (M : ∃ g a : Nat, g ∉ S4.L ∧ isA S16 g 10 ∧ S16.F (S4.f o 0) 1 = some a ∧ isA S16 a 22 ∧ S16.r a (S4.I (S4.f o 0) 2).toNatClampNeg = some g ∧ (∀ i : Nat, (i : Int) < (S4.I (S4.f o 0) 2).toInt → S16.r a i = S4.r (S4.f (S4.f o 0) 1) i) ∧ S16.I g 1 = x1 ∧ S16.I g 2 = x2 ∧ S16.I g 3 = x3 ∧ S16.I g 4 = x4 ∧ S16.I g 7 = (0 : Int32) ∧ S16.I g 8 = (-1 : Int32) ∧ S16.I g 10 = (0 : Int32) ∧ S16.I g 11 = (0 : Int32) ∧ S16.I g 18 = (0 : Int32) ∧ EB g) : RG o2 S16 o := by
  have m0 := m
  obtain ⟨hA2, ⟨e0, l0, n0⟩, mc, mg, md⟩ := m
  obtain ⟨f4, m4, q4, fl4, rl4⟩ := RG.st hw hW hA ⟨hc _ (by decide), hc _ (by decide)⟩ m0
  obtain ⟨g, ng, gA, gr, go, cv0, cv1, cv2, cv3, cv4, cv7, cv8, cv9, cv10, cv11, -⟩ := N
  obtain ⟨b, a, nb, bA, aF, aA, br, bo, dv1, dv2, dv3, dv4, dv7, dv8, dv10, dv11, dv18, -⟩ := M
  rw [f4] at n1 aF br bo
  rw [q4] at n1 br bo
  rw [fl4] at bo
  have R9 := ((hW.at hA2 List.not_mem_nil).to_9 hA2.2.1).R1
  have k9 := (hW.at hA2 List.not_mem_nil).to_9 hA2.2.1
  have e16 := hm.x.F (hw.x.A hA) (Or.inl (by decide)) m4.1
  rw [f4] at e16
  have f16 : S16.f o 0 = (S.f o 0) := f_of e16
  have cI : S16.I o2 1 = S4.I o2 1 := ((hm.fR o2 (hw.x.A hA2).1 List.not_mem_nil).1 1 (by rw [(hw.x.A hA2).2.1]; exact hk _ (by decide))).1
  have fa4 : S4.f o2 0 = S.f o2 0 := f_of (hw.x.F hA2 (Or.inl (by decide)) k9.F0.1)
  have fa : S16.f o2 0 = S.f o2 0 := f_of (hm.x.F (hw.x.A hA2) (Or.inl (by decide)) (hw.x.F hA2 (Or.inl (by decide)) k9.F0.1))
  have aA4 := hw.x.A k9.F0.2.1
  have ra : S16.r (S.f o2 0) = S4.r (S.f o2 0) := (hm.fR _ aA4.1 List.not_mem_nil).2.2.1 (by rw [aA4.2.1]; exact hk _ (by decide))
  have fl16 : S16.f (S.f o 0) 1 = a := f_of aF
  have ck := cl_int (i := S.I o2 1) R9.1
  have ck2 := cl_int (i := S.I (S.f o 0) 2) (by omega)
  have qa0 : ∀ i, S16.q (S16.f o2 0) i = S4.q (S.f o2 0) i := fun i => by unfold wPS.q; rw [fa, ra]
  have qb0 : ∀ i, S16.q (S16.f (S16.f o 0) 1) i = S16.q a i := fun i => by rw [f16, fl16]
  have eaN : ∀ i, i = (S.I o2 1).toNatClampNeg → S4.q (S.f o2 0) i = g := fun i hik => by rw [hik]; exact q_of gr
  have ebN : ∀ i, i = (S.I o2 1).toNatClampNeg → S16.q a i = b := fun i hik => by rw [show i = (S.I (S.f o 0) 2).toNatClampNeg by omega]; exact q_of br
  have eaO : ∀ i, ¬ i = (S.I o2 1).toNatClampNeg → S4.q (S.f o2 0) i = S.q (S.f o2 0) i := fun i hik => by unfold wPS.q; rw [go i hik]
  have ebO : ∀ i : Nat, (i : Int) < (S.I o2 1).toInt → S16.q a i = S.q (S.f (S.f o 0) 1) i := fun i hi' => by unfold wPS.q; rw [bo i (by omega), rl4 i hi']
  refine ⟨(hw.x.tr hm.x).A hA2, ⟨by rw [f16]; exact e16, by rw [f16]; exact (hw.x.tr hm.x).A l0, by rw [f16, (hw.x.tr hm.x).n l0]; exact n0⟩, by rw [cI, f16, c4, n1, mc], fun i hi => ?_, fun i j hi hj hn => ?_⟩
  · rw [cI, c4] at hi
    rw [qa0, qb0]
    by_cases hik : i = (S.I o2 1).toNatClampNeg
    · rw [eaN i hik, ebN i hik]
      have fg := (hm.fR g gA.1 List.not_mem_nil).1
      rw [gA.2.1] at fg
      exact ⟨hm.x.A gA, bA, by rw [(fg 0 (hk _ (by decide))).1, cv0, hik]; exact nI_cl R9.1, by rw [(fg 1 (hk _ (by decide))).1, cv1, dv1], by rw [(fg 2 (hk _ (by decide))).1, cv2, dv2], by rw [(fg 3 (hk _ (by decide))).1, cv3, dv3], by rw [(fg 4 (hk _ (by decide))).1, cv4, dv4], by rw [(fg 7 (hk _ (by decide))).1, cv7, dv7], by rw [(fg 8 (hk _ (by decide))).1, cv8, dv8], by rw [(fg 9 (hk _ (by decide))).1, cv9, dv18], by rw [(fg 10 (hk _ (by decide))).1, cv10, dv11], by rw [(fg 11 (hk _ (by decide))).1, cv11, dv10]⟩
    · have hi' : (i : Int) < (S.I o2 1).toInt := by omega
      rw [eaO i hik, ebO i hi']
      obtain ⟨ga, gb, g0, p1, p2, p3, p4, p7, p8, p9, p10, p11⟩ := mg i hi'
      have f1 := (hw.fR _ ga.1 List.not_mem_nil).1
      have f2 := (hw.fR _ gb.1 List.not_mem_nil).1
      have f3 := (hm.fR _ (hw.x.A ga).1 List.not_mem_nil).1
      have f5 := (hm.fR _ (hw.x.A gb).1 List.not_mem_nil).1
      rw [ga.2.1] at f1
      rw [gb.2.1] at f2
      rw [(hw.x.A ga).2.1] at f3
      rw [(hw.x.A gb).2.1] at f5
      exact ⟨hm.x.A (hw.x.A ga), hm.x.A (hw.x.A gb), by rw [(f3 0 (hk _ (by decide))).1, (f1 0 (hc _ (by decide))).1]; exact g0, by rw [(f3 1 (hk _ (by decide))).1, (f1 1 (hc _ (by decide))).1, (f5 1 (hk _ (by decide))).1, (f2 1 (hc _ (by decide))).1]; exact p1, by rw [(f3 2 (hk _ (by decide))).1, (f1 2 (hc _ (by decide))).1, (f5 2 (hk _ (by decide))).1, (f2 2 (hc _ (by decide))).1]; exact p2, by rw [(f3 3 (hk _ (by decide))).1, (f1 3 (hc _ (by decide))).1, (f5 3 (hk _ (by decide))).1, (f2 3 (hc _ (by decide))).1]; exact p3, by rw [(f3 4 (hk _ (by decide))).1, (f1 4 (hc _ (by decide))).1, (f5 4 (hk _ (by decide))).1, (f2 4 (hc _ (by decide))).1]; exact p4, by rw [(f3 7 (hk _ (by decide))).1, (f1 7 (hc _ (by decide))).1, (f5 7 (hk _ (by decide))).1, (f2 7 (hc _ (by decide))).1]; exact p7, by rw [(f3 8 (hk _ (by decide))).1, (f1 8 (hc _ (by decide))).1, (f5 8 (hk _ (by decide))).1, (f2 8 (hc _ (by decide))).1]; exact p8, by rw [(f3 9 (hk _ (by decide))).1, (f1 9 (hc _ (by decide))).1, (f5 18 (hk _ (by decide))).1, (f2 18 (hc _ (by decide))).1]; exact p9, by rw [(f3 10 (hk _ (by decide))).1, (f1 10 (hc _ (by decide))).1, (f5 11 (hk _ (by decide))).1, (f2 11 (hc _ (by decide))).1]; exact p10, by rw [(f3 11 (hk _ (by decide))).1, (f1 11 (hc _ (by decide))).1, (f5 10 (hk _ (by decide))).1, (f2 10 (hc _ (by decide))).1]; exact p11⟩
  · rw [cI, c4] at hi hj
    rw [qa0, qa0, qb0, qb0]
    have nA : ∀ i : Nat, (i : Int) < (S.I o2 1).toInt → ¬ S.q (S.f o2 0) i = g := fun i hi e => ng (by rw [← e]; exact (mg i hi).1.1)
    have nB : ∀ i : Nat, (i : Int) < (S.I o2 1).toInt → ¬ S.q (S.f (S.f o 0) 1) i = b := fun i hi e => nb (by rw [← e]; exact (hw.x.A (mg i hi).2.1).1)
    by_cases hik : i = (S.I o2 1).toNatClampNeg
    · have hj' : (j : Int) < (S.I o2 1).toInt := by omega
      rw [eaN i hik, ebN i hik, eaO j (by omega), ebO j hj']
      exact ⟨fun e => nA j hj' e.symm, fun e => nB j hj' e.symm⟩
    · have hi' : (i : Int) < (S.I o2 1).toInt := by omega
      by_cases hjk : j = (S.I o2 1).toNatClampNeg
      · rw [eaN j hjk, ebN j hjk, eaO i hik, ebO i hi']
        exact ⟨nA i hi', nB i hi'⟩
      · have hj' : (j : Int) < (S.I o2 1).toInt := by omega
        rw [eaO i hik, ebO i hi', eaO j hjk, ebO j hj']
        exact md i j hi' hj' hn
theorem RG.qs {W : List (Nat × Nat)} {S U : wPS} {o2 o : Nat} (h : stp W [] [] S U) (hW : wtB S []) (hA : isA S o 12) (h1 : ∀ p ∈ ([(2, 0), (2, 1), (2, 2), (2, 3), (2, 4), (2, 7), (2, 8), (2, 9), (2, 10), (2, 11), (9, 1), (10, 1), (10, 2), (10, 3), (10, 4), (10, 7), (10, 8), (10, 10), (10, 11), (10, 18), (19, 101), (114, 10), (122, 10)] : List (Nat × Nat)), p ∉ W) (m : RG o2 S o) : U.I o2 1 = S.I o2 1 ∧ (∀ i, U.q (U.f o2 0) i = S.q (S.f o2 0) i) ∧ (∀ i : Nat, (i : Int) < (S.I o2 1).toInt → U.q (U.f (U.f o 0) 1) i = S.q (S.f (S.f o 0) 1) i) := by
  have m0 := m
  obtain ⟨hA2, ⟨e0, l0, n0⟩, mc, mg, md⟩ := m
  obtain ⟨f', m1, q2, fl, rl⟩ := RG.st h hW hA ⟨h1 _ (by decide), h1 _ (by decide)⟩ m0
  have c1 : U.I o2 1 = S.I o2 1 := ((h.fR o2 hA2.1 List.not_mem_nil).1 1 (by rw [hA2.2.1]; exact h1 _ (by decide))).1
  have k9 := (hW.at hA2 List.not_mem_nil).to_9 hA2.2.1
  have fa : U.f o2 0 = S.f o2 0 := f_of (h.x.F hA2 (Or.inl (by decide)) k9.F0.1)
  have ra : U.r (S.f o2 0) = S.r (S.f o2 0) := (h.fR _ k9.F0.2.1.1 List.not_mem_nil).2.2.1 (by rw [k9.F0.2.1.2.1]; exact h1 _ (by decide))
  exact ⟨c1, fun i => by unfold wPS.q; rw [fa, ra], fun i hi => by unfold wPS.q; rw [f', fl, rl i hi]⟩
theorem RG.qadd {PA PB : Nat → Prop} {WC WM : List (Nat × Nat)} {S S4 S16 : wPS} {o2 o : Nat} (m : RG o2 S o) (hA : isA S o 12) (hW : wtB S []) (hw : stp WC [] [] S S4) (hm : stp WM [] [] S4 S16) (hc : (114, 10) ∉ WC ∧ (122, 10) ∉ WC) (hk : (9, 1) ∉ WM ∧ (19, 101) ∉ WM)
    (c4 : (S4.I o2 1).toInt = (S.I o2 1).toInt + 1) (N : ∃ g : Nat, g ∉ S.L ∧ isA S4 g 2 ∧ S4.r (S.f o2 0) (S.I o2 1).toNatClampNeg = some g ∧ (∀ i : Nat, i ≠ (S.I o2 1).toNatClampNeg → S4.r (S.f o2 0) i = S.r (S.f o2 0) i) ∧ PA g)
    (M : ∃ g a : Nat, g ∉ S4.L ∧ isA S16 g 10 ∧ S16.F (S4.f o 0) 1 = some a ∧ isA S16 a 22 ∧ S16.r a (S4.I (S4.f o 0) 2).toNatClampNeg = some g ∧ (∀ i : Nat, (i : Int) < (S4.I (S4.f o 0) 2).toInt → S16.r a i = S4.r (S4.f (S4.f o 0) 1) i) ∧ PB g) : S16.I o2 1 = S4.I o2 1 ∧ ∃ g b : Nat, g ∉ S.L ∧ b ∉ S4.L ∧ isA S4 g 2 ∧ isA S16 b 10 ∧ PA g ∧ PB b ∧ S16.q (S16.f o2 0) (S.I o2 1).toNatClampNeg = g ∧ S16.q (S16.f (S16.f o 0) 1) (S.I o2 1).toNatClampNeg = b ∧ (∀ i : Nat, (i : Int) < (S.I o2 1).toInt → S16.q (S16.f o2 0) i = S.q (S.f o2 0) i ∧ S16.q (S16.f (S16.f o 0) 1) i = S.q (S.f (S.f o 0) 1) i) := by
  have m0 := m
  obtain ⟨hA2, ⟨e0, l0, n0⟩, mc, mg, md⟩ := m
  obtain ⟨f4, m4, q4, fl4, rl4⟩ := RG.st hw hW hA hc m0
  obtain ⟨g, ng, gA, gr, go, pa⟩ := N
  obtain ⟨b, a, nb, bA, aF, aA, br, bo, pb⟩ := M
  rw [f4] at aF br bo
  rw [q4] at br bo
  rw [fl4] at bo
  have k9 := (hW.at hA2 List.not_mem_nil).to_9 hA2.2.1
  have R9 := k9.R1
  have e16 := hm.x.F (hw.x.A hA) (Or.inl (by decide)) m4.1
  rw [f4] at e16
  have f16 : S16.f o 0 = (S.f o 0) := f_of e16
  have cI : S16.I o2 1 = S4.I o2 1 := ((hm.fR o2 (hw.x.A hA2).1 List.not_mem_nil).1 1 (by rw [(hw.x.A hA2).2.1]; exact hk.1)).1
  have fa4 : S4.f o2 0 = S.f o2 0 := f_of (hw.x.F hA2 (Or.inl (by decide)) k9.F0.1)
  have fa : S16.f o2 0 = S.f o2 0 := f_of (hm.x.F (hw.x.A hA2) (Or.inl (by decide)) (hw.x.F hA2 (Or.inl (by decide)) k9.F0.1))
  have aA4 := hw.x.A k9.F0.2.1
  have ra : S16.r (S.f o2 0) = S4.r (S.f o2 0) := (hm.fR _ aA4.1 List.not_mem_nil).2.2.1 (by rw [aA4.2.1]; exact hk.2)
  have fl16 : S16.f (S.f o 0) 1 = a := f_of aF
  have ck := cl_int (i := S.I o2 1) R9.1
  have ck2 := cl_int (i := S.I (S.f o 0) 2) (by omega)
  have ek : (S.I (S.f o 0) 2).toNatClampNeg = (S.I o2 1).toNatClampNeg := by omega
  rw [ek] at br
  refine ⟨cI, g, b, ng, nb, gA, bA, pa, pb, ?_, ?_, fun i hi => ⟨?_, ?_⟩⟩
  · unfold wPS.q; rw [fa, ra, gr]; rfl
  · unfold wPS.q; rw [f16, fl16, br]; rfl
  · unfold wPS.q; rw [fa, ra, go i (by omega)]
  · unfold wPS.q; rw [f16, fl16, bo i (by omega), rl4 i hi]
/-- the same gears on both sides, with the same shifts between -100 and 100 -/
def RGS (o2 : Nat) (S : wPS) (o : Nat) : Prop := RG o2 S o ∧ ∀ i : Nat, (i : Int) < (S.I o2 1).toInt → -100 ≤ (S.I (S.q (S.f o2 0) i) 7).toInt ∧ (S.I (S.q (S.f o2 0) i) 7).toInt ≤ 100
theorem RGS.keep {W : List (Nat × Nat)} {S U : wPS} {o2 o : Nat} (h : stp W [] [] S U) (hW : wtB S []) (hA : isA S o 12) (h1 : ∀ p ∈ ([(2, 0), (2, 1), (2, 2), (2, 3), (2, 4), (2, 7), (2, 8), (2, 9), (2, 10), (2, 11), (9, 1), (10, 1), (10, 2), (10, 3), (10, 4), (10, 7), (10, 8), (10, 10), (10, 11), (10, 18), (19, 101), (114, 10), (122, 10)] : List (Nat × Nat)), p ∉ W) (_ : True) (m : RGS o2 S o) : RGS o2 U o := by
  obtain ⟨m1, my⟩ := m
  obtain ⟨c1, qa, qb⟩ := RG.qs h hW hA h1 m1
  refine ⟨RG.keep h hW hA h1 trivial m1, fun i hi => ?_⟩
  rw [c1] at hi
  obtain ⟨ga, gb, -⟩ := m1.2.2.2.1 i hi
  rw [qa, ((h.fR _ ga.1 List.not_mem_nil).1 7 (by rw [ga.2.1]; exact h1 _ (by decide))).1]
  exact my i hi
theorem RGS.sI {S : wPS} {o2 o j : Nat} {t : Int32} (hA : isA S o 12) (m : RGS o2 S o) : RGS o2 (S.sI o j t) o := by
  obtain ⟨m1, my⟩ := m
  have ne : ∀ {x k : Nat}, isA S x k → k ≠ 12 → (S.sI o j t).I x = S.I x := fun hx hk => sI_no (fun e => hk (by rw [← hx.2.1, e]; exact hA.2.1))
  refine ⟨RG.sI hA m1, fun i hi => ?_⟩
  rw [ne m1.1 (by decide)] at hi
  obtain ⟨ga, gb, -⟩ := m1.2.2.2.1 i hi
  show -100 ≤ ((S.sI o j t).I (S.q (S.f o2 0) i) 7).toInt ∧ ((S.sI o j t).I (S.q (S.f o2 0) i) 7).toInt ≤ 100
  rw [ne ga (by decide)]
  exact my i hi
theorem RGS.upd {S T : wPS} {o2 o : Nat} (ex : Nat → Prop) (sL : T.L = S.L) (sK : T.K = S.K) (sn : T.n = S.n) (sF : T.F = S.F) (sr : T.r = S.r) (c1 : T.I o2 1 = S.I o2 1) (c2 : T.I (S.f o 0) 2 = S.I (S.f o 0) 2) (h : ∀ i : Nat, (i : Int) < (S.I o2 1).toInt → ex i → GRG T i (S.q (S.f o2 0) i) (S.q (S.f (S.f o 0) 1) i) ∧ -100 ≤ (T.I (S.q (S.f o2 0) i) 7).toInt ∧ (T.I (S.q (S.f o2 0) i) 7).toInt ≤ 100) (n : ∀ i : Nat, (i : Int) < (S.I o2 1).toInt → ¬ ex i → T.I (S.q (S.f o2 0) i) = S.I (S.q (S.f o2 0) i) ∧ T.I (S.q (S.f (S.f o 0) 1) i) = S.I (S.q (S.f (S.f o 0) 1) i)) (m : RGS o2 S o) : RGS o2 T o := by
  have f' : ∀ a j, T.f a j = S.f a j := fun a j => by unfold wPS.f; rw [sF]
  have q' : ∀ a j, T.q a j = S.q a j := fun a j => by unfold wPS.q; rw [sr]
  have A' : ∀ {x k : Nat}, isA S x k → isA T x k := fun h => by unfold isA at h ⊢; rw [sL, sK, sn]; exact h
  obtain ⟨⟨hA2, ⟨e0, l0, n0⟩, mc, mg, mdd⟩, my⟩ := m
  refine ⟨⟨A' hA2, ⟨by rw [f', sF]; exact e0, by rw [f']; exact A' l0, by rw [f', sn]; exact n0⟩, by rw [c1, f', c2]; exact mc, fun i hi => ?_, fun i j hi hj hn => ?_⟩, fun i hi => ?_⟩
  · rw [c1] at hi
    simp only [f', q']
    by_cases hie : ex i
    · exact (h i hi hie).1
    · obtain ⟨na, nb⟩ := n i hi hie
      obtain ⟨ga, gb, g0, p1, p2, p3, p4, p7, p8, p9, p10, p11⟩ := mg i hi
      exact ⟨A' ga, A' gb, by rw [na]; exact g0, by rw [na, nb]; exact p1, by rw [na, nb]; exact p2, by rw [na, nb]; exact p3, by rw [na, nb]; exact p4, by rw [na, nb]; exact p7, by rw [na, nb]; exact p8, by rw [na, nb]; exact p9, by rw [na, nb]; exact p10, by rw [na, nb]; exact p11⟩
  · rw [c1] at hi hj
    simp only [f', q']
    exact mdd i j hi hj hn
  · rw [c1] at hi
    simp only [f', q']
    by_cases hie : ex i
    · exact (h i hi hie).2
    · rw [(n i hi hie).1]; exact my i hi
theorem RGS.set7 {S : wPS} {o2 o i : Nat} {v : Int32} (hA : isA S o 12) (hi : (i : Int) < (S.I o2 1).toInt) (hv : -100 ≤ v.toInt ∧ v.toInt ≤ 100) (m : RGS o2 S o) : RGS o2 ((S.sI (S.q (S.f o2 0) i) 7 v).sI (S.q (S.f (S.f o 0) 1) i) 7 v) o := by
  refine ⟨RG.set7 hA hi m.1, fun j hj => ?_⟩
  obtain ⟨ga, gb, -⟩ := m.1.2.2.2.1 i hi
  have ne : ∀ {x k : Nat}, isA S x k → k ≠ 2 → k ≠ 10 → ((S.sI (S.q (S.f o2 0) i) 7 v).sI (S.q (S.f (S.f o 0) 1) i) 7 v).I x = S.I x := fun hx h1 h2 => (sI_no (fun e => h2 (by rw [← hx.2.1, e]; exact gb.2.1))).trans (sI_no (fun e => h1 (by rw [← hx.2.1, e]; exact ga.2.1)))
  rw [ne m.1.1 (by decide) (by decide)] at hj
  obtain ⟨gj, -⟩ := m.1.2.2.2.1 j hj
  show -100 ≤ (((S.sI (S.q (S.f o2 0) i) 7 v).sI (S.q (S.f (S.f o 0) 1) i) 7 v).I (S.q (S.f o2 0) j) 7).toInt ∧ (((S.sI (S.q (S.f o2 0) i) 7 v).sI (S.q (S.f (S.f o 0) 1) i) 7 v).I (S.q (S.f o2 0) j) 7).toInt ≤ 100
  rw [sI_no (fun e => by have k := gj.2.1; rw [e, gb.2.1] at k; exact absurd k (by decide))]
  by_cases e : j = i
  · rw [e, sI_eq]; exact hv
  · rw [sI_no (m.1.2.2.2.2 j i hj hi e).1]; exact m.2 j hj
theorem RGS.set8 {S : wPS} {o2 o i : Nat} {v : Int32} (hA : isA S o 12) (hi : (i : Int) < (S.I o2 1).toInt) (m : RGS o2 S o) : RGS o2 ((S.sI (S.q (S.f o2 0) i) 8 v).sI (S.q (S.f (S.f o 0) 1) i) 8 v) o := by
  refine ⟨RG.set8 hA hi m.1, fun j hj => ?_⟩
  obtain ⟨ga, gb, -⟩ := m.1.2.2.2.1 i hi
  have ne : ∀ {x k : Nat}, isA S x k → k ≠ 2 → k ≠ 10 → ((S.sI (S.q (S.f o2 0) i) 8 v).sI (S.q (S.f (S.f o 0) 1) i) 8 v).I x = S.I x := fun hx h1 h2 => (sI_no (fun e => h2 (by rw [← hx.2.1, e]; exact gb.2.1))).trans (sI_no (fun e => h1 (by rw [← hx.2.1, e]; exact ga.2.1)))
  rw [ne m.1.1 (by decide) (by decide)] at hj
  obtain ⟨gj, -⟩ := m.1.2.2.2.1 j hj
  show -100 ≤ (((S.sI (S.q (S.f o2 0) i) 8 v).sI (S.q (S.f (S.f o 0) 1) i) 8 v).I (S.q (S.f o2 0) j) 7).toInt ∧ (((S.sI (S.q (S.f o2 0) i) 8 v).sI (S.q (S.f (S.f o 0) 1) i) 8 v).I (S.q (S.f o2 0) j) 7).toInt ≤ 100
  rw [sI_no (fun e => by have k := gj.2.1; rw [e, gb.2.1] at k; exact absurd k (by decide))]
  by_cases e : j = i
  · rw [e, sI_ne (by decide)]; exact m.2 i hi
  · rw [sI_no (m.1.2.2.2.2 j i hj hi e).1]; exact m.2 j hj
/-- the same hobs on both sides -/
def GRH (S : wPS) (i a b : Nat) : Prop := isA S a 3 ∧ isA S b 11 ∧ S.I a 0 = S.I b 0 ∧ S.I a 1 = S.I b 1 ∧ S.I a 3 = S.I b 4 ∧ S.I a 4 = S.I b 6 ∧ S.I a 5 = S.I b 5
def RH (o2 : Nat) (S : wPS) (o : Nat) : Prop := isA S o2 9 ∧ (S.F o 1 = some (S.f o 1) ∧ isA S (S.f o 1) 14 ∧ S.n (S.f o 1) = 11) ∧ (S.I o2 3).toInt = (S.I (S.f o 1) 2).toInt ∧ (∀ i : Nat, (i : Int) < (S.I o2 3).toInt → GRH S i (S.q (S.f o2 2) i) (S.q (S.f (S.f o 1) 1) i)) ∧ (∀ i j : Nat, (i : Int) < (S.I o2 3).toInt → (j : Int) < (S.I o2 3).toInt → ¬ i = j → ¬ S.q (S.f o2 2) i = S.q (S.f o2 2) j ∧ ¬ S.q (S.f (S.f o 1) 1) i = S.q (S.f (S.f o 1) 1) j)
theorem GRH.fr {W : List (Nat × Nat)} {S U : wPS} {i a b : Nat} (h : stp W [] [] S U) (h1 : ∀ p ∈ ([(3, 0), (3, 1), (3, 3), (3, 4), (3, 5), (9, 3), (11, 0), (11, 1), (11, 4), (11, 5), (11, 6), (20, 101), (114, 11), (122, 11)] : List (Nat × Nat)), p ∉ W) (m : GRH S i a b) : GRH U i a b := by
  obtain ⟨ga, gb, p0, p1, p3, p4, p5⟩ := m
  have fa := (h.fR a ga.1 List.not_mem_nil).1
  have fb := (h.fR b gb.1 List.not_mem_nil).1
  rw [ga.2.1] at fa
  rw [gb.2.1] at fb
  exact ⟨h.x.A ga, h.x.A gb, by rw [(fa 0 (h1 _ (by decide))).1, (fb 0 (h1 _ (by decide))).1]; exact p0, by rw [(fa 1 (h1 _ (by decide))).1, (fb 1 (h1 _ (by decide))).1]; exact p1, by rw [(fa 3 (h1 _ (by decide))).1, (fb 4 (h1 _ (by decide))).1]; exact p3, by rw [(fa 4 (h1 _ (by decide))).1, (fb 6 (h1 _ (by decide))).1]; exact p4, by rw [(fa 5 (h1 _ (by decide))).1, (fb 5 (h1 _ (by decide))).1]; exact p5⟩
theorem RH.st {W : List (Nat × Nat)} {S U : wPS} {o2 o : Nat} (h : stp W [] [] S U) (hW : wtB S []) (hA : isA S o 12) (hl : (114, 11) ∉ W ∧ (122, 11) ∉ W) (m : RH o2 S o) : U.f o 1 = S.f o 1 ∧ (U.F o 1 = some (U.f o 1) ∧ isA U (U.f o 1) 14 ∧ U.n (U.f o 1) = 11) ∧ U.I (S.f o 1) 2 = S.I (S.f o 1) 2 ∧ U.f (S.f o 1) 1 = S.f (S.f o 1) 1 ∧ ∀ i : Nat, (i : Int) < (S.I o2 3).toInt → U.r (S.f (S.f o 1) 1) i = S.r (S.f (S.f o 1) 1) i := by
  obtain ⟨hA2, ⟨e0, l0, n0⟩, mc, -, -⟩ := m
  have e' := h.x.F hA (Or.inl (by decide)) e0
  have f' : U.f o 1 = S.f o 1 := f_of e'
  have q := h.2.2.2.2.2 (S.f o 1) l0.1 List.not_mem_nil
  have q2 : U.I (S.f o 1) 2 = S.I (S.f o 1) 2 ∧ U.F (S.f o 1) = S.F (S.f o 1) := by
    rcases (q.1 l0.2.1).2 with w | w
    · rw [n0] at w; exact absurd w hl.1
    · exact w
  refine ⟨f', ⟨by rw [f']; exact e', by rw [f']; exact h.x.A l0, by rw [f', h.x.n l0]; exact n0⟩, q2.1, by show (U.F (S.f o 1) 1).getD 0 = (S.F (S.f o 1) 1).getD 0; rw [q2.2], fun i hi => ?_⟩
  rcases (hW.at l0 List.not_mem_nil).to_14 l0.2.1 with ⟨-, z⟩ | ⟨-, a2, -, a4, -, -, -⟩
  · omega
  · rcases (h.2.2.2.2.2 _ a2.1 List.not_mem_nil).2 a2.2.1 11 (by rw [a4, n0]) with w | w
    · exact absurd w hl.2
    · rw [w]
theorem RH.keep {W : List (Nat × Nat)} {S U : wPS} {o2 o : Nat} (h : stp W [] [] S U) (hW : wtB S []) (hA : isA S o 12) (h1 : ∀ p ∈ ([(3, 0), (3, 1), (3, 3), (3, 4), (3, 5), (9, 3), (11, 0), (11, 1), (11, 4), (11, 5), (11, 6), (20, 101), (114, 11), (122, 11)] : List (Nat × Nat)), p ∉ W) (_ : True) (m : RH o2 S o) : RH o2 U o := by
  have m0 := m
  obtain ⟨hA2, ⟨e0, l0, n0⟩, mc, mg, md⟩ := m
  obtain ⟨f', m1, q2, fl, rl⟩ := RH.st h hW hA ⟨h1 _ (by decide), h1 _ (by decide)⟩ m0
  have c1 : U.I o2 3 = S.I o2 3 := ((h.fR o2 hA2.1 List.not_mem_nil).1 3 (by rw [hA2.2.1]; exact h1 _ (by decide))).1
  have k9 := (hW.at hA2 List.not_mem_nil).to_9 hA2.2.1
  have fa : U.f o2 2 = S.f o2 2 := f_of (h.x.F hA2 (Or.inl (by decide)) k9.F2.1)
  have ra : U.r (S.f o2 2) = S.r (S.f o2 2) := (h.fR _ k9.F2.2.1.1 List.not_mem_nil).2.2.1 (by rw [k9.F2.2.1.2.1]; exact h1 _ (by decide))
  have qa : ∀ i, U.q (U.f o2 2) i = S.q (S.f o2 2) i := fun i => by unfold wPS.q; rw [fa, ra]
  have qb : ∀ i : Nat, (i : Int) < (S.I o2 3).toInt → U.q (U.f (U.f o 1) 1) i = S.q (S.f (S.f o 1) 1) i := fun i hi => by unfold wPS.q; rw [f', fl, rl i hi]
  refine ⟨h.x.A hA2, m1, by rw [c1, f', q2]; exact mc, fun i hi => ?_, fun i j hi hj hn => ?_⟩
  · rw [c1] at hi
    rw [qa, qb i hi]
    exact (mg i hi).fr h h1
  · rw [c1] at hi hj
    rw [qa, qa, qb i hi, qb j hj]
    exact md i j hi hj hn
theorem RH.sI {S : wPS} {o2 o j : Nat} {t : Int32} (hA : isA S o 12) (m : RH o2 S o) : RH o2 (S.sI o j t) o := by
  have ne : ∀ {x k : Nat}, isA S x k → k ≠ 12 → (S.sI o j t).I x = S.I x := fun hx hk => sI_no (fun e => hk (by rw [← hx.2.1, e]; exact hA.2.1))
  obtain ⟨hA2, ⟨e0, l0, n0⟩, mc, mg, md⟩ := m
  refine ⟨hA2, ⟨e0, l0, n0⟩, ?_, fun i hi => ?_, fun i j hi hj hn => ?_⟩
  · show ((S.sI o j t).I o2 3).toInt = ((S.sI o j t).I (S.f o 1) 2).toInt
    rw [ne hA2 (by decide), ne l0 (by decide)]; exact mc
  · rw [ne hA2 (by decide)] at hi
    obtain ⟨ga, gb, p0, p1, p3, p4, p5⟩ := mg i hi
    show GRH (S.sI o j t) i (S.q (S.f o2 2) i) (S.q (S.f (S.f o 1) 1) i)
    exact ⟨ga, gb, by rw [ne ga (by decide), ne gb (by decide)]; exact p0, by rw [ne ga (by decide), ne gb (by decide)]; exact p1, by rw [ne ga (by decide), ne gb (by decide)]; exact p3, by rw [ne ga (by decide), ne gb (by decide)]; exact p4, by rw [ne ga (by decide), ne gb (by decide)]; exact p5⟩
  · rw [ne hA2 (by decide)] at hi hj
    exact md i j hi hj hn
theorem RH.set4 {S : wPS} {o2 o i : Nat} {v : Int32} (hA : isA S o 12) (hi : (i : Int) < (S.I o2 3).toInt) (m : RH o2 S o) : RH o2 ((S.sI (S.q (S.f o2 2) i) 4 v).sI (S.q (S.f (S.f o 1) 1) i) 6 v) o := by
  obtain ⟨hA2, ⟨e0, l0, n0⟩, mc, mg, md⟩ := m
  obtain ⟨ga, gb, -⟩ := mg i hi
  have hab : ¬ (S.q (S.f o2 2) i) = (S.q (S.f (S.f o 1) 1) i) := fun e => by have k := ga.2.1; rw [e, gb.2.1] at k; exact absurd k (by decide)
  obtain ⟨a, ea⟩ : ∃ z, (S.q (S.f o2 2) i) = z := ⟨_, rfl⟩
  obtain ⟨b, eb⟩ : ∃ z, (S.q (S.f (S.f o 1) 1) i) = z := ⟨_, rfl⟩
  rw [ea] at ga hab
  rw [eb] at gb hab
  rw [ea, eb]
  have oth : ∀ x : Nat, ¬ x = a → ¬ x = b → ((S.sI a 4 v).sI b 6 v).I x = S.I x := fun x h1 h2 => (sI_no h2).trans (sI_no h1)
  have neq : ∀ {x k : Nat}, isA S x k → k ≠ 3 → k ≠ 11 → ((S.sI a 4 v).sI b 6 v).I x = S.I x := fun hx h1 h2 => oth _ (fun e => h1 (by rw [← hx.2.1, e]; exact ga.2.1)) (fun e => h2 (by rw [← hx.2.1, e]; exact gb.2.1))
  refine ⟨hA2, ⟨e0, l0, n0⟩, ?_, fun j hj => ?_, fun j k hj hk hn => ?_⟩
  · show (((S.sI a 4 v).sI b 6 v).I o2 3).toInt = (((S.sI a 4 v).sI b 6 v).I (S.f o 1) 2).toInt
    rw [neq hA2 (by decide) (by decide), neq l0 (by decide) (by decide)]; exact mc
  · rw [neq hA2 (by decide) (by decide)] at hj
    show GRH ((S.sI a 4 v).sI b 6 v) j (S.q (S.f o2 2) j) (S.q (S.f (S.f o 1) 1) j)
    obtain ⟨ha, hb, p0, p1, p3, p4, p5⟩ := mg j hj
    by_cases hji : j = i
    · subst hji
      rw [ea] at ha p0 p1 p3 p4 p5
      rw [eb] at hb p0 p1 p3 p4 p5
      rw [ea, eb]
      have Ia : ∀ z, ¬ z = 4 → ((S.sI a 4 v).sI b 6 v).I a z = S.I a z := fun z h => (congrFun (sI_no hab) z).trans (sI_ne h)
      have Ib : ∀ z, ¬ z = 6 → ((S.sI a 4 v).sI b 6 v).I b z = S.I b z := fun z h => (sI_ne h).trans (congrFun (sI_no (fun e => hab e.symm)) z)
      have Iap : ((S.sI a 4 v).sI b 6 v).I a 4 = v := (congrFun (sI_no hab) 4).trans sI_eq
      have Ibp : ((S.sI a 4 v).sI b 6 v).I b 6 = v := sI_eq
      exact ⟨ha, hb, by rw [Ia 0 (by decide), Ib 0 (by decide)]; exact p0, by rw [Ia 1 (by decide), Ib 1 (by decide)]; exact p1, by rw [Ia 3 (by decide), Ib 4 (by decide)]; exact p3, by rw [Iap, Ibp], by rw [Ia 5 (by decide), Ib 5 (by decide)]; exact p5⟩
    · obtain ⟨na, nb⟩ := md j i hj hi hji
      rw [ea] at na
      rw [eb] at nb
      have nab : ¬ S.q (S.f o2 2) j = b := fun e => by have k := ha.2.1; rw [e, gb.2.1] at k; exact absurd k (by decide)
      have nba : ¬ S.q (S.f (S.f o 1) 1) j = a := fun e => by have k := hb.2.1; rw [e, ga.2.1] at k; exact absurd k (by decide)
      exact ⟨ha, hb, by rw [oth _ na nab, oth _ nba nb]; exact p0, by rw [oth _ na nab, oth _ nba nb]; exact p1, by rw [oth _ na nab, oth _ nba nb]; exact p3, by rw [oth _ na nab, oth _ nba nb]; exact p4, by rw [oth _ na nab, oth _ nba nb]; exact p5⟩
  · rw [neq hA2 (by decide) (by decide)] at hj hk
    exact md j k hj hk hn
theorem RH.set5 {S : wPS} {o2 o i : Nat} {v : Int32} (hA : isA S o 12) (hi : (i : Int) < (S.I o2 3).toInt) (m : RH o2 S o) : RH o2 ((S.sI (S.q (S.f o2 2) i) 5 v).sI (S.q (S.f (S.f o 1) 1) i) 5 v) o := by
  obtain ⟨hA2, ⟨e0, l0, n0⟩, mc, mg, md⟩ := m
  obtain ⟨ga, gb, -⟩ := mg i hi
  have hab : ¬ (S.q (S.f o2 2) i) = (S.q (S.f (S.f o 1) 1) i) := fun e => by have k := ga.2.1; rw [e, gb.2.1] at k; exact absurd k (by decide)
  obtain ⟨a, ea⟩ : ∃ z, (S.q (S.f o2 2) i) = z := ⟨_, rfl⟩
  obtain ⟨b, eb⟩ : ∃ z, (S.q (S.f (S.f o 1) 1) i) = z := ⟨_, rfl⟩
  rw [ea] at ga hab
  rw [eb] at gb hab
  rw [ea, eb]
  have oth : ∀ x : Nat, ¬ x = a → ¬ x = b → ((S.sI a 5 v).sI b 5 v).I x = S.I x := fun x h1 h2 => (sI_no h2).trans (sI_no h1)
  have neq : ∀ {x k : Nat}, isA S x k → k ≠ 3 → k ≠ 11 → ((S.sI a 5 v).sI b 5 v).I x = S.I x := fun hx h1 h2 => oth _ (fun e => h1 (by rw [← hx.2.1, e]; exact ga.2.1)) (fun e => h2 (by rw [← hx.2.1, e]; exact gb.2.1))
  refine ⟨hA2, ⟨e0, l0, n0⟩, ?_, fun j hj => ?_, fun j k hj hk hn => ?_⟩
  · show (((S.sI a 5 v).sI b 5 v).I o2 3).toInt = (((S.sI a 5 v).sI b 5 v).I (S.f o 1) 2).toInt
    rw [neq hA2 (by decide) (by decide), neq l0 (by decide) (by decide)]; exact mc
  · rw [neq hA2 (by decide) (by decide)] at hj
    show GRH ((S.sI a 5 v).sI b 5 v) j (S.q (S.f o2 2) j) (S.q (S.f (S.f o 1) 1) j)
    obtain ⟨ha, hb, p0, p1, p3, p4, p5⟩ := mg j hj
    by_cases hji : j = i
    · subst hji
      rw [ea] at ha p0 p1 p3 p4 p5
      rw [eb] at hb p0 p1 p3 p4 p5
      rw [ea, eb]
      have Ia : ∀ z, ¬ z = 5 → ((S.sI a 5 v).sI b 5 v).I a z = S.I a z := fun z h => (congrFun (sI_no hab) z).trans (sI_ne h)
      have Ib : ∀ z, ¬ z = 5 → ((S.sI a 5 v).sI b 5 v).I b z = S.I b z := fun z h => (sI_ne h).trans (congrFun (sI_no (fun e => hab e.symm)) z)
      have Iap : ((S.sI a 5 v).sI b 5 v).I a 5 = v := (congrFun (sI_no hab) 5).trans sI_eq
      have Ibp : ((S.sI a 5 v).sI b 5 v).I b 5 = v := sI_eq
      exact ⟨ha, hb, by rw [Ia 0 (by decide), Ib 0 (by decide)]; exact p0, by rw [Ia 1 (by decide), Ib 1 (by decide)]; exact p1, by rw [Ia 3 (by decide), Ib 4 (by decide)]; exact p3, by rw [Ia 4 (by decide), Ib 6 (by decide)]; exact p4, by rw [Iap, Ibp]⟩
    · obtain ⟨na, nb⟩ := md j i hj hi hji
      rw [ea] at na
      rw [eb] at nb
      have nab : ¬ S.q (S.f o2 2) j = b := fun e => by have k := ha.2.1; rw [e, gb.2.1] at k; exact absurd k (by decide)
      have nba : ¬ S.q (S.f (S.f o 1) 1) j = a := fun e => by have k := hb.2.1; rw [e, ga.2.1] at k; exact absurd k (by decide)
      exact ⟨ha, hb, by rw [oth _ na nab, oth _ nba nb]; exact p0, by rw [oth _ na nab, oth _ nba nb]; exact p1, by rw [oth _ na nab, oth _ nba nb]; exact p3, by rw [oth _ na nab, oth _ nba nb]; exact p4, by rw [oth _ na nab, oth _ nba nb]; exact p5⟩
  · rw [neq hA2 (by decide) (by decide)] at hj hk
    exact md j k hj hk hn
theorem RH.add {EA EB : Nat → Prop} {WC WM : List (Nat × Nat)} {S S4 S16 : wPS} {o2 o : Nat} {x1 x2 x3 x4 : Int32} (m : RH o2 S o) (hA : isA S o 12) (hW : wtB S []) (hw : stp WC [] [] S S4) (hm : stp WM [] [] S4 S16) (hc : ∀ p ∈ ([(3, 0), (3, 1), (3, 3), (3, 4), (3, 5), (11, 0), (11, 1), (11, 4), (11, 5), (11, 6), (114, 11), (122, 11)] : List (Nat × Nat)), p ∉ WC) (hk : ∀ p ∈ ([(3, 0), (3, 1), (3, 3), (3, 4), (3, 5), (9, 3), (11, 0), (11, 1), (11, 4), (11, 5), (11, 6), (20, 101)] : List (Nat × Nat)), p ∉ WM)
    (c4 : (S4.I o2 3).toInt = (S.I o2 3).toInt + 1) (N : ∃ g : Nat, g ∉ S.L ∧ isA S4 g 3 ∧ S4.r (S.f o2 2) (S.I o2 3).toNatClampNeg = some g ∧ (∀ i : Nat, i ≠ (S.I o2 3).toNatClampNeg → S4.r (S.f o2 2) i = S.r (S.f o2 2) i) ∧ S4.I g 0 = x1 ∧ S4.I g 1 = x2 ∧ S4.I g 3 = x3 ∧ S4.I g 4 = (0 : Int32) ∧ S4.I g 5 = (0 : Int32) ∧ EA g)
    (n1 : (S16.I (S4.f o 1) 2).toInt = (S4.I (S4.f o 1) 2).toInt + 1) (M : ∃ g a : Nat, g ∉ S4.L ∧ isA S16 g 11 ∧ S16.F (S4.f o 1) 1 = some a ∧ isA S16 a 22 ∧ S16.r a (S4.I (S4.f o 1) 2).toNatClampNeg = some g ∧ (∀ i : Nat, (i : Int) < (S4.I (S4.f o 1) 2).toInt → S16.r a i = S4.r (S4.f (S4.f o 1) 1) i) ∧ S16.I g 0 = x1 ∧ S16.I g 1 = x2 ∧ S16.I g 4 = x3 ∧ S16.I g 3 = x4 ∧ S16.I g 5 = (0 : Int32) ∧ S16.I g 6 = (0 : Int32) ∧ EB g) : RH o2 S16 o := by
  have m0 := m
  obtain ⟨hA2, ⟨e0, l0, n0⟩, mc, mg, md⟩ := m
  obtain ⟨f4, m4, q4, fl4, rl4⟩ := RH.st hw hW hA ⟨hc _ (by decide), hc _ (by decide)⟩ m0
  obtain ⟨g, ng, gA, gr, go, cv0, cv1, cv3, cv4, cv5, -⟩ := N
  obtain ⟨b, a, nb, bA, aF, aA, br, bo, dv0, dv1, dv4, dv3, dv5, dv6, -⟩ := M
  rw [f4] at n1 aF br bo
  rw [q4] at n1 br bo
  rw [fl4] at bo
  have R9 := ((hW.at hA2 List.not_mem_nil).to_9 hA2.2.1).R3
  have k9 := (hW.at hA2 List.not_mem_nil).to_9 hA2.2.1
  have e16 := hm.x.F (hw.x.A hA) (Or.inl (by decide)) m4.1
  rw [f4] at e16
  have f16 : S16.f o 1 = (S.f o 1) := f_of e16
  have cI : S16.I o2 3 = S4.I o2 3 := ((hm.fR o2 (hw.x.A hA2).1 List.not_mem_nil).1 3 (by rw [(hw.x.A hA2).2.1]; exact hk _ (by decide))).1
  have fa4 : S4.f o2 2 = S.f o2 2 := f_of (hw.x.F hA2 (Or.inl (by decide)) k9.F2.1)
  have fa : S16.f o2 2 = S.f o2 2 := f_of (hm.x.F (hw.x.A hA2) (Or.inl (by decide)) (hw.x.F hA2 (Or.inl (by decide)) k9.F2.1))
  have aA4 := hw.x.A k9.F2.2.1
  have ra : S16.r (S.f o2 2) = S4.r (S.f o2 2) := (hm.fR _ aA4.1 List.not_mem_nil).2.2.1 (by rw [aA4.2.1]; exact hk _ (by decide))
  have fl16 : S16.f (S.f o 1) 1 = a := f_of aF
  have ck := cl_int (i := S.I o2 3) R9.1
  have ck2 := cl_int (i := S.I (S.f o 1) 2) (by omega)
  have qa0 : ∀ i, S16.q (S16.f o2 2) i = S4.q (S.f o2 2) i := fun i => by unfold wPS.q; rw [fa, ra]
  have qb0 : ∀ i, S16.q (S16.f (S16.f o 1) 1) i = S16.q a i := fun i => by rw [f16, fl16]
  have eaN : ∀ i, i = (S.I o2 3).toNatClampNeg → S4.q (S.f o2 2) i = g := fun i hik => by rw [hik]; exact q_of gr
  have ebN : ∀ i, i = (S.I o2 3).toNatClampNeg → S16.q a i = b := fun i hik => by rw [show i = (S.I (S.f o 1) 2).toNatClampNeg by omega]; exact q_of br
  have eaO : ∀ i, ¬ i = (S.I o2 3).toNatClampNeg → S4.q (S.f o2 2) i = S.q (S.f o2 2) i := fun i hik => by unfold wPS.q; rw [go i hik]
  have ebO : ∀ i : Nat, (i : Int) < (S.I o2 3).toInt → S16.q a i = S.q (S.f (S.f o 1) 1) i := fun i hi' => by unfold wPS.q; rw [bo i (by omega), rl4 i hi']
  refine ⟨(hw.x.tr hm.x).A hA2, ⟨by rw [f16]; exact e16, by rw [f16]; exact (hw.x.tr hm.x).A l0, by rw [f16, (hw.x.tr hm.x).n l0]; exact n0⟩, by rw [cI, f16, c4, n1, mc], fun i hi => ?_, fun i j hi hj hn => ?_⟩
  · rw [cI, c4] at hi
    rw [qa0, qb0]
    by_cases hik : i = (S.I o2 3).toNatClampNeg
    · rw [eaN i hik, ebN i hik]
      have fg := (hm.fR g gA.1 List.not_mem_nil).1
      rw [gA.2.1] at fg
      exact ⟨hm.x.A gA, bA, by rw [(fg 0 (hk _ (by decide))).1, cv0, dv0], by rw [(fg 1 (hk _ (by decide))).1, cv1, dv1], by rw [(fg 3 (hk _ (by decide))).1, cv3, dv4], by rw [(fg 4 (hk _ (by decide))).1, cv4, dv6], by rw [(fg 5 (hk _ (by decide))).1, cv5, dv5]⟩
    · have hi' : (i : Int) < (S.I o2 3).toInt := by omega
      rw [eaO i hik, ebO i hi']
      obtain ⟨ga, gb, p0, p1, p3, p4, p5⟩ := mg i hi'
      have f1 := (hw.fR _ ga.1 List.not_mem_nil).1
      have f2 := (hw.fR _ gb.1 List.not_mem_nil).1
      have f3 := (hm.fR _ (hw.x.A ga).1 List.not_mem_nil).1
      have f5 := (hm.fR _ (hw.x.A gb).1 List.not_mem_nil).1
      rw [ga.2.1] at f1
      rw [gb.2.1] at f2
      rw [(hw.x.A ga).2.1] at f3
      rw [(hw.x.A gb).2.1] at f5
      exact ⟨hm.x.A (hw.x.A ga), hm.x.A (hw.x.A gb), by rw [(f3 0 (hk _ (by decide))).1, (f1 0 (hc _ (by decide))).1, (f5 0 (hk _ (by decide))).1, (f2 0 (hc _ (by decide))).1]; exact p0, by rw [(f3 1 (hk _ (by decide))).1, (f1 1 (hc _ (by decide))).1, (f5 1 (hk _ (by decide))).1, (f2 1 (hc _ (by decide))).1]; exact p1, by rw [(f3 3 (hk _ (by decide))).1, (f1 3 (hc _ (by decide))).1, (f5 4 (hk _ (by decide))).1, (f2 4 (hc _ (by decide))).1]; exact p3, by rw [(f3 4 (hk _ (by decide))).1, (f1 4 (hc _ (by decide))).1, (f5 6 (hk _ (by decide))).1, (f2 6 (hc _ (by decide))).1]; exact p4, by rw [(f3 5 (hk _ (by decide))).1, (f1 5 (hc _ (by decide))).1, (f5 5 (hk _ (by decide))).1, (f2 5 (hc _ (by decide))).1]; exact p5⟩
  · rw [cI, c4] at hi hj
    rw [qa0, qa0, qb0, qb0]
    have nA : ∀ i : Nat, (i : Int) < (S.I o2 3).toInt → ¬ S.q (S.f o2 2) i = g := fun i hi e => ng (by rw [← e]; exact (mg i hi).1.1)
    have nB : ∀ i : Nat, (i : Int) < (S.I o2 3).toInt → ¬ S.q (S.f (S.f o 1) 1) i = b := fun i hi e => nb (by rw [← e]; exact (hw.x.A (mg i hi).2.1).1)
    by_cases hik : i = (S.I o2 3).toNatClampNeg
    · have hj' : (j : Int) < (S.I o2 3).toInt := by omega
      rw [eaN i hik, ebN i hik, eaO j (by omega), ebO j hj']
      exact ⟨fun e => nA j hj' e.symm, fun e => nB j hj' e.symm⟩
    · have hi' : (i : Int) < (S.I o2 3).toInt := by omega
      by_cases hjk : j = (S.I o2 3).toNatClampNeg
      · rw [eaN j hjk, ebN j hjk, eaO i hik, ebO i hi']
        exact ⟨nA i hi', nB i hi'⟩
      · have hj' : (j : Int) < (S.I o2 3).toInt := by omega
        rw [eaO i hik, ebO i hi', eaO j hjk, ebO j hj']
        exact md i j hi' hj' hn
theorem RH.qs {W : List (Nat × Nat)} {S U : wPS} {o2 o : Nat} (h : stp W [] [] S U) (hW : wtB S []) (hA : isA S o 12) (h1 : ∀ p ∈ ([(3, 0), (3, 1), (3, 3), (3, 4), (3, 5), (9, 3), (11, 0), (11, 1), (11, 4), (11, 5), (11, 6), (20, 101), (114, 11), (122, 11)] : List (Nat × Nat)), p ∉ W) (m : RH o2 S o) : U.I o2 3 = S.I o2 3 ∧ (∀ i, U.q (U.f o2 2) i = S.q (S.f o2 2) i) ∧ (∀ i : Nat, (i : Int) < (S.I o2 3).toInt → U.q (U.f (U.f o 1) 1) i = S.q (S.f (S.f o 1) 1) i) := by
  have m0 := m
  obtain ⟨hA2, ⟨e0, l0, n0⟩, mc, mg, md⟩ := m
  obtain ⟨f', m1, q2, fl, rl⟩ := RH.st h hW hA ⟨h1 _ (by decide), h1 _ (by decide)⟩ m0
  have c1 : U.I o2 3 = S.I o2 3 := ((h.fR o2 hA2.1 List.not_mem_nil).1 3 (by rw [hA2.2.1]; exact h1 _ (by decide))).1
  have k9 := (hW.at hA2 List.not_mem_nil).to_9 hA2.2.1
  have fa : U.f o2 2 = S.f o2 2 := f_of (h.x.F hA2 (Or.inl (by decide)) k9.F2.1)
  have ra : U.r (S.f o2 2) = S.r (S.f o2 2) := (h.fR _ k9.F2.2.1.1 List.not_mem_nil).2.2.1 (by rw [k9.F2.2.1.2.1]; exact h1 _ (by decide))
  exact ⟨c1, fun i => by unfold wPS.q; rw [fa, ra], fun i hi => by unfold wPS.q; rw [f', fl, rl i hi]⟩
theorem RH.qadd {PA PB : Nat → Prop} {WC WM : List (Nat × Nat)} {S S4 S16 : wPS} {o2 o : Nat} (m : RH o2 S o) (hA : isA S o 12) (hW : wtB S []) (hw : stp WC [] [] S S4) (hm : stp WM [] [] S4 S16) (hc : (114, 11) ∉ WC ∧ (122, 11) ∉ WC) (hk : (9, 3) ∉ WM ∧ (20, 101) ∉ WM)
    (c4 : (S4.I o2 3).toInt = (S.I o2 3).toInt + 1) (N : ∃ g : Nat, g ∉ S.L ∧ isA S4 g 3 ∧ S4.r (S.f o2 2) (S.I o2 3).toNatClampNeg = some g ∧ (∀ i : Nat, i ≠ (S.I o2 3).toNatClampNeg → S4.r (S.f o2 2) i = S.r (S.f o2 2) i) ∧ PA g)
    (M : ∃ g a : Nat, g ∉ S4.L ∧ isA S16 g 11 ∧ S16.F (S4.f o 1) 1 = some a ∧ isA S16 a 22 ∧ S16.r a (S4.I (S4.f o 1) 2).toNatClampNeg = some g ∧ (∀ i : Nat, (i : Int) < (S4.I (S4.f o 1) 2).toInt → S16.r a i = S4.r (S4.f (S4.f o 1) 1) i) ∧ PB g) : S16.I o2 3 = S4.I o2 3 ∧ ∃ g b : Nat, g ∉ S.L ∧ b ∉ S4.L ∧ isA S4 g 3 ∧ isA S16 b 11 ∧ PA g ∧ PB b ∧ S16.q (S16.f o2 2) (S.I o2 3).toNatClampNeg = g ∧ S16.q (S16.f (S16.f o 1) 1) (S.I o2 3).toNatClampNeg = b ∧ (∀ i : Nat, (i : Int) < (S.I o2 3).toInt → S16.q (S16.f o2 2) i = S.q (S.f o2 2) i ∧ S16.q (S16.f (S16.f o 1) 1) i = S.q (S.f (S.f o 1) 1) i) := by
  have m0 := m
  obtain ⟨hA2, ⟨e0, l0, n0⟩, mc, mg, md⟩ := m
  obtain ⟨f4, m4, q4, fl4, rl4⟩ := RH.st hw hW hA hc m0
  obtain ⟨g, ng, gA, gr, go, pa⟩ := N
  obtain ⟨b, a, nb, bA, aF, aA, br, bo, pb⟩ := M
  rw [f4] at aF br bo
  rw [q4] at br bo
  rw [fl4] at bo
  have k9 := (hW.at hA2 List.not_mem_nil).to_9 hA2.2.1
  have R9 := k9.R3
  have e16 := hm.x.F (hw.x.A hA) (Or.inl (by decide)) m4.1
  rw [f4] at e16
  have f16 : S16.f o 1 = (S.f o 1) := f_of e16
  have cI : S16.I o2 3 = S4.I o2 3 := ((hm.fR o2 (hw.x.A hA2).1 List.not_mem_nil).1 3 (by rw [(hw.x.A hA2).2.1]; exact hk.1)).1
  have fa4 : S4.f o2 2 = S.f o2 2 := f_of (hw.x.F hA2 (Or.inl (by decide)) k9.F2.1)
  have fa : S16.f o2 2 = S.f o2 2 := f_of (hm.x.F (hw.x.A hA2) (Or.inl (by decide)) (hw.x.F hA2 (Or.inl (by decide)) k9.F2.1))
  have aA4 := hw.x.A k9.F2.2.1
  have ra : S16.r (S.f o2 2) = S4.r (S.f o2 2) := (hm.fR _ aA4.1 List.not_mem_nil).2.2.1 (by rw [aA4.2.1]; exact hk.2)
  have fl16 : S16.f (S.f o 1) 1 = a := f_of aF
  have ck := cl_int (i := S.I o2 3) R9.1
  have ck2 := cl_int (i := S.I (S.f o 1) 2) (by omega)
  have ek : (S.I (S.f o 1) 2).toNatClampNeg = (S.I o2 3).toNatClampNeg := by omega
  rw [ek] at br
  refine ⟨cI, g, b, ng, nb, gA, bA, pa, pb, ?_, ?_, fun i hi => ⟨?_, ?_⟩⟩
  · unfold wPS.q; rw [fa, ra, gr]; rfl
  · unfold wPS.q; rw [f16, fl16, br]; rfl
  · unfold wPS.q; rw [fa, ra, go i (by omega)]
  · unfold wPS.q; rw [f16, fl16, bo i (by omega), rl4 i hi]
/-- a hob's numbers are in their ranges, its worn places the same on both sides -/
def HY (S : wPS) (a b : Nat) : Prop := ((500 ≤ (S.I a 0).toInt ∧ (S.I a 0).toInt ≤ 10000) ∧ (1 ≤ (S.I a 1).toInt ∧ (S.I a 1).toInt ≤ 4) ∧ (20000 ≤ (S.I a 3).toInt ∧ (S.I a 3).toInt ≤ 200000) ∧ (0 ≤ (S.I a 4).toInt ∧ (S.I a 4).toInt ≤ 8) ∧ (0 ≤ (S.I a 5).toInt ∧ (S.I a 5).toInt < (S.n (S.f a 2) : Int))) ∧ (S.F a 2 = some (S.f a 2) ∧ isA S (S.f a 2) 28 ∧ S.n (S.f a 2) ≤ 20) ∧ (S.F b 2 = some (S.f b 2) ∧ isA S (S.f b 2) 30) ∧ (S.n (S.f a 2) : Int) = (S.I b 3).toInt ∧ ∀ j : Nat, j < S.n (S.f a 2) → S.i (S.f a 2) j = S.i (S.f b 2) j
theorem HY.fr {W : List (Nat × Nat)} {S U : wPS} {a b : Nat} (h : stp W [] [] S U) (ga : isA S a 3) (gb : isA S b 11) (w0 : (3, 0) ∉ W) (w1 : (3, 1) ∉ W) (w3 : (3, 3) ∉ W) (w4 : (3, 4) ∉ W) (w5 : (3, 5) ∉ W) (v3 : (11, 3) ∉ W) (x : (28, 100) ∉ W) (y : (30, 100) ∉ W) (m : HY S a b) : HY U a b := by
  obtain ⟨r, ⟨ea, fa, na⟩, ⟨eb, fb⟩, en, ei⟩ := m
  have Ia := (h.fR a ga.1 List.not_mem_nil).1
  have Ib := (h.fR b gb.1 List.not_mem_nil).1
  rw [ga.2.1] at Ia
  rw [gb.2.1] at Ib
  have ea' := h.x.F ga (Or.inl (by decide)) ea
  have eb' := h.x.F gb (Or.inl (by decide)) eb
  have qa : U.f a 2 = S.f a 2 := f_of ea'
  have qb : U.f b 2 = S.f b 2 := f_of eb'
  have ia : U.i (S.f a 2) = S.i (S.f a 2) := (h.fR _ fa.1 List.not_mem_nil).2.1 (by rw [fa.2.1]; exact x)
  have ib : U.i (S.f b 2) = S.i (S.f b 2) := (h.fR _ fb.1 List.not_mem_nil).2.1 (by rw [fb.2.1]; exact y)
  have nn : U.n (S.f a 2) = S.n (S.f a 2) := h.x.n fa
  unfold HY
  rw [qa, qb, nn, ia, ib, (Ia 0 w0).1, (Ia 1 w1).1, (Ia 3 w3).1, (Ia 4 w4).1, (Ia 5 w5).1, (Ib 3 v3).1]
  exact ⟨r, ⟨ea', h.x.A fa, na⟩, ⟨eb', h.x.A fb⟩, en, ei⟩
theorem HY.sI {S : wPS} {o a b j : Nat} {t : Int32} (hA : isA S o 12) (ga : isA S a 3) (gb : isA S b 11) (m : HY S a b) : HY (S.sI o j t) a b := by
  have ia : (S.sI o j t).I a = S.I a := sI_no (fun e => by have k := ga.2.1; rw [e, hA.2.1] at k; exact absurd k (by decide))
  have ib : (S.sI o j t).I b = S.I b := sI_no (fun e => by have k := gb.2.1; rw [e, hA.2.1] at k; exact absurd k (by decide))
  unfold HY at m ⊢
  rw [ia, ib]
  exact m
/-- the same hobs on both sides, as worn -/
def RY (o2 : Nat) (S : wPS) (o : Nat) : Prop := RH o2 S o ∧ (∀ i : Nat, (i : Int) < (S.I o2 3).toInt → HY S (S.q (S.f o2 2) i) (S.q (S.f (S.f o 1) 1) i)) ∧ (∀ i j : Nat, (i : Int) < (S.I o2 3).toInt → (j : Int) < (S.I o2 3).toInt → ¬ i = j → ¬ S.f (S.q (S.f o2 2) i) 2 = S.f (S.q (S.f o2 2) j) 2 ∧ ¬ S.f (S.q (S.f (S.f o 1) 1) i) 2 = S.f (S.q (S.f (S.f o 1) 1) j) 2)
theorem RY.keep {W : List (Nat × Nat)} {S U : wPS} {o2 o : Nat} (h : stp W [] [] S U) (hW : wtB S []) (hA : isA S o 12) (h1 : ∀ p ∈ ([(3, 0), (3, 1), (3, 3), (3, 4), (3, 5), (9, 3), (11, 0), (11, 1), (11, 3), (11, 4), (11, 5), (11, 6), (20, 101), (28, 100), (30, 100), (114, 11), (122, 11)] : List (Nat × Nat)), p ∉ W) (_ : True) (m : RY o2 S o) : RY o2 U o := by
  obtain ⟨m1, my, md⟩ := m
  have s1 : ∀ p ∈ ([(3, 0), (3, 1), (3, 3), (3, 4), (3, 5), (9, 3), (11, 0), (11, 1), (11, 4), (11, 5), (11, 6), (20, 101), (114, 11), (122, 11)] : List (Nat × Nat)), p ∉ W := fun p hp => h1 p ((by decide : ∀ q ∈ ([(3, 0), (3, 1), (3, 3), (3, 4), (3, 5), (9, 3), (11, 0), (11, 1), (11, 4), (11, 5), (11, 6), (20, 101), (114, 11), (122, 11)] : List (Nat × Nat)), q ∈ ([(3, 0), (3, 1), (3, 3), (3, 4), (3, 5), (9, 3), (11, 0), (11, 1), (11, 3), (11, 4), (11, 5), (11, 6), (20, 101), (28, 100), (30, 100), (114, 11), (122, 11)] : List (Nat × Nat))) p hp)
  obtain ⟨c1, qa, qb⟩ := RH.qs h hW hA s1 m1
  refine ⟨RH.keep h hW hA s1 trivial m1, fun i hi => ?_, fun i j hi hj hn => ?_⟩
  · rw [c1] at hi
    rw [qa, qb i hi]
    obtain ⟨ga, gb, -⟩ := m1.2.2.2.1 i hi
    exact (my i hi).fr h ga gb (h1 _ (by decide)) (h1 _ (by decide)) (h1 _ (by decide)) (h1 _ (by decide)) (h1 _ (by decide)) (h1 _ (by decide)) (h1 _ (by decide)) (h1 _ (by decide))
  · rw [c1] at hi hj
    rw [qa, qa, qb i hi, qb j hj]
    obtain ⟨ga, gb, -⟩ := m1.2.2.2.1 i hi
    obtain ⟨ga', gb', -⟩ := m1.2.2.2.1 j hj
    rw [f_of (h.x.F ga (Or.inl (by decide)) (my i hi).2.1.1), f_of (h.x.F gb (Or.inl (by decide)) (my i hi).2.2.1.1), f_of (h.x.F ga' (Or.inl (by decide)) (my j hj).2.1.1), f_of (h.x.F gb' (Or.inl (by decide)) (my j hj).2.2.1.1)]
    exact md i j hi hj hn
theorem RY.sI {S : wPS} {o2 o j : Nat} {t : Int32} (hA : isA S o 12) (m : RY o2 S o) : RY o2 (S.sI o j t) o := by
  obtain ⟨m1, my, md⟩ := m
  have ne : (S.sI o j t).I o2 = S.I o2 := sI_no (fun e => by have k := m1.1.2.1; rw [e, hA.2.1] at k; exact absurd k (by decide))
  refine ⟨RH.sI hA m1, fun i hi => ?_, fun i k hi hk hn => ?_⟩
  · rw [ne] at hi
    obtain ⟨ga, gb, -⟩ := m1.2.2.2.1 i hi
    exact (my i hi).sI hA ga gb
  · rw [ne] at hi hk
    exact md i k hi hk hn
theorem RY.upd {S T : wPS} {o2 o e a b : Nat} (sL : T.L = S.L) (sK : T.K = S.K) (sn : T.n = S.n) (sF : T.F = S.F) (sr : T.r = S.r) (c1 : T.I o2 3 = S.I o2 3) (c2 : T.I (S.f o 1) 2 = S.I (S.f o 1) 2) (he : (e : Int) < (S.I o2 3).toInt) (ea : S.q (S.f o2 2) e = a) (eb : S.q (S.f (S.f o 1) 1) e = b) (hp : GRH T e a b) (hy : HY T a b) (ia : ∀ x, isA S x 3 → ¬ x = a → T.I x = S.I x) (ib : ∀ x, isA S x 11 → ¬ x = b → T.I x = S.I x) (wa : ∀ x, isA S x 28 → ¬ x = S.f a 2 → T.i x = S.i x) (wb : ∀ x, isA S x 30 → ¬ x = S.f b 2 → T.i x = S.i x) (m : RY o2 S o) : RY o2 T o := by
  have f' : ∀ a j, T.f a j = S.f a j := fun a j => by unfold wPS.f; rw [sF]
  have q' : ∀ a j, T.q a j = S.q a j := fun a j => by unfold wPS.q; rw [sr]
  have A' : ∀ {x k : Nat}, isA S x k → isA T x k := fun h => by unfold isA at h ⊢; rw [sL, sK, sn]; exact h
  obtain ⟨⟨hA2, ⟨e0, l0, n0⟩, mc, mg, mdd⟩, my, md⟩ := m
  have na : ∀ i : Nat, (i : Int) < (S.I o2 3).toInt → ¬ i = e → ¬ (S.q (S.f o2 2) i) = a := fun i hi hn => by rw [← ea]; exact (mdd i e hi he hn).1
  have nb : ∀ i : Nat, (i : Int) < (S.I o2 3).toInt → ¬ i = e → ¬ (S.q (S.f (S.f o 1) 1) i) = b := fun i hi hn => by rw [← eb]; exact (mdd i e hi he hn).2
  refine ⟨⟨A' hA2, ⟨by rw [f', sF]; exact e0, by rw [f']; exact A' l0, by rw [f', sn]; exact n0⟩, by rw [c1, f', c2]; exact mc, fun i hi => ?_, fun i j hi hj hn => ?_⟩, fun i hi => ?_, fun i j hi hj hn => ?_⟩
  · rw [c1] at hi
    simp only [f', q']
    by_cases hie : i = e
    · subst hie; rw [ea, eb]; exact hp
    · obtain ⟨ga, gb, p0, p1, p3, p4, p5⟩ := mg i hi
      exact ⟨A' ga, A' gb, by rw [ia _ ga (na i hi hie), ib _ gb (nb i hi hie)]; exact p0, by rw [ia _ ga (na i hi hie), ib _ gb (nb i hi hie)]; exact p1, by rw [ia _ ga (na i hi hie), ib _ gb (nb i hi hie)]; exact p3, by rw [ia _ ga (na i hi hie), ib _ gb (nb i hi hie)]; exact p4, by rw [ia _ ga (na i hi hie), ib _ gb (nb i hi hie)]; exact p5⟩
  · rw [c1] at hi hj
    simp only [f', q']
    exact mdd i j hi hj hn
  · rw [c1] at hi
    simp only [f', q']
    by_cases hie : i = e
    · subst hie; rw [ea, eb]; exact hy
    · obtain ⟨ga, gb, -⟩ := mg i hi
      obtain ⟨r, ⟨ea', fa, na'⟩, ⟨eb', fb⟩, en, ei⟩ := my i hi
      obtain ⟨d1, d2⟩ := md i e hi he hie
      rw [ea] at d1
      rw [eb] at d2
      unfold HY
      simp only [f', sF, sn]
      rw [ia _ ga (na i hi hie), ib _ gb (nb i hi hie), wa _ fa d1, wb _ fb d2]
      exact ⟨r, ⟨ea', A' fa, na'⟩, ⟨eb', A' fb⟩, en, ei⟩
  · rw [c1] at hi hj
    simp only [f', q']
    exact md i j hi hj hn
/-! charts: what follows from a row of errors -/
def cPS (e : Nat → Int32) : Nat → Int
  | 0 => 0
  | k + 1 => cPS e k + (e k).toInt
def cST (e : Nat → Int32) (n k : Nat) : Int := (n : Int) * cPS e k - (k : Int) * cPS e n
def cHI (e : Nat → Int32) (n : Nat) : Nat → Int
  | 0 => 0
  | k + 1 => if cHI e n k < cST e n k then cST e n k else cHI e n k
def cLO (e : Nat → Int32) (n : Nat) : Nat → Int
  | 0 => 0
  | k + 1 => if cST e n k < cLO e n k then cST e n k else cLO e n k
def cFF (e : Nat → Int32) (n : Nat) : Int := (cHI e n n - cLO e n n) / (n : Int)
def cQQ (e : Nat → Int32) (n k : Nat) : Int := (cST e n k).tdiv (n : Int)
def cBD (e : Nat → Int32) : Prop := ∀ k, -500 ≤ (e k).toInt ∧ (e k).toInt ≤ 500
theorem cPS_b {e : Nat → Int32} (h : cBD e) : ∀ k : Nat, -(500 * (k : Int)) ≤ cPS e k ∧ cPS e k ≤ 500 * (k : Int) := by
  intro k
  induction k with
  | zero => exact ⟨Int.le_refl _, Int.le_refl _⟩
  | succ k ih =>
    have h1 := h k
    show -(500 * ((k + 1 : Nat) : Int)) ≤ cPS e k + (e k).toInt ∧ cPS e k + (e k).toInt ≤ 500 * ((k + 1 : Nat) : Int)
    omega
theorem c_mb {n p : Int} (hn : 0 ≤ n ∧ n ≤ 200) (hp : -100000 ≤ p ∧ p ≤ 100000) : -20000000 ≤ n * p ∧ n * p ≤ 20000000 := by
  have h1 : n * p ≤ n * 100000 := Int.mul_le_mul_of_nonneg_left hp.2 hn.1
  have h2 : n * (-100000) ≤ n * p := Int.mul_le_mul_of_nonneg_left hp.1 hn.1
  omega
theorem cPS_B {e : Nat → Int32} (h : cBD e) {k : Nat} (hk : k ≤ 200) : -100000 ≤ cPS e k ∧ cPS e k ≤ 100000 := by
  have := cPS_b h k
  omega
theorem cST_b {e : Nat → Int32} (h : cBD e) {n k : Nat} (hn : n ≤ 200) (hk : k ≤ n) : -40000000 ≤ cST e n k ∧ cST e n k ≤ 40000000 := by
  have h1 := c_mb (n := (n : Int)) (p := cPS e k) (by omega) (cPS_B h (by omega))
  have h2 := c_mb (n := (k : Int)) (p := cPS e n) (by omega) (cPS_B h hn)
  unfold cST
  omega
theorem cHI_b {e : Nat → Int32} (h : cBD e) {n : Nat} (hn : n ≤ 200) : ∀ k : Nat, k ≤ n → 0 ≤ cHI e n k ∧ cHI e n k ≤ 40000000 := by
  intro k
  induction k with
  | zero => intro _; exact ⟨Int.le_refl _, by show (0 : Int) ≤ 40000000; decide⟩
  | succ k ih =>
    intro hk
    have h1 := ih (by omega)
    have h2 := cST_b h hn (k := k) (by omega)
    show 0 ≤ (if cHI e n k < cST e n k then cST e n k else cHI e n k) ∧ (if cHI e n k < cST e n k then cST e n k else cHI e n k) ≤ 40000000
    split <;> omega
theorem cLO_b {e : Nat → Int32} (h : cBD e) {n : Nat} (hn : n ≤ 200) : ∀ k : Nat, k ≤ n → -40000000 ≤ cLO e n k ∧ cLO e n k ≤ 0 := by
  intro k
  induction k with
  | zero => intro _; exact ⟨by show (-40000000 : Int) ≤ 0; decide, Int.le_refl _⟩
  | succ k ih =>
    intro hk
    have h1 := ih (by omega)
    have h2 := cST_b h hn (k := k) (by omega)
    show -40000000 ≤ (if cST e n k < cLO e n k then cST e n k else cLO e n k) ∧ (if cST e n k < cLO e n k then cST e n k else cLO e n k) ≤ 0
    split <;> omega
theorem c_zero {e : Nat → Int32} (h : ∀ k, e k = 0) : (∀ k, cPS e k = 0) ∧ (∀ n k, cST e n k = 0) ∧ (∀ n k, cHI e n k = 0) ∧ (∀ n k, cLO e n k = 0) := by
  have z0 : (0 : Int32).toInt = 0 := rfl
  have a : ∀ k, cPS e k = 0 := by
    intro k
    induction k with
    | zero => rfl
    | succ k ih =>
      show cPS e k + (e k).toInt = 0
      rw [ih, h k]; rfl
  have b : ∀ n k, cST e n k = 0 := fun n k => by
    unfold cST
    rw [a, a]; simp
  refine ⟨a, b, fun n k => ?_, fun n k => ?_⟩
  · induction k with
    | zero => rfl
    | succ k ih =>
      show (if cHI e n k < cST e n k then cST e n k else cHI e n k) = 0
      rw [ih, b]; rfl
  · induction k with
    | zero => rfl
    | succ k ih =>
      show (if cST e n k < cLO e n k then cST e n k else cLO e n k) = 0
      rw [ih, b]; rfl
theorem c_zFF {e : Nat → Int32} (h : ∀ k, e k = 0) (n : Nat) : cFF e n = 0 := by
  obtain ⟨-, -, c, d⟩ := c_zero h
  unfold cFF
  rw [c, d]; simp
theorem c_zQQ {e : Nat → Int32} (h : ∀ k, e k = 0) (n k : Nat) : cQQ e n k = 0 := by
  obtain ⟨-, b, -, -⟩ := c_zero h
  unfold cQQ
  rw [b]; simp
/-- a gear's chart: the same errors on both sides; what was measured follows from them -/
def CY (S : wPS) (a b : Nat) : Prop := (S.F a 5 = some (S.f a 5) ∧ isA S (S.f a 5) 1) ∧ (S.F (S.f a 5) 0 = some (S.f (S.f a 5) 0) ∧ isA S (S.f (S.f a 5) 0) 25) ∧ (S.F (S.f a 5) 1 = some (S.f (S.f a 5) 1) ∧ isA S (S.f (S.f a 5) 1) 26) ∧ (S.F b 5 = some (S.f b 5) ∧ isA S (S.f b 5) 29) ∧ ((S.n (S.f (S.f a 5) 0) : Int) = (S.I a 1).toInt ∧ 6 ≤ (S.I a 1).toInt ∧ (S.I a 1).toInt ≤ 200) ∧ S.i (S.f (S.f a 5) 0) = S.i (S.f b 5) ∧ cBD (S.i (S.f b 5)) ∧ (S.I (S.f a 5) 2).toInt = cFF (S.i (S.f b 5)) (S.n (S.f (S.f a 5) 0)) ∧ (∀ k : Nat, k < S.n (S.f (S.f a 5) 0) → (S.i (S.f (S.f a 5) 1) k).toInt = cQQ (S.i (S.f b 5)) (S.n (S.f (S.f a 5) 0)) k)
theorem CY.fr {W : List (Nat × Nat)} {S U : wPS} {a b : Nat} (h : stp W [] [] S U) (ga : isA S a 2) (gb : isA S b 10) (h1 : ∀ p ∈ ([(2, 1), (1, 2), (25, 100), (26, 100), (29, 100)] : List (Nat × Nat)), p ∉ W) (m : CY S a b) : CY U a b := by
  obtain ⟨⟨e5, c5⟩, ⟨e0, a0⟩, ⟨es, as⟩, ⟨eb, ab⟩, hn, hi, hr, hs, hq⟩ := m
  have x5 := h.x.F ga (Or.inl (by decide)) e5
  have x0 := h.x.F c5 (Or.inl (by decide)) e0
  have xs := h.x.F c5 (Or.inl (by decide)) es
  have xb := h.x.F gb (Or.inl (by decide)) eb
  have f5 : U.f a 5 = S.f a 5 := f_of x5
  have f0 : U.f (S.f a 5) 0 = S.f (S.f a 5) 0 := f_of x0
  have f1 : U.f (S.f a 5) 1 = S.f (S.f a 5) 1 := f_of xs
  have fb : U.f b 5 = S.f b 5 := f_of xb
  have nn : U.n (S.f (S.f a 5) 0) = S.n (S.f (S.f a 5) 0) := h.x.n a0
  have I1 : U.I a 1 = S.I a 1 := ((h.fR a ga.1 List.not_mem_nil).1 1 (by rw [ga.2.1]; exact h1 _ (by decide))).1
  have I2 : U.I (S.f a 5) 2 = S.I (S.f a 5) 2 := ((h.fR _ c5.1 List.not_mem_nil).1 2 (by rw [c5.2.1]; exact h1 _ (by decide))).1
  have i0 : U.i (S.f (S.f a 5) 0) = S.i (S.f (S.f a 5) 0) := (h.fR _ a0.1 List.not_mem_nil).2.1 (by rw [a0.2.1]; exact h1 _ (by decide))
  have i1 : U.i (S.f (S.f a 5) 1) = S.i (S.f (S.f a 5) 1) := (h.fR _ as.1 List.not_mem_nil).2.1 (by rw [as.2.1]; exact h1 _ (by decide))
  have ib : U.i (S.f b 5) = S.i (S.f b 5) := (h.fR _ ab.1 List.not_mem_nil).2.1 (by rw [ab.2.1]; exact h1 _ (by decide))
  unfold CY
  rw [f5, f0, f1, fb, nn, I1, I2, i0, i1, ib]
  exact ⟨⟨x5, h.x.A c5⟩, ⟨x0, h.x.A a0⟩, ⟨xs, h.x.A as⟩, ⟨xb, h.x.A ab⟩, hn, hi, hr, hs, hq⟩
theorem CY.sI {S : wPS} {o a b j : Nat} {t : Int32} (hA : isA S o 12) (ga : isA S a 2) (m : CY S a b) : CY (S.sI o j t) a b := by
  have c5 := m.1.2
  have ia : (S.sI o j t).I a = S.I a := sI_no (fun e => by have k := ga.2.1; rw [e, hA.2.1] at k; exact absurd k (by decide))
  have ic : (S.sI o j t).I (S.f a 5) = S.I (S.f a 5) := sI_no (fun e => by have k := c5.2.1; rw [e, hA.2.1] at k; exact absurd k (by decide))
  unfold CY at m ⊢
  show _ ∧ _ ∧ _ ∧ _ ∧ (_ = ((S.sI o j t).I a 1).toInt ∧ 6 ≤ ((S.sI o j t).I a 1).toInt ∧ ((S.sI o j t).I a 1).toInt ≤ 200) ∧ _ ∧ _ ∧ ((S.sI o j t).I (S.f a 5) 2).toInt = _ ∧ _
  rw [ia, ic]
  exact m
/-- the same teeth on both sides -/
def GRK (S : wPS) (i a b : Nat) : Prop := isA S a 2 ∧ isA S b 10 ∧ S.I a 1 = S.I b 1
def RK (o2 : Nat) (S : wPS) (o : Nat) : Prop := isA S o2 9 ∧ (S.F o 0 = some (S.f o 0) ∧ isA S (S.f o 0) 14 ∧ S.n (S.f o 0) = 10) ∧ (S.I o2 1).toInt = (S.I (S.f o 0) 2).toInt ∧ (∀ i : Nat, (i : Int) < (S.I o2 1).toInt → GRK S i (S.q (S.f o2 0) i) (S.q (S.f (S.f o 0) 1) i)) ∧ (∀ i j : Nat, (i : Int) < (S.I o2 1).toInt → (j : Int) < (S.I o2 1).toInt → ¬ i = j → ¬ S.q (S.f o2 0) i = S.q (S.f o2 0) j ∧ ¬ S.q (S.f (S.f o 0) 1) i = S.q (S.f (S.f o 0) 1) j)
theorem GRK.fr {W : List (Nat × Nat)} {S U : wPS} {i a b : Nat} (h : stp W [] [] S U) (h1 : ∀ p ∈ ([(2, 1), (9, 1), (10, 1), (19, 101), (114, 10), (122, 10)] : List (Nat × Nat)), p ∉ W) (m : GRK S i a b) : GRK U i a b := by
  obtain ⟨ga, gb, p1⟩ := m
  have fa := (h.fR a ga.1 List.not_mem_nil).1
  have fb := (h.fR b gb.1 List.not_mem_nil).1
  rw [ga.2.1] at fa
  rw [gb.2.1] at fb
  exact ⟨h.x.A ga, h.x.A gb, by rw [(fa 1 (h1 _ (by decide))).1, (fb 1 (h1 _ (by decide))).1]; exact p1⟩
theorem RK.st {W : List (Nat × Nat)} {S U : wPS} {o2 o : Nat} (h : stp W [] [] S U) (hW : wtB S []) (hA : isA S o 12) (hl : (114, 10) ∉ W ∧ (122, 10) ∉ W) (m : RK o2 S o) : U.f o 0 = S.f o 0 ∧ (U.F o 0 = some (U.f o 0) ∧ isA U (U.f o 0) 14 ∧ U.n (U.f o 0) = 10) ∧ U.I (S.f o 0) 2 = S.I (S.f o 0) 2 ∧ U.f (S.f o 0) 1 = S.f (S.f o 0) 1 ∧ ∀ i : Nat, (i : Int) < (S.I o2 1).toInt → U.r (S.f (S.f o 0) 1) i = S.r (S.f (S.f o 0) 1) i := by
  obtain ⟨hA2, ⟨e0, l0, n0⟩, mc, -, -⟩ := m
  have e' := h.x.F hA (Or.inl (by decide)) e0
  have f' : U.f o 0 = S.f o 0 := f_of e'
  have q := h.2.2.2.2.2 (S.f o 0) l0.1 List.not_mem_nil
  have q2 : U.I (S.f o 0) 2 = S.I (S.f o 0) 2 ∧ U.F (S.f o 0) = S.F (S.f o 0) := by
    rcases (q.1 l0.2.1).2 with w | w
    · rw [n0] at w; exact absurd w hl.1
    · exact w
  refine ⟨f', ⟨by rw [f']; exact e', by rw [f']; exact h.x.A l0, by rw [f', h.x.n l0]; exact n0⟩, q2.1, by show (U.F (S.f o 0) 1).getD 0 = (S.F (S.f o 0) 1).getD 0; rw [q2.2], fun i hi => ?_⟩
  rcases (hW.at l0 List.not_mem_nil).to_14 l0.2.1 with ⟨-, z⟩ | ⟨-, a2, -, a4, -, -, -⟩
  · omega
  · rcases (h.2.2.2.2.2 _ a2.1 List.not_mem_nil).2 a2.2.1 10 (by rw [a4, n0]) with w | w
    · exact absurd w hl.2
    · rw [w]
theorem RK.keep {W : List (Nat × Nat)} {S U : wPS} {o2 o : Nat} (h : stp W [] [] S U) (hW : wtB S []) (hA : isA S o 12) (h1 : ∀ p ∈ ([(2, 1), (9, 1), (10, 1), (19, 101), (114, 10), (122, 10)] : List (Nat × Nat)), p ∉ W) (_ : True) (m : RK o2 S o) : RK o2 U o := by
  have m0 := m
  obtain ⟨hA2, ⟨e0, l0, n0⟩, mc, mg, md⟩ := m
  obtain ⟨f', m1, q2, fl, rl⟩ := RK.st h hW hA ⟨h1 _ (by decide), h1 _ (by decide)⟩ m0
  have c1 : U.I o2 1 = S.I o2 1 := ((h.fR o2 hA2.1 List.not_mem_nil).1 1 (by rw [hA2.2.1]; exact h1 _ (by decide))).1
  have k9 := (hW.at hA2 List.not_mem_nil).to_9 hA2.2.1
  have fa : U.f o2 0 = S.f o2 0 := f_of (h.x.F hA2 (Or.inl (by decide)) k9.F0.1)
  have ra : U.r (S.f o2 0) = S.r (S.f o2 0) := (h.fR _ k9.F0.2.1.1 List.not_mem_nil).2.2.1 (by rw [k9.F0.2.1.2.1]; exact h1 _ (by decide))
  have qa : ∀ i, U.q (U.f o2 0) i = S.q (S.f o2 0) i := fun i => by unfold wPS.q; rw [fa, ra]
  have qb : ∀ i : Nat, (i : Int) < (S.I o2 1).toInt → U.q (U.f (U.f o 0) 1) i = S.q (S.f (S.f o 0) 1) i := fun i hi => by unfold wPS.q; rw [f', fl, rl i hi]
  refine ⟨h.x.A hA2, m1, by rw [c1, f', q2]; exact mc, fun i hi => ?_, fun i j hi hj hn => ?_⟩
  · rw [c1] at hi
    rw [qa, qb i hi]
    exact (mg i hi).fr h h1
  · rw [c1] at hi hj
    rw [qa, qa, qb i hi, qb j hj]
    exact md i j hi hj hn
theorem RK.sI {S : wPS} {o2 o j : Nat} {t : Int32} (hA : isA S o 12) (m : RK o2 S o) : RK o2 (S.sI o j t) o := by
  have ne : ∀ {x k : Nat}, isA S x k → k ≠ 12 → (S.sI o j t).I x = S.I x := fun hx hk => sI_no (fun e => hk (by rw [← hx.2.1, e]; exact hA.2.1))
  obtain ⟨hA2, ⟨e0, l0, n0⟩, mc, mg, md⟩ := m
  refine ⟨hA2, ⟨e0, l0, n0⟩, ?_, fun i hi => ?_, fun i j hi hj hn => ?_⟩
  · show ((S.sI o j t).I o2 1).toInt = ((S.sI o j t).I (S.f o 0) 2).toInt
    rw [ne hA2 (by decide), ne l0 (by decide)]; exact mc
  · rw [ne hA2 (by decide)] at hi
    obtain ⟨ga, gb, p1⟩ := mg i hi
    show GRK (S.sI o j t) i (S.q (S.f o2 0) i) (S.q (S.f (S.f o 0) 1) i)
    exact ⟨ga, gb, by rw [ne ga (by decide), ne gb (by decide)]; exact p1⟩
  · rw [ne hA2 (by decide)] at hi hj
    exact md i j hi hj hn
theorem RK.add {EA EB : Nat → Prop} {WC WM : List (Nat × Nat)} {S S4 S16 : wPS} {o2 o : Nat} {x1 x2 x3 x4 : Int32} (m : RK o2 S o) (hA : isA S o 12) (hW : wtB S []) (hw : stp WC [] [] S S4) (hm : stp WM [] [] S4 S16) (hc : ∀ p ∈ ([(2, 1), (10, 1), (114, 10), (122, 10)] : List (Nat × Nat)), p ∉ WC) (hk : ∀ p ∈ ([(2, 1), (9, 1), (10, 1), (19, 101)] : List (Nat × Nat)), p ∉ WM)
    (c4 : (S4.I o2 1).toInt = (S.I o2 1).toInt + 1) (N : ∃ g : Nat, g ∉ S.L ∧ isA S4 g 2 ∧ S4.r (S.f o2 0) (S.I o2 1).toNatClampNeg = some g ∧ (∀ i : Nat, i ≠ (S.I o2 1).toNatClampNeg → S4.r (S.f o2 0) i = S.r (S.f o2 0) i) ∧ S4.I g 0 = S.I o2 1 ∧ S4.I g 1 = x1 ∧ S4.I g 2 = x2 ∧ S4.I g 3 = x3 ∧ S4.I g 4 = x4 ∧ S4.I g 7 = (0 : Int32) ∧ S4.I g 8 = (-1 : Int32) ∧ S4.I g 9 = (0 : Int32) ∧ S4.I g 10 = (0 : Int32) ∧ S4.I g 11 = (0 : Int32) ∧ EA g)
    (n1 : (S16.I (S4.f o 0) 2).toInt = (S4.I (S4.f o 0) 2).toInt + 1) (M : ∃ g a : Nat, g ∉ S4.L ∧ isA S16 g 10 ∧ S16.F (S4.f o 0) 1 = some a ∧ isA S16 a 22 ∧ S16.r a (S4.I (S4.f o 0) 2).toNatClampNeg = some g ∧ (∀ i : Nat, (i : Int) < (S4.I (S4.f o 0) 2).toInt → S16.r a i = S4.r (S4.f (S4.f o 0) 1) i) ∧ S16.I g 1 = x1 ∧ S16.I g 2 = x2 ∧ S16.I g 3 = x3 ∧ S16.I g 4 = x4 ∧ S16.I g 7 = (0 : Int32) ∧ S16.I g 8 = (-1 : Int32) ∧ S16.I g 10 = (0 : Int32) ∧ S16.I g 11 = (0 : Int32) ∧ S16.I g 18 = (0 : Int32) ∧ EB g) : RK o2 S16 o := by
  have m0 := m
  obtain ⟨hA2, ⟨e0, l0, n0⟩, mc, mg, md⟩ := m
  obtain ⟨f4, m4, q4, fl4, rl4⟩ := RK.st hw hW hA ⟨hc _ (by decide), hc _ (by decide)⟩ m0
  obtain ⟨g, ng, gA, gr, go, cv0, cv1, cv2, cv3, cv4, cv7, cv8, cv9, cv10, cv11, -⟩ := N
  obtain ⟨b, a, nb, bA, aF, aA, br, bo, dv1, dv2, dv3, dv4, dv7, dv8, dv10, dv11, dv18, -⟩ := M
  rw [f4] at n1 aF br bo
  rw [q4] at n1 br bo
  rw [fl4] at bo
  have R9 := ((hW.at hA2 List.not_mem_nil).to_9 hA2.2.1).R1
  have k9 := (hW.at hA2 List.not_mem_nil).to_9 hA2.2.1
  have e16 := hm.x.F (hw.x.A hA) (Or.inl (by decide)) m4.1
  rw [f4] at e16
  have f16 : S16.f o 0 = (S.f o 0) := f_of e16
  have cI : S16.I o2 1 = S4.I o2 1 := ((hm.fR o2 (hw.x.A hA2).1 List.not_mem_nil).1 1 (by rw [(hw.x.A hA2).2.1]; exact hk _ (by decide))).1
  have fa4 : S4.f o2 0 = S.f o2 0 := f_of (hw.x.F hA2 (Or.inl (by decide)) k9.F0.1)
  have fa : S16.f o2 0 = S.f o2 0 := f_of (hm.x.F (hw.x.A hA2) (Or.inl (by decide)) (hw.x.F hA2 (Or.inl (by decide)) k9.F0.1))
  have aA4 := hw.x.A k9.F0.2.1
  have ra : S16.r (S.f o2 0) = S4.r (S.f o2 0) := (hm.fR _ aA4.1 List.not_mem_nil).2.2.1 (by rw [aA4.2.1]; exact hk _ (by decide))
  have fl16 : S16.f (S.f o 0) 1 = a := f_of aF
  have ck := cl_int (i := S.I o2 1) R9.1
  have ck2 := cl_int (i := S.I (S.f o 0) 2) (by omega)
  have qa0 : ∀ i, S16.q (S16.f o2 0) i = S4.q (S.f o2 0) i := fun i => by unfold wPS.q; rw [fa, ra]
  have qb0 : ∀ i, S16.q (S16.f (S16.f o 0) 1) i = S16.q a i := fun i => by rw [f16, fl16]
  have eaN : ∀ i, i = (S.I o2 1).toNatClampNeg → S4.q (S.f o2 0) i = g := fun i hik => by rw [hik]; exact q_of gr
  have ebN : ∀ i, i = (S.I o2 1).toNatClampNeg → S16.q a i = b := fun i hik => by rw [show i = (S.I (S.f o 0) 2).toNatClampNeg by omega]; exact q_of br
  have eaO : ∀ i, ¬ i = (S.I o2 1).toNatClampNeg → S4.q (S.f o2 0) i = S.q (S.f o2 0) i := fun i hik => by unfold wPS.q; rw [go i hik]
  have ebO : ∀ i : Nat, (i : Int) < (S.I o2 1).toInt → S16.q a i = S.q (S.f (S.f o 0) 1) i := fun i hi' => by unfold wPS.q; rw [bo i (by omega), rl4 i hi']
  refine ⟨(hw.x.tr hm.x).A hA2, ⟨by rw [f16]; exact e16, by rw [f16]; exact (hw.x.tr hm.x).A l0, by rw [f16, (hw.x.tr hm.x).n l0]; exact n0⟩, by rw [cI, f16, c4, n1, mc], fun i hi => ?_, fun i j hi hj hn => ?_⟩
  · rw [cI, c4] at hi
    rw [qa0, qb0]
    by_cases hik : i = (S.I o2 1).toNatClampNeg
    · rw [eaN i hik, ebN i hik]
      have fg := (hm.fR g gA.1 List.not_mem_nil).1
      rw [gA.2.1] at fg
      exact ⟨hm.x.A gA, bA, by rw [(fg 1 (hk _ (by decide))).1, cv1, dv1]⟩
    · have hi' : (i : Int) < (S.I o2 1).toInt := by omega
      rw [eaO i hik, ebO i hi']
      obtain ⟨ga, gb, p1⟩ := mg i hi'
      have f1 := (hw.fR _ ga.1 List.not_mem_nil).1
      have f2 := (hw.fR _ gb.1 List.not_mem_nil).1
      have f3 := (hm.fR _ (hw.x.A ga).1 List.not_mem_nil).1
      have f5 := (hm.fR _ (hw.x.A gb).1 List.not_mem_nil).1
      rw [ga.2.1] at f1
      rw [gb.2.1] at f2
      rw [(hw.x.A ga).2.1] at f3
      rw [(hw.x.A gb).2.1] at f5
      exact ⟨hm.x.A (hw.x.A ga), hm.x.A (hw.x.A gb), by rw [(f3 1 (hk _ (by decide))).1, (f1 1 (hc _ (by decide))).1, (f5 1 (hk _ (by decide))).1, (f2 1 (hc _ (by decide))).1]; exact p1⟩
  · rw [cI, c4] at hi hj
    rw [qa0, qa0, qb0, qb0]
    have nA : ∀ i : Nat, (i : Int) < (S.I o2 1).toInt → ¬ S.q (S.f o2 0) i = g := fun i hi e => ng (by rw [← e]; exact (mg i hi).1.1)
    have nB : ∀ i : Nat, (i : Int) < (S.I o2 1).toInt → ¬ S.q (S.f (S.f o 0) 1) i = b := fun i hi e => nb (by rw [← e]; exact (hw.x.A (mg i hi).2.1).1)
    by_cases hik : i = (S.I o2 1).toNatClampNeg
    · have hj' : (j : Int) < (S.I o2 1).toInt := by omega
      rw [eaN i hik, ebN i hik, eaO j (by omega), ebO j hj']
      exact ⟨fun e => nA j hj' e.symm, fun e => nB j hj' e.symm⟩
    · have hi' : (i : Int) < (S.I o2 1).toInt := by omega
      by_cases hjk : j = (S.I o2 1).toNatClampNeg
      · rw [eaN j hjk, ebN j hjk, eaO i hik, ebO i hi']
        exact ⟨nA i hi', nB i hi'⟩
      · have hj' : (j : Int) < (S.I o2 1).toInt := by omega
        rw [eaO i hik, ebO i hi', eaO j hjk, ebO j hj']
        exact md i j hi' hj' hn
theorem RK.qs {W : List (Nat × Nat)} {S U : wPS} {o2 o : Nat} (h : stp W [] [] S U) (hW : wtB S []) (hA : isA S o 12) (h1 : ∀ p ∈ ([(2, 1), (9, 1), (10, 1), (19, 101), (114, 10), (122, 10)] : List (Nat × Nat)), p ∉ W) (m : RK o2 S o) : U.I o2 1 = S.I o2 1 ∧ (∀ i, U.q (U.f o2 0) i = S.q (S.f o2 0) i) ∧ (∀ i : Nat, (i : Int) < (S.I o2 1).toInt → U.q (U.f (U.f o 0) 1) i = S.q (S.f (S.f o 0) 1) i) := by
  have m0 := m
  obtain ⟨hA2, ⟨e0, l0, n0⟩, mc, mg, md⟩ := m
  obtain ⟨f', m1, q2, fl, rl⟩ := RK.st h hW hA ⟨h1 _ (by decide), h1 _ (by decide)⟩ m0
  have c1 : U.I o2 1 = S.I o2 1 := ((h.fR o2 hA2.1 List.not_mem_nil).1 1 (by rw [hA2.2.1]; exact h1 _ (by decide))).1
  have k9 := (hW.at hA2 List.not_mem_nil).to_9 hA2.2.1
  have fa : U.f o2 0 = S.f o2 0 := f_of (h.x.F hA2 (Or.inl (by decide)) k9.F0.1)
  have ra : U.r (S.f o2 0) = S.r (S.f o2 0) := (h.fR _ k9.F0.2.1.1 List.not_mem_nil).2.2.1 (by rw [k9.F0.2.1.2.1]; exact h1 _ (by decide))
  exact ⟨c1, fun i => by unfold wPS.q; rw [fa, ra], fun i hi => by unfold wPS.q; rw [f', fl, rl i hi]⟩
theorem RK.qadd {PA PB : Nat → Prop} {WC WM : List (Nat × Nat)} {S S4 S16 : wPS} {o2 o : Nat} (m : RK o2 S o) (hA : isA S o 12) (hW : wtB S []) (hw : stp WC [] [] S S4) (hm : stp WM [] [] S4 S16) (hc : (114, 10) ∉ WC ∧ (122, 10) ∉ WC) (hk : (9, 1) ∉ WM ∧ (19, 101) ∉ WM)
    (c4 : (S4.I o2 1).toInt = (S.I o2 1).toInt + 1) (N : ∃ g : Nat, g ∉ S.L ∧ isA S4 g 2 ∧ S4.r (S.f o2 0) (S.I o2 1).toNatClampNeg = some g ∧ (∀ i : Nat, i ≠ (S.I o2 1).toNatClampNeg → S4.r (S.f o2 0) i = S.r (S.f o2 0) i) ∧ PA g)
    (M : ∃ g a : Nat, g ∉ S4.L ∧ isA S16 g 10 ∧ S16.F (S4.f o 0) 1 = some a ∧ isA S16 a 22 ∧ S16.r a (S4.I (S4.f o 0) 2).toNatClampNeg = some g ∧ (∀ i : Nat, (i : Int) < (S4.I (S4.f o 0) 2).toInt → S16.r a i = S4.r (S4.f (S4.f o 0) 1) i) ∧ PB g) : S16.I o2 1 = S4.I o2 1 ∧ ∃ g b : Nat, g ∉ S.L ∧ b ∉ S4.L ∧ isA S4 g 2 ∧ isA S16 b 10 ∧ PA g ∧ PB b ∧ S16.q (S16.f o2 0) (S.I o2 1).toNatClampNeg = g ∧ S16.q (S16.f (S16.f o 0) 1) (S.I o2 1).toNatClampNeg = b ∧ (∀ i : Nat, (i : Int) < (S.I o2 1).toInt → S16.q (S16.f o2 0) i = S.q (S.f o2 0) i ∧ S16.q (S16.f (S16.f o 0) 1) i = S.q (S.f (S.f o 0) 1) i) := by
  have m0 := m
  obtain ⟨hA2, ⟨e0, l0, n0⟩, mc, mg, md⟩ := m
  obtain ⟨f4, m4, q4, fl4, rl4⟩ := RK.st hw hW hA hc m0
  obtain ⟨g, ng, gA, gr, go, pa⟩ := N
  obtain ⟨b, a, nb, bA, aF, aA, br, bo, pb⟩ := M
  rw [f4] at aF br bo
  rw [q4] at br bo
  rw [fl4] at bo
  have k9 := (hW.at hA2 List.not_mem_nil).to_9 hA2.2.1
  have R9 := k9.R1
  have e16 := hm.x.F (hw.x.A hA) (Or.inl (by decide)) m4.1
  rw [f4] at e16
  have f16 : S16.f o 0 = (S.f o 0) := f_of e16
  have cI : S16.I o2 1 = S4.I o2 1 := ((hm.fR o2 (hw.x.A hA2).1 List.not_mem_nil).1 1 (by rw [(hw.x.A hA2).2.1]; exact hk.1)).1
  have fa4 : S4.f o2 0 = S.f o2 0 := f_of (hw.x.F hA2 (Or.inl (by decide)) k9.F0.1)
  have fa : S16.f o2 0 = S.f o2 0 := f_of (hm.x.F (hw.x.A hA2) (Or.inl (by decide)) (hw.x.F hA2 (Or.inl (by decide)) k9.F0.1))
  have aA4 := hw.x.A k9.F0.2.1
  have ra : S16.r (S.f o2 0) = S4.r (S.f o2 0) := (hm.fR _ aA4.1 List.not_mem_nil).2.2.1 (by rw [aA4.2.1]; exact hk.2)
  have fl16 : S16.f (S.f o 0) 1 = a := f_of aF
  have ck := cl_int (i := S.I o2 1) R9.1
  have ck2 := cl_int (i := S.I (S.f o 0) 2) (by omega)
  have ek : (S.I (S.f o 0) 2).toNatClampNeg = (S.I o2 1).toNatClampNeg := by omega
  rw [ek] at br
  refine ⟨cI, g, b, ng, nb, gA, bA, pa, pb, ?_, ?_, fun i hi => ⟨?_, ?_⟩⟩
  · unfold wPS.q; rw [fa, ra, gr]; rfl
  · unfold wPS.q; rw [f16, fl16, br]; rfl
  · unfold wPS.q; rw [fa, ra, go i (by omega)]
  · unfold wPS.q; rw [f16, fl16, bo i (by omega), rl4 i hi]
/-- the same charts on both sides -/
def RC (o2 : Nat) (S : wPS) (o : Nat) : Prop := RK o2 S o ∧ (∀ i : Nat, (i : Int) < (S.I o2 1).toInt → CY S (S.q (S.f o2 0) i) (S.q (S.f (S.f o 0) 1) i)) ∧ (∀ i j : Nat, (i : Int) < (S.I o2 1).toInt → (j : Int) < (S.I o2 1).toInt → ¬ i = j → ¬ S.f (S.q (S.f o2 0) i) 5 = S.f (S.q (S.f o2 0) j) 5 ∧ ¬ S.f (S.f (S.q (S.f o2 0) i) 5) 0 = S.f (S.f (S.q (S.f o2 0) j) 5) 0 ∧ ¬ S.f (S.f (S.q (S.f o2 0) i) 5) 1 = S.f (S.f (S.q (S.f o2 0) j) 5) 1 ∧ ¬ S.f (S.q (S.f (S.f o 0) 1) i) 5 = S.f (S.q (S.f (S.f o 0) 1) j) 5)
theorem RC.keep {W : List (Nat × Nat)} {S U : wPS} {o2 o : Nat} (h : stp W [] [] S U) (hW : wtB S []) (hA : isA S o 12) (h1 : ∀ p ∈ ([(1, 2), (2, 1), (9, 1), (10, 1), (19, 101), (25, 100), (26, 100), (29, 100), (114, 10), (122, 10)] : List (Nat × Nat)), p ∉ W) (_ : True) (m : RC o2 S o) : RC o2 U o := by
  obtain ⟨m1, my, md⟩ := m
  have s1 : ∀ p ∈ ([(2, 1), (9, 1), (10, 1), (19, 101), (114, 10), (122, 10)] : List (Nat × Nat)), p ∉ W := fun p hp => h1 p ((by decide : ∀ q ∈ ([(2, 1), (9, 1), (10, 1), (19, 101), (114, 10), (122, 10)] : List (Nat × Nat)), q ∈ ([(1, 2), (2, 1), (9, 1), (10, 1), (19, 101), (25, 100), (26, 100), (29, 100), (114, 10), (122, 10)] : List (Nat × Nat))) p hp)
  have s2 : ∀ p ∈ ([(2, 1), (1, 2), (25, 100), (26, 100), (29, 100)] : List (Nat × Nat)), p ∉ W := fun p hp => h1 p ((by decide : ∀ q ∈ ([(2, 1), (1, 2), (25, 100), (26, 100), (29, 100)] : List (Nat × Nat)), q ∈ ([(1, 2), (2, 1), (9, 1), (10, 1), (19, 101), (25, 100), (26, 100), (29, 100), (114, 10), (122, 10)] : List (Nat × Nat))) p hp)
  obtain ⟨c1, qa, qb⟩ := RK.qs h hW hA s1 m1
  have old : ∀ i : Nat, (i : Int) < (S.I o2 1).toInt → CY U (S.q (S.f o2 0) i) (S.q (S.f (S.f o 0) 1) i) ∧ U.f (S.q (S.f o2 0) i) 5 = S.f (S.q (S.f o2 0) i) 5 ∧ U.f (S.f (S.q (S.f o2 0) i) 5) 0 = S.f (S.f (S.q (S.f o2 0) i) 5) 0 ∧ U.f (S.f (S.q (S.f o2 0) i) 5) 1 = S.f (S.f (S.q (S.f o2 0) i) 5) 1 ∧ U.f (S.q (S.f (S.f o 0) 1) i) 5 = S.f (S.q (S.f (S.f o 0) 1) i) 5 := fun i hi => by
    obtain ⟨ga, gb, -⟩ := m1.2.2.2.1 i hi
    have y := my i hi
    exact ⟨y.fr h ga gb s2, f_of (h.x.F ga (Or.inl (by decide)) y.1.1), f_of (h.x.F y.1.2 (Or.inl (by decide)) y.2.1.1), f_of (h.x.F y.1.2 (Or.inl (by decide)) y.2.2.1.1), f_of (h.x.F gb (Or.inl (by decide)) y.2.2.2.1.1)⟩
  refine ⟨RK.keep h hW hA s1 trivial m1, fun i hi => ?_, fun i j hi hj hn => ?_⟩
  · rw [c1] at hi
    rw [qa, qb i hi]
    exact (old i hi).1
  · rw [c1] at hi hj
    obtain ⟨-, a1, a2, a3, a4⟩ := old i hi
    obtain ⟨-, b1, b2, b3, b4⟩ := old j hj
    rw [qa, qa, qb i hi, qb j hj, a1, a2, a3, a4, b1, b2, b3, b4]
    exact md i j hi hj hn
theorem RC.sI {S : wPS} {o2 o j : Nat} {t : Int32} (hA : isA S o 12) (m : RC o2 S o) : RC o2 (S.sI o j t) o := by
  obtain ⟨m1, my, md⟩ := m
  have ne : (S.sI o j t).I o2 = S.I o2 := sI_no (fun e => by have k := m1.1.2.1; rw [e, hA.2.1] at k; exact absurd k (by decide))
  refine ⟨RK.sI hA m1, fun i hi => ?_, fun i k hi hk hn => ?_⟩
  · rw [ne] at hi
    exact (my i hi).sI hA (m1.2.2.2.1 i hi).1
  · rw [ne] at hi hk
    exact md i k hi hk hn
theorem RC.upd {S T : wPS} {o2 o e a b : Nat} (sL : T.L = S.L) (sK : T.K = S.K) (sn : T.n = S.n) (sF : T.F = S.F) (sr : T.r = S.r) (he : (e : Int) < (S.I o2 1).toInt) (ea : S.q (S.f o2 0) e = a) (eb : S.q (S.f (S.f o 0) 1) e = b) (hy : CY T a b) (iI : ∀ x, ¬ x = S.f a 5 → T.I x = S.I x) (wi : ∀ x, ¬ x = S.f (S.f a 5) 0 → ¬ x = S.f (S.f a 5) 1 → ¬ x = S.f b 5 → T.i x = S.i x) (m : RC o2 S o) : RC o2 T o := by
  have f' : ∀ a j, T.f a j = S.f a j := fun a j => by unfold wPS.f; rw [sF]
  have q' : ∀ a j, T.q a j = S.q a j := fun a j => by unfold wPS.q; rw [sr]
  have A' : ∀ {x k : Nat}, isA S x k → isA T x k := fun h => by unfold isA at h ⊢; rw [sL, sK, sn]; exact h
  obtain ⟨⟨hA2, ⟨e0, l0, n0⟩, mc, mg, mdd⟩, my, md⟩ := m
  have ye := my e he
  rw [ea, eb] at ye
  obtain ⟨⟨z5, c5⟩, ⟨z0, a0⟩, ⟨zs, as⟩, ⟨zb, ab⟩, -⟩ := ye
  have nk : ∀ {x k : Nat}, isA S x k → k ≠ 1 → T.I x = S.I x := fun hx hk => iI _ (fun q => hk (by rw [← hx.2.1, q]; exact c5.2.1))
  have kne : ∀ {x y k l : Nat}, isA S x k → isA S y l → k ≠ l → ¬ x = y := fun hx hy hk q => hk (by rw [← hx.2.1, q]; exact hy.2.1)
  refine ⟨⟨A' hA2, ⟨by rw [f', sF]; exact e0, by rw [f']; exact A' l0, by rw [f', sn]; exact n0⟩, by rw [nk hA2 (by decide), f', nk l0 (by decide)]; exact mc, fun i hi => ?_, fun i j hi hj hn => ?_⟩, fun i hi => ?_, fun i j hi hj hn => ?_⟩
  · rw [nk hA2 (by decide)] at hi
    simp only [f', q']
    obtain ⟨ga, gb, p1⟩ := mg i hi
    exact ⟨A' ga, A' gb, by rw [nk ga (by decide), nk gb (by decide)]; exact p1⟩
  · rw [nk hA2 (by decide)] at hi hj
    simp only [f', q']
    exact mdd i j hi hj hn
  · rw [nk hA2 (by decide)] at hi
    simp only [f', q']
    by_cases hie : i = e
    · subst hie; rw [ea, eb]; exact hy
    · obtain ⟨ga, gb, -⟩ := mg i hi
      obtain ⟨d5, d0, d1, db⟩ := md i e hi he hie
      rw [ea] at d5 d0 d1
      rw [eb] at db
      obtain ⟨⟨y5, k5⟩, ⟨y0, b0⟩, ⟨ys, bs⟩, ⟨yb, bb⟩, hn, hi', hr, hs, hq⟩ := my i hi
      unfold CY
      simp only [f', sF, sn]
      rw [nk ga (by decide), iI _ d5, wi _ d0 (kne b0 as (by decide)) (kne b0 ab (by decide)), wi _ (kne bs a0 (by decide)) d1 (kne bs ab (by decide)), wi _ (kne bb a0 (by decide)) (kne bb as (by decide)) db]
      exact ⟨⟨y5, A' k5⟩, ⟨y0, A' b0⟩, ⟨ys, A' bs⟩, ⟨yb, A' bb⟩, hn, hi', hr, hs, hq⟩
  · rw [nk hA2 (by decide)] at hi hj
    simp only [f', q']
    exact md i j hi hj hn
/-- what holds all through the law's body -/
def LC (p : Program) (l : Launch) (s : State) (m : MethodId) (c : Code) (b L : Nat) (xs : Nat → Int32) (D : va_G) (cy : Nat → ClassId) (c8 c9 : ClassId) (e0 mi : Nat) : Prop :=
  p.tables.exec = Jvm.exec ∧ c.code = cL_law ∧ c.maxLocals = 9 ∧ s.vm.findClass RL = some m.cls ∧ (∀ w ∈ wsL_law, w.before #[Value.ref b] s = true) ∧ va_X b L xs s s.heap ∧ b < s.heap.size ∧ NW s ∧ TH (fun q => s.heap.size ≤ q) s ∧ OU e0 mi (fun q => s.heap.size ≤ q) s s.heap ∧ va_K D vwCl (tyX cy c8 c9) s ∧ l.stackTraces = false ∧ NC s
/-- what holds at the head of each round: the shop, the reference, the two rows of answers -/
def LI (D : va_G) (cy : Nat → ClassId) (c8 c9 : ClassId) (e0 : Nat) (A : Nat → Prop) (o1 o2 qo qd : Nat) (fo : Nat → Int64) (fd : Nat → UInt64) (S : wPS) (H : Heap) : Prop :=
  va_P D vwCl (XO c8 c9 qo qd fo fd ++ PL cy S) H ∧ va_D A (XO c8 c9 qo qd fo fd ++ PL cy S) ∧ wtB S [] ∧ isA S o2 9 ∧ isA S o1 12 ∧ S.F o1 77 = some e0 ∧ MV S o1 ∧ IV S o1 ∧ RGS o2 S o1 ∧ RY o2 S o1 ∧ RC o2 S o1
theorem lcmp_self (x : Int64) : lg_cmp x x = 0 := by
  unfold lg_cmp
  simp
theorem rng_ok {x a b : Int32} (h : a.toInt ≤ x.toInt ∧ x.toInt ≤ b.toInt) : f_X9_needRange x a b = .ok () := by
  unfold f_X9_needRange
  rw [if_neg (fun q => by have := lt_i q; omega), if_pos (Int32.le_iff_toInt_le.mpr h.2)]
theorem rng_er {x a b : Int32} (h : ¬ (a.toInt ≤ x.toInt ∧ x.toInt ≤ b.toInt)) : f_X9_needRange x a b = .error "java/lang/IllegalArgumentException" := by
  unfold f_X9_needRange
  split
  · rfl
  · rename_i h1
    rw [if_neg (fun q => h ⟨nlt_i h1, le_i q⟩)]
theorem in_ok {x lo hi : Int64} (h : lo.toInt ≤ x.toInt ∧ x.toInt ≤ hi.toInt) : f_X12_in x lo hi = 1 := by
  unfold f_X12_in
  rw [if_neg (fun q => by have := lc_lt q; omega), if_neg (fun q => by have := lc_gt q; omega)]
theorem in_no {x lo hi : Int64} (h : ¬ (lo.toInt ≤ x.toInt ∧ x.toInt ≤ hi.toInt)) : f_X12_in x lo hi = 0 := by
  unfold f_X12_in
  split
  · rfl
  · rename_i h1
    split
    · rfl
    · rename_i h2
      exact absurd ⟨lc_nlt h1, lc_ngt h2⟩ h
theorem eqH {α : Type} {call : Except String α} {cv : α → Int64} {wc : String → Int32} {r3 r20 : Int32} {ans : Int64} {fo f5 : Nat → Int64} (h : (∃ v, call = .ok v ∧ r3 = 0 ∧ f5 = vp_updL fo (0 : Int32).toNatClampNeg (cv v)) ∨ ∃ E, call = .error E ∧ r3 = wc E ∧ f5 = fo) (hc : (∃ v, call = .ok v ∧ r20 = 0 ∧ cv v = ans) ∨ ∃ E, call = .error E ∧ r20 = wc E ∧ ¬ wc E = 0) : r20 = r3 ∧ (r3 = 0 → f5 (0 : Int32).toNatClampNeg = ans) := by
  rcases hc with ⟨v, e1, e2, e3⟩ | ⟨E, e1, e2, e3⟩
  · rcases h with ⟨w, g1, g2, g3⟩ | ⟨E, g1, -, -⟩
    · rw [e1] at g1; cases g1
      exact ⟨e2.trans g2.symm, fun _ => by rw [g3, ← e3]; simp [vp_updL]⟩
    · rw [e1] at g1; cases g1
  · rcases h with ⟨w, g1, -, -⟩ | ⟨E2, g1, g2, -⟩
    · rw [e1] at g1; cases g1
    · rw [e1] at g1; cases g1
      exact ⟨e2.trans g2.symm, fun q => absurd (g2.symm.trans q) e3⟩
theorem nt_ok {x : Int32} (h : 6 ≤ x.toInt ∧ x.toInt ≤ 200) : f_X9_needTeeth x = .ok () := by
  have a1 : (6 : Int32).toInt = 6 := rfl
  have a2 : (200 : Int32).toInt = 200 := rfl
  unfold f_X9_needTeeth
  rw [eB_ok (rng_ok (by rw [a1, a2]; exact h))]
theorem nt_er {x : Int32} (h : ¬ (6 ≤ x.toInt ∧ x.toInt ≤ 200)) : f_X9_needTeeth x = .error "java/lang/IllegalArgumentException" := by
  have a1 : (6 : Int32).toInt = 6 := rfl
  have a2 : (200 : Int32).toInt = 200 := rfl
  unfold f_X9_needTeeth
  exact eB_er (rng_er (by rw [a1, a2]; exact h))
theorem li64 {x : Int32} {a b : Int} {la lb : Int64} (ha : la.toInt = a) (hb : lb.toInt = b) (h : a ≤ x.toInt ∧ x.toInt ≤ b) : f_X12_in x.toInt64 la lb = 1 := in_ok (by rw [i64_i, ha, hb]; exact h)
theorem li64n {x : Int32} {a b : Int} {la lb : Int64} (ha : la.toInt = a) (hb : lb.toInt = b) (h : ¬ (a ≤ x.toInt ∧ x.toInt ≤ b)) : f_X12_in x.toInt64 la lb = 0 := in_no (by rw [i64_i, ha, hb]; exact h)
/-! gear: refused alike on both sides, or one more on both -/
theorem ca_gear {S S4 S16 : wPS} {o1 o2 : Nat} {y1 y2 y3 y4 r12 : Int32} (hc : (S.I o2 1).toInt = (S4.I (S4.f o1 0) 2).toInt) (rr : 0 ≤ (S.I o2 1).toInt ∧ (S.I o2 1).toInt ≤ 20) (h2 : ((((f_X12_in y1.toInt64 (6 : Int64) (200 : Int64)).toInt = 0 ∨ (f_X12_in y2.toInt64 (500 : Int64) (10000 : Int64)).toInt = 0 ∨ (f_X12_in y3.toInt64 (-500 : Int64) (500 : Int64)).toInt = 0 ∨ (f_X12_in y4.toInt64 (1000 : Int64) (99999 : Int64)).toInt = 0) ∧ r12.toInt = 0 ∧ (S16.I o1 15).toInt = 1 ∧ (S16.I (S4.f o1 0) 2).toInt = (S4.I (S4.f o1 0) 2).toInt) ∨ ((¬ (f_X12_in y1.toInt64 (6 : Int64) (200 : Int64)).toInt = 0 ∧ ¬ (f_X12_in y2.toInt64 (500 : Int64) (10000 : Int64)).toInt = 0 ∧ ¬ (f_X12_in y3.toInt64 (-500 : Int64) (500 : Int64)).toInt = 0 ∧ ¬ (f_X12_in y4.toInt64 (1000 : Int64) (99999 : Int64)).toInt = 0) ∧ (S4.I (S4.f o1 0) 2).toInt = 20 ∧ r12.toInt = 0 ∧ (S16.I o1 15).toInt = 2 ∧ (S16.I (S4.f o1 0) 2).toInt = (S4.I (S4.f o1 0) 2).toInt) ∨ ((¬ (f_X12_in y1.toInt64 (6 : Int64) (200 : Int64)).toInt = 0 ∧ ¬ (f_X12_in y2.toInt64 (500 : Int64) (10000 : Int64)).toInt = 0 ∧ ¬ (f_X12_in y3.toInt64 (-500 : Int64) (500 : Int64)).toInt = 0 ∧ ¬ (f_X12_in y4.toInt64 (1000 : Int64) (99999 : Int64)).toInt = 0) ∧ ¬ (S4.I (S4.f o1 0) 2).toInt = 20 ∧ r12.toInt = (S4.I (S4.f o1 0) 2).toInt ∧ (S16.I o1 15).toInt = 0 ∧ (S16.I (S4.f o1 0) 2).toInt = (S4.I (S4.f o1 0) 2).toInt + 1))) : (∃ (E : String) (n : Int32), f_X9_gear S o2 y1 y2 y3 y4 = .error E ∧ wc_gear E = n ∧ ¬ n = 0 ∧ (S16.I o1 15).toInt = n.toInt ∧ (S16.I (S4.f o1 0) 2).toInt = (S4.I (S4.f o1 0) 2).toInt) ∨ (f_X9_gear S o2 y1 y2 y3 y4 = .ok (S.I o2 1) ∧ (S16.I o1 15).toInt = 0 ∧ r12.toInt = (S4.I (S4.f o1 0) 2).toInt ∧ (S16.I (S4.f o1 0) 2).toInt = (S4.I (S4.f o1 0) 2).toInt + 1) := by
  have l20 : (20 : Int32).toInt = 20 := rfl
  have bad : ∀ (E : String) (n : Int32), f_X9_gear S o2 y1 y2 y3 y4 = .error E → wc_gear E = n → ¬ n = 0 → (S16.I o1 15).toInt = n.toInt → (S16.I (S4.f o1 0) 2).toInt = (S4.I (S4.f o1 0) 2).toInt → (∃ (E : String) (n : Int32), f_X9_gear S o2 y1 y2 y3 y4 = .error E ∧ wc_gear E = n ∧ ¬ n = 0 ∧ (S16.I o1 15).toInt = n.toInt ∧ (S16.I (S4.f o1 0) 2).toInt = (S4.I (S4.f o1 0) 2).toInt) ∨ (f_X9_gear S o2 y1 y2 y3 y4 = .ok (S.I o2 1) ∧ (S16.I o1 15).toInt = 0 ∧ r12.toInt = (S4.I (S4.f o1 0) 2).toInt ∧ (S16.I (S4.f o1 0) 2).toInt = (S4.I (S4.f o1 0) 2).toInt + 1) := fun E n e1 e2 e3 e4 e5 => Or.inl ⟨E, n, e1, e2, e3, e4, e5⟩
  have am500 : (-500 : Int32).toInt = -500 := rfl
  have a6 : (6 : Int32).toInt = 6 := rfl
  have a200 : (200 : Int32).toInt = 200 := rfl
  have a500 : (500 : Int32).toInt = 500 := rfl
  have a1000 : (1000 : Int32).toInt = 1000 := rfl
  have a10000 : (10000 : Int32).toInt = 10000 := rfl
  have a99999 : (99999 : Int32).toInt = 99999 := rfl
  by_cases c0 : (6 : Int) ≤ y1.toInt ∧ y1.toInt ≤ 200
  · have z0 : (f_X12_in y1.toInt64 (6 : Int64) (200 : Int64)).toInt = 1 := by rw [li64 (a := 6) (b := 200) rfl rfl c0]; rfl
    by_cases c1 : (500 : Int) ≤ y2.toInt ∧ y2.toInt ≤ 10000
    · have z1 : (f_X12_in y2.toInt64 (500 : Int64) (10000 : Int64)).toInt = 1 := by rw [li64 (a := 500) (b := 10000) rfl rfl c1]; rfl
      by_cases c2 : (-500 : Int) ≤ y3.toInt ∧ y3.toInt ≤ 500
      · have z2 : (f_X12_in y3.toInt64 (-500 : Int64) (500 : Int64)).toInt = 1 := by rw [li64 (a := -500) (b := 500) rfl rfl c2]; rfl
        by_cases c3 : (1000 : Int) ≤ y4.toInt ∧ y4.toInt ≤ 99999
        · have z3 : (f_X12_in y4.toInt64 (1000 : Int64) (99999 : Int64)).toInt = 1 := by rw [li64 (a := 1000) (b := 99999) rfl rfl c3]; rfl
          by_cases c5 : (S.I o2 1).toInt < 20
          · have e1 : f_X9_gear S o2 y1 y2 y3 y4 = .ok (S.I o2 1) := by
              unfold f_X9_gear
              rw [eB_ok (nt_ok c0), eB_ok (rng_ok (by rw [a500, a10000]; exact c1)), eB_ok (rng_ok (by rw [am500, a500]; exact c2)), eB_ok (rng_ok (by rw [a1000, a99999]; exact c3)), if_pos (Int32.lt_iff_toInt_lt.mpr (by rw [l20]; exact c5))]
            exact Or.inr ⟨e1, by omega, by omega, by omega⟩
          · refine bad "java/lang/IllegalStateException" 2 ?_ ((if_neg (by decide)).trans (if_pos rfl)) (by decide) (show _ = (2 : Int) by omega) (by omega)
            unfold f_X9_gear
            rw [eB_ok (nt_ok c0), eB_ok (rng_ok (by rw [a500, a10000]; exact c1)), eB_ok (rng_ok (by rw [am500, a500]; exact c2)), eB_ok (rng_ok (by rw [a1000, a99999]; exact c3)), if_neg (fun q => c5 (by have := Int32.lt_iff_toInt_lt.mp q; rw [l20] at this; exact this))]
        · have z3 : (f_X12_in y4.toInt64 (1000 : Int64) (99999 : Int64)).toInt = 0 := by rw [li64n (a := 1000) (b := 99999) rfl rfl c3]; rfl
          refine bad "java/lang/IllegalArgumentException" 1 ?_ (if_pos rfl) (by decide) (show _ = (1 : Int) by omega) (by omega)
          unfold f_X9_gear
          rw [eB_ok (nt_ok c0), eB_ok (rng_ok (by rw [a500, a10000]; exact c1)), eB_ok (rng_ok (by rw [am500, a500]; exact c2))]
          exact eB_er (rng_er (by rw [a1000, a99999]; exact c3))
      · have z2 : (f_X12_in y3.toInt64 (-500 : Int64) (500 : Int64)).toInt = 0 := by rw [li64n (a := -500) (b := 500) rfl rfl c2]; rfl
        refine bad "java/lang/IllegalArgumentException" 1 ?_ (if_pos rfl) (by decide) (show _ = (1 : Int) by omega) (by omega)
        unfold f_X9_gear
        rw [eB_ok (nt_ok c0), eB_ok (rng_ok (by rw [a500, a10000]; exact c1))]
        exact eB_er (rng_er (by rw [am500, a500]; exact c2))
    · have z1 : (f_X12_in y2.toInt64 (500 : Int64) (10000 : Int64)).toInt = 0 := by rw [li64n (a := 500) (b := 10000) rfl rfl c1]; rfl
      refine bad "java/lang/IllegalArgumentException" 1 ?_ (if_pos rfl) (by decide) (show _ = (1 : Int) by omega) (by omega)
      unfold f_X9_gear
      rw [eB_ok (nt_ok c0)]
      exact eB_er (rng_er (by rw [a500, a10000]; exact c1))
  · have z0 : (f_X12_in y1.toInt64 (6 : Int64) (200 : Int64)).toInt = 0 := by rw [li64n (a := 6) (b := 200) rfl rfl c0]; rfl
    refine bad "java/lang/IllegalArgumentException" 1 ?_ (if_pos rfl) (by decide) (show _ = (1 : Int) by omega) (by omega)
    unfold f_X9_gear
    exact eB_er (nt_er c0)
theorem RG.gear {S S4 S16 : wPS} {o1 o2 : Nat} {y1 y2 y3 y4 r3 r12 : Int32} {fo f5 : Nat → Int64} (m : RG o2 S o1) (hA : isA S o1 12) (hW : wtB S []) (hw : stp [(9, 1), (19, 101)] [] [] S S4) (hm : stp [(12, 15), (14, 0), (14, 1), (14, 2), (22, 101), (110, 10), (114, 10), (122, 10)] [] [] S4 S16) (h : (∃ v, f_X9_gear S o2 y1 y2 y3 y4 = .ok v ∧ r3 = 0 ∧ f5 = vp_updL fo (0 : Int32).toNatClampNeg (v.toInt64) ∧ (S4.I o2 1).toInt = (S.I o2 1).toInt + 1 ∧ (∃ g : Nat, g ∉ S.L ∧ isA S4 g 2 ∧ S4.r (S.f o2 0) (S.I o2 1).toNatClampNeg = some g ∧ (∀ i : Nat, i ≠ (S.I o2 1).toNatClampNeg → S4.r (S.f o2 0) i = S.r (S.f o2 0) i) ∧ S4.I g 0 = S.I o2 1 ∧ S4.I g 1 = y1 ∧ S4.I g 2 = y2 ∧ S4.I g 3 = y3 ∧ S4.I g 4 = y4 ∧ S4.I g 7 = (0 : Int32) ∧ S4.I g 8 = (-1 : Int32) ∧ S4.I g 9 = (0 : Int32) ∧ S4.I g 10 = (0 : Int32) ∧ S4.I g 11 = (0 : Int32) ∧ S4.f g 5 ∉ S.L ∧ S4.f (S4.f g 5) 0 ∉ S.L ∧ S4.n (S4.f (S4.f g 5) 0) = y1.toNatClampNeg ∧ (∀ i : Nat, S4.i (S4.f (S4.f g 5) 0) i = 0) ∧ S4.f (S4.f g 5) 1 ∉ S.L ∧ (∀ i : Nat, S4.i (S4.f (S4.f g 5) 1) i = 0) ∧ S4.I (S4.f g 5) 2 = (0 : Int32))) ∨ (∃ E, f_X9_gear S o2 y1 y2 y3 y4 = .error E ∧ r3 = wc_gear E ∧ f5 = fo ∧ S4 = S)) (h2 : ((((f_X12_in y1.toInt64 (6 : Int64) (200 : Int64)).toInt = 0 ∨ (f_X12_in y2.toInt64 (500 : Int64) (10000 : Int64)).toInt = 0 ∨ (f_X12_in y3.toInt64 (-500 : Int64) (500 : Int64)).toInt = 0 ∨ (f_X12_in y4.toInt64 (1000 : Int64) (99999 : Int64)).toInt = 0) ∧ r12.toInt = 0 ∧ (S16.I o1 15).toInt = 1 ∧ (S16.I (S4.f o1 0) 2).toInt = (S4.I (S4.f o1 0) 2).toInt) ∨ ((¬ (f_X12_in y1.toInt64 (6 : Int64) (200 : Int64)).toInt = 0 ∧ ¬ (f_X12_in y2.toInt64 (500 : Int64) (10000 : Int64)).toInt = 0 ∧ ¬ (f_X12_in y3.toInt64 (-500 : Int64) (500 : Int64)).toInt = 0 ∧ ¬ (f_X12_in y4.toInt64 (1000 : Int64) (99999 : Int64)).toInt = 0) ∧ (S4.I (S4.f o1 0) 2).toInt = 20 ∧ r12.toInt = 0 ∧ (S16.I o1 15).toInt = 2 ∧ (S16.I (S4.f o1 0) 2).toInt = (S4.I (S4.f o1 0) 2).toInt) ∨ ((¬ (f_X12_in y1.toInt64 (6 : Int64) (200 : Int64)).toInt = 0 ∧ ¬ (f_X12_in y2.toInt64 (500 : Int64) (10000 : Int64)).toInt = 0 ∧ ¬ (f_X12_in y3.toInt64 (-500 : Int64) (500 : Int64)).toInt = 0 ∧ ¬ (f_X12_in y4.toInt64 (1000 : Int64) (99999 : Int64)).toInt = 0) ∧ ¬ (S4.I (S4.f o1 0) 2).toInt = 20 ∧ r12.toInt = (S4.I (S4.f o1 0) 2).toInt ∧ (S16.I o1 15).toInt = 0 ∧ (S16.I (S4.f o1 0) 2).toInt = (S4.I (S4.f o1 0) 2).toInt + 1)) ∧ ((S16.I (S4.f o1 0) 2).toInt = (S4.I (S4.f o1 0) 2).toInt → ∃ t : Int32, S16 = S4.sI o1 15 t) ∧ ((S16.I (S4.f o1 0) 2).toInt = (S4.I (S4.f o1 0) 2).toInt + 1 → ∃ g a : Nat, g ∉ S4.L ∧ isA S16 g 10 ∧ S16.F (S4.f o1 0) 1 = some a ∧ isA S16 a 22 ∧ S16.r a (S4.I (S4.f o1 0) 2).toNatClampNeg = some g ∧ (∀ i : Nat, (i : Int) < (S4.I (S4.f o1 0) 2).toInt → S16.r a i = S4.r (S4.f (S4.f o1 0) 1) i) ∧ S16.I g 1 = y1 ∧ S16.I g 2 = y2 ∧ S16.I g 3 = y3 ∧ S16.I g 4 = y4 ∧ S16.I g 7 = (0 : Int32) ∧ S16.I g 8 = (-1 : Int32) ∧ S16.I g 10 = (0 : Int32) ∧ S16.I g 11 = (0 : Int32) ∧ S16.I g 18 = (0 : Int32) ∧ S16.f g 5 ∉ S4.L ∧ ∀ j : Nat, S16.i (S16.f g 5) j = 0)) : RG o2 S16 o1 := by
  obtain ⟨f4, m4, q4, -, -⟩ := RG.st hw hW hA (by decide) m
  have hc : (S.I o2 1).toInt = (S4.I (S4.f o1 0) 2).toInt := by rw [f4, q4]; exact m.2.2.1
  have rr := ((hW.at m.1 List.not_mem_nil).to_9 m.1.2.1).R1
  obtain ⟨hF, h3, h4⟩ := h2
  rcases ca_gear hc rr hF with ⟨E, n, e1, e2, e3, e4, e5⟩ | ⟨e1, e2, e3, e4⟩
  · rcases h with ⟨v, g, -⟩ | ⟨E2, g, -, -, g4⟩
    · rw [e1] at g; cases g
    · obtain ⟨t, ht⟩ := h3 e5
      rw [ht, g4]; exact RG.sI hA m
  · rcases h with ⟨v, g, -, -, c4, N⟩ | ⟨E2, g, -⟩
    · exact RG.add m hA hW hw hm (by decide) (by decide) c4 N e4 (h4 e4)
    · rw [e1] at g; cases g
/-! hob: refused alike on both sides, or one more on both -/
theorem ca_hob {S S4 S16 : wPS} {o1 o2 : Nat} {y1 y2 y3 y4 r12 : Int32} (hc : (S.I o2 3).toInt = (S4.I (S4.f o1 1) 2).toInt) (rr : 0 ≤ (S.I o2 3).toInt ∧ (S.I o2 3).toInt ≤ 8) (h2 : ((((f_X12_in y1.toInt64 (500 : Int64) (10000 : Int64)).toInt = 0 ∨ (f_X12_in y2.toInt64 (1 : Int64) (4 : Int64)).toInt = 0 ∨ (f_X12_in y3.toInt64 (20000 : Int64) (200000 : Int64)).toInt = 0 ∨ (f_X12_in y4.toInt64 (1 : Int64) (20 : Int64)).toInt = 0) ∧ r12.toInt = 0 ∧ (S16.I o1 15).toInt = 1 ∧ (S16.I (S4.f o1 1) 2).toInt = (S4.I (S4.f o1 1) 2).toInt) ∨ ((¬ (f_X12_in y1.toInt64 (500 : Int64) (10000 : Int64)).toInt = 0 ∧ ¬ (f_X12_in y2.toInt64 (1 : Int64) (4 : Int64)).toInt = 0 ∧ ¬ (f_X12_in y3.toInt64 (20000 : Int64) (200000 : Int64)).toInt = 0 ∧ ¬ (f_X12_in y4.toInt64 (1 : Int64) (20 : Int64)).toInt = 0) ∧ (S4.I (S4.f o1 1) 2).toInt = 8 ∧ r12.toInt = 0 ∧ (S16.I o1 15).toInt = 2 ∧ (S16.I (S4.f o1 1) 2).toInt = (S4.I (S4.f o1 1) 2).toInt) ∨ ((¬ (f_X12_in y1.toInt64 (500 : Int64) (10000 : Int64)).toInt = 0 ∧ ¬ (f_X12_in y2.toInt64 (1 : Int64) (4 : Int64)).toInt = 0 ∧ ¬ (f_X12_in y3.toInt64 (20000 : Int64) (200000 : Int64)).toInt = 0 ∧ ¬ (f_X12_in y4.toInt64 (1 : Int64) (20 : Int64)).toInt = 0) ∧ ¬ (S4.I (S4.f o1 1) 2).toInt = 8 ∧ r12.toInt = (S4.I (S4.f o1 1) 2).toInt ∧ (S16.I o1 15).toInt = 0 ∧ (S16.I (S4.f o1 1) 2).toInt = (S4.I (S4.f o1 1) 2).toInt + 1))) : (∃ (E : String) (n : Int32), f_X9_hob S o2 y1 y2 y3 y4 = .error E ∧ wc_hob E = n ∧ ¬ n = 0 ∧ (S16.I o1 15).toInt = n.toInt ∧ (S16.I (S4.f o1 1) 2).toInt = (S4.I (S4.f o1 1) 2).toInt) ∨ (f_X9_hob S o2 y1 y2 y3 y4 = .ok (S.I o2 3) ∧ (S16.I o1 15).toInt = 0 ∧ r12.toInt = (S4.I (S4.f o1 1) 2).toInt ∧ (S16.I (S4.f o1 1) 2).toInt = (S4.I (S4.f o1 1) 2).toInt + 1) := by
  have l8 : (8 : Int32).toInt = 8 := rfl
  have bad : ∀ (E : String) (n : Int32), f_X9_hob S o2 y1 y2 y3 y4 = .error E → wc_hob E = n → ¬ n = 0 → (S16.I o1 15).toInt = n.toInt → (S16.I (S4.f o1 1) 2).toInt = (S4.I (S4.f o1 1) 2).toInt → (∃ (E : String) (n : Int32), f_X9_hob S o2 y1 y2 y3 y4 = .error E ∧ wc_hob E = n ∧ ¬ n = 0 ∧ (S16.I o1 15).toInt = n.toInt ∧ (S16.I (S4.f o1 1) 2).toInt = (S4.I (S4.f o1 1) 2).toInt) ∨ (f_X9_hob S o2 y1 y2 y3 y4 = .ok (S.I o2 3) ∧ (S16.I o1 15).toInt = 0 ∧ r12.toInt = (S4.I (S4.f o1 1) 2).toInt ∧ (S16.I (S4.f o1 1) 2).toInt = (S4.I (S4.f o1 1) 2).toInt + 1) := fun E n e1 e2 e3 e4 e5 => Or.inl ⟨E, n, e1, e2, e3, e4, e5⟩
  have a1 : (1 : Int32).toInt = 1 := rfl
  have a4 : (4 : Int32).toInt = 4 := rfl
  have a20 : (20 : Int32).toInt = 20 := rfl
  have a500 : (500 : Int32).toInt = 500 := rfl
  have a10000 : (10000 : Int32).toInt = 10000 := rfl
  have a20000 : (20000 : Int32).toInt = 20000 := rfl
  have a200000 : (200000 : Int32).toInt = 200000 := rfl
  by_cases c0 : (500 : Int) ≤ y1.toInt ∧ y1.toInt ≤ 10000
  · have z0 : (f_X12_in y1.toInt64 (500 : Int64) (10000 : Int64)).toInt = 1 := by rw [li64 (a := 500) (b := 10000) rfl rfl c0]; rfl
    by_cases c1 : (1 : Int) ≤ y2.toInt ∧ y2.toInt ≤ 4
    · have z1 : (f_X12_in y2.toInt64 (1 : Int64) (4 : Int64)).toInt = 1 := by rw [li64 (a := 1) (b := 4) rfl rfl c1]; rfl
      by_cases c2 : (20000 : Int) ≤ y3.toInt ∧ y3.toInt ≤ 200000
      · have z2 : (f_X12_in y3.toInt64 (20000 : Int64) (200000 : Int64)).toInt = 1 := by rw [li64 (a := 20000) (b := 200000) rfl rfl c2]; rfl
        by_cases c3 : (1 : Int) ≤ y4.toInt ∧ y4.toInt ≤ 20
        · have z3 : (f_X12_in y4.toInt64 (1 : Int64) (20 : Int64)).toInt = 1 := by rw [li64 (a := 1) (b := 20) rfl rfl c3]; rfl
          by_cases c5 : (S.I o2 3).toInt < 8
          · have e1 : f_X9_hob S o2 y1 y2 y3 y4 = .ok (S.I o2 3) := by
              unfold f_X9_hob
              rw [eB_ok (rng_ok (by rw [a500, a10000]; exact c0)), eB_ok (rng_ok (by rw [a1, a4]; exact c1)), eB_ok (rng_ok (by rw [a20000, a200000]; exact c2)), eB_ok (rng_ok (by rw [a1, a20]; exact c3)), if_pos (Int32.lt_iff_toInt_lt.mpr (by rw [l8]; exact c5))]
            exact Or.inr ⟨e1, by omega, by omega, by omega⟩
          · refine bad "java/lang/IllegalStateException" 2 ?_ ((if_neg (by decide)).trans (if_pos rfl)) (by decide) (show _ = (2 : Int) by omega) (by omega)
            unfold f_X9_hob
            rw [eB_ok (rng_ok (by rw [a500, a10000]; exact c0)), eB_ok (rng_ok (by rw [a1, a4]; exact c1)), eB_ok (rng_ok (by rw [a20000, a200000]; exact c2)), eB_ok (rng_ok (by rw [a1, a20]; exact c3)), if_neg (fun q => c5 (by have := Int32.lt_iff_toInt_lt.mp q; rw [l8] at this; exact this))]
        · have z3 : (f_X12_in y4.toInt64 (1 : Int64) (20 : Int64)).toInt = 0 := by rw [li64n (a := 1) (b := 20) rfl rfl c3]; rfl
          refine bad "java/lang/IllegalArgumentException" 1 ?_ (if_pos rfl) (by decide) (show _ = (1 : Int) by omega) (by omega)
          unfold f_X9_hob
          rw [eB_ok (rng_ok (by rw [a500, a10000]; exact c0)), eB_ok (rng_ok (by rw [a1, a4]; exact c1)), eB_ok (rng_ok (by rw [a20000, a200000]; exact c2))]
          exact eB_er (rng_er (by rw [a1, a20]; exact c3))
      · have z2 : (f_X12_in y3.toInt64 (20000 : Int64) (200000 : Int64)).toInt = 0 := by rw [li64n (a := 20000) (b := 200000) rfl rfl c2]; rfl
        refine bad "java/lang/IllegalArgumentException" 1 ?_ (if_pos rfl) (by decide) (show _ = (1 : Int) by omega) (by omega)
        unfold f_X9_hob
        rw [eB_ok (rng_ok (by rw [a500, a10000]; exact c0)), eB_ok (rng_ok (by rw [a1, a4]; exact c1))]
        exact eB_er (rng_er (by rw [a20000, a200000]; exact c2))
    · have z1 : (f_X12_in y2.toInt64 (1 : Int64) (4 : Int64)).toInt = 0 := by rw [li64n (a := 1) (b := 4) rfl rfl c1]; rfl
      refine bad "java/lang/IllegalArgumentException" 1 ?_ (if_pos rfl) (by decide) (show _ = (1 : Int) by omega) (by omega)
      unfold f_X9_hob
      rw [eB_ok (rng_ok (by rw [a500, a10000]; exact c0))]
      exact eB_er (rng_er (by rw [a1, a4]; exact c1))
  · have z0 : (f_X12_in y1.toInt64 (500 : Int64) (10000 : Int64)).toInt = 0 := by rw [li64n (a := 500) (b := 10000) rfl rfl c0]; rfl
    refine bad "java/lang/IllegalArgumentException" 1 ?_ (if_pos rfl) (by decide) (show _ = (1 : Int) by omega) (by omega)
    unfold f_X9_hob
    exact eB_er (rng_er (by rw [a500, a10000]; exact c0))
theorem RH.hob {S S4 S16 : wPS} {o1 o2 : Nat} {y1 y2 y3 y4 r3 r12 : Int32} {fo f5 : Nat → Int64} (m : RH o2 S o1) (hA : isA S o1 12) (hW : wtB S []) (hw : stp [(9, 3), (20, 101)] [] [] S S4) (hm : stp [(12, 15), (14, 0), (14, 1), (14, 2), (22, 101), (114, 11), (122, 11)] [] [] S4 S16) (h : (∃ v, f_X9_hob S o2 y1 y2 y3 y4 = .ok v ∧ r3 = 0 ∧ f5 = vp_updL fo (0 : Int32).toNatClampNeg (v.toInt64) ∧ (S4.I o2 3).toInt = (S.I o2 3).toInt + 1 ∧ (∃ g : Nat, g ∉ S.L ∧ isA S4 g 3 ∧ S4.r (S.f o2 2) (S.I o2 3).toNatClampNeg = some g ∧ (∀ i : Nat, i ≠ (S.I o2 3).toNatClampNeg → S4.r (S.f o2 2) i = S.r (S.f o2 2) i) ∧ S4.I g 0 = y1 ∧ S4.I g 1 = y2 ∧ S4.I g 3 = y3 ∧ S4.I g 4 = (0 : Int32) ∧ S4.I g 5 = (0 : Int32) ∧ S4.f g 2 ∉ S.L ∧ S4.n (S4.f g 2) = y4.toNatClampNeg ∧ ∀ j : Nat, S4.i (S4.f g 2) j = 0)) ∨ (∃ E, f_X9_hob S o2 y1 y2 y3 y4 = .error E ∧ r3 = wc_hob E ∧ f5 = fo ∧ S4 = S)) (h2 : ((((f_X12_in y1.toInt64 (500 : Int64) (10000 : Int64)).toInt = 0 ∨ (f_X12_in y2.toInt64 (1 : Int64) (4 : Int64)).toInt = 0 ∨ (f_X12_in y3.toInt64 (20000 : Int64) (200000 : Int64)).toInt = 0 ∨ (f_X12_in y4.toInt64 (1 : Int64) (20 : Int64)).toInt = 0) ∧ r12.toInt = 0 ∧ (S16.I o1 15).toInt = 1 ∧ (S16.I (S4.f o1 1) 2).toInt = (S4.I (S4.f o1 1) 2).toInt) ∨ ((¬ (f_X12_in y1.toInt64 (500 : Int64) (10000 : Int64)).toInt = 0 ∧ ¬ (f_X12_in y2.toInt64 (1 : Int64) (4 : Int64)).toInt = 0 ∧ ¬ (f_X12_in y3.toInt64 (20000 : Int64) (200000 : Int64)).toInt = 0 ∧ ¬ (f_X12_in y4.toInt64 (1 : Int64) (20 : Int64)).toInt = 0) ∧ (S4.I (S4.f o1 1) 2).toInt = 8 ∧ r12.toInt = 0 ∧ (S16.I o1 15).toInt = 2 ∧ (S16.I (S4.f o1 1) 2).toInt = (S4.I (S4.f o1 1) 2).toInt) ∨ ((¬ (f_X12_in y1.toInt64 (500 : Int64) (10000 : Int64)).toInt = 0 ∧ ¬ (f_X12_in y2.toInt64 (1 : Int64) (4 : Int64)).toInt = 0 ∧ ¬ (f_X12_in y3.toInt64 (20000 : Int64) (200000 : Int64)).toInt = 0 ∧ ¬ (f_X12_in y4.toInt64 (1 : Int64) (20 : Int64)).toInt = 0) ∧ ¬ (S4.I (S4.f o1 1) 2).toInt = 8 ∧ r12.toInt = (S4.I (S4.f o1 1) 2).toInt ∧ (S16.I o1 15).toInt = 0 ∧ (S16.I (S4.f o1 1) 2).toInt = (S4.I (S4.f o1 1) 2).toInt + 1)) ∧ ((S16.I (S4.f o1 1) 2).toInt = (S4.I (S4.f o1 1) 2).toInt → ∃ t : Int32, S16 = S4.sI o1 15 t) ∧ ((S16.I (S4.f o1 1) 2).toInt = (S4.I (S4.f o1 1) 2).toInt + 1 → ∃ g a : Nat, g ∉ S4.L ∧ isA S16 g 11 ∧ S16.F (S4.f o1 1) 1 = some a ∧ isA S16 a 22 ∧ S16.r a (S4.I (S4.f o1 1) 2).toNatClampNeg = some g ∧ (∀ i : Nat, (i : Int) < (S4.I (S4.f o1 1) 2).toInt → S16.r a i = S4.r (S4.f (S4.f o1 1) 1) i) ∧ S16.I g 0 = y1 ∧ S16.I g 1 = y2 ∧ S16.I g 4 = y3 ∧ S16.I g 3 = y4 ∧ S16.I g 5 = (0 : Int32) ∧ S16.I g 6 = (0 : Int32) ∧ S16.f g 2 ∉ S4.L ∧ ∀ j : Nat, S16.i (S16.f g 2) j = 0)) : RH o2 S16 o1 := by
  obtain ⟨f4, m4, q4, -, -⟩ := RH.st hw hW hA (by decide) m
  have hc : (S.I o2 3).toInt = (S4.I (S4.f o1 1) 2).toInt := by rw [f4, q4]; exact m.2.2.1
  have rr := ((hW.at m.1 List.not_mem_nil).to_9 m.1.2.1).R3
  obtain ⟨hF, h3, h4⟩ := h2
  rcases ca_hob hc rr hF with ⟨E, n, e1, e2, e3, e4, e5⟩ | ⟨e1, e2, e3, e4⟩
  · rcases h with ⟨v, g, -⟩ | ⟨E2, g, -, -, g4⟩
    · rw [e1] at g; cases g
    · obtain ⟨t, ht⟩ := h3 e5
      rw [ht, g4]; exact RH.sI hA m
  · rcases h with ⟨v, g, -, -, c4, N⟩ | ⟨E2, g, -⟩
    · exact RH.add m hA hW hw hm (by decide) (by decide) c4 N e4 (h4 e4)
    · rw [e1] at g; cases g
theorem RK.gear {S S4 S16 : wPS} {o1 o2 : Nat} {y1 y2 y3 y4 r3 r12 : Int32} {fo f5 : Nat → Int64} (m : RK o2 S o1) (hA : isA S o1 12) (hW : wtB S []) (hw : stp [(9, 1), (19, 101)] [] [] S S4) (hm : stp [(12, 15), (14, 0), (14, 1), (14, 2), (22, 101), (110, 10), (114, 10), (122, 10)] [] [] S4 S16) (h : (∃ v, f_X9_gear S o2 y1 y2 y3 y4 = .ok v ∧ r3 = 0 ∧ f5 = vp_updL fo (0 : Int32).toNatClampNeg (v.toInt64) ∧ (S4.I o2 1).toInt = (S.I o2 1).toInt + 1 ∧ (∃ g : Nat, g ∉ S.L ∧ isA S4 g 2 ∧ S4.r (S.f o2 0) (S.I o2 1).toNatClampNeg = some g ∧ (∀ i : Nat, i ≠ (S.I o2 1).toNatClampNeg → S4.r (S.f o2 0) i = S.r (S.f o2 0) i) ∧ S4.I g 0 = S.I o2 1 ∧ S4.I g 1 = y1 ∧ S4.I g 2 = y2 ∧ S4.I g 3 = y3 ∧ S4.I g 4 = y4 ∧ S4.I g 7 = (0 : Int32) ∧ S4.I g 8 = (-1 : Int32) ∧ S4.I g 9 = (0 : Int32) ∧ S4.I g 10 = (0 : Int32) ∧ S4.I g 11 = (0 : Int32) ∧ S4.f g 5 ∉ S.L ∧ S4.f (S4.f g 5) 0 ∉ S.L ∧ S4.n (S4.f (S4.f g 5) 0) = y1.toNatClampNeg ∧ (∀ i : Nat, S4.i (S4.f (S4.f g 5) 0) i = 0) ∧ S4.f (S4.f g 5) 1 ∉ S.L ∧ (∀ i : Nat, S4.i (S4.f (S4.f g 5) 1) i = 0) ∧ S4.I (S4.f g 5) 2 = (0 : Int32))) ∨ (∃ E, f_X9_gear S o2 y1 y2 y3 y4 = .error E ∧ r3 = wc_gear E ∧ f5 = fo ∧ S4 = S)) (h2 : ((((f_X12_in y1.toInt64 (6 : Int64) (200 : Int64)).toInt = 0 ∨ (f_X12_in y2.toInt64 (500 : Int64) (10000 : Int64)).toInt = 0 ∨ (f_X12_in y3.toInt64 (-500 : Int64) (500 : Int64)).toInt = 0 ∨ (f_X12_in y4.toInt64 (1000 : Int64) (99999 : Int64)).toInt = 0) ∧ r12.toInt = 0 ∧ (S16.I o1 15).toInt = 1 ∧ (S16.I (S4.f o1 0) 2).toInt = (S4.I (S4.f o1 0) 2).toInt) ∨ ((¬ (f_X12_in y1.toInt64 (6 : Int64) (200 : Int64)).toInt = 0 ∧ ¬ (f_X12_in y2.toInt64 (500 : Int64) (10000 : Int64)).toInt = 0 ∧ ¬ (f_X12_in y3.toInt64 (-500 : Int64) (500 : Int64)).toInt = 0 ∧ ¬ (f_X12_in y4.toInt64 (1000 : Int64) (99999 : Int64)).toInt = 0) ∧ (S4.I (S4.f o1 0) 2).toInt = 20 ∧ r12.toInt = 0 ∧ (S16.I o1 15).toInt = 2 ∧ (S16.I (S4.f o1 0) 2).toInt = (S4.I (S4.f o1 0) 2).toInt) ∨ ((¬ (f_X12_in y1.toInt64 (6 : Int64) (200 : Int64)).toInt = 0 ∧ ¬ (f_X12_in y2.toInt64 (500 : Int64) (10000 : Int64)).toInt = 0 ∧ ¬ (f_X12_in y3.toInt64 (-500 : Int64) (500 : Int64)).toInt = 0 ∧ ¬ (f_X12_in y4.toInt64 (1000 : Int64) (99999 : Int64)).toInt = 0) ∧ ¬ (S4.I (S4.f o1 0) 2).toInt = 20 ∧ r12.toInt = (S4.I (S4.f o1 0) 2).toInt ∧ (S16.I o1 15).toInt = 0 ∧ (S16.I (S4.f o1 0) 2).toInt = (S4.I (S4.f o1 0) 2).toInt + 1)) ∧ ((S16.I (S4.f o1 0) 2).toInt = (S4.I (S4.f o1 0) 2).toInt → ∃ t : Int32, S16 = S4.sI o1 15 t) ∧ ((S16.I (S4.f o1 0) 2).toInt = (S4.I (S4.f o1 0) 2).toInt + 1 → ∃ g a : Nat, g ∉ S4.L ∧ isA S16 g 10 ∧ S16.F (S4.f o1 0) 1 = some a ∧ isA S16 a 22 ∧ S16.r a (S4.I (S4.f o1 0) 2).toNatClampNeg = some g ∧ (∀ i : Nat, (i : Int) < (S4.I (S4.f o1 0) 2).toInt → S16.r a i = S4.r (S4.f (S4.f o1 0) 1) i) ∧ S16.I g 1 = y1 ∧ S16.I g 2 = y2 ∧ S16.I g 3 = y3 ∧ S16.I g 4 = y4 ∧ S16.I g 7 = (0 : Int32) ∧ S16.I g 8 = (-1 : Int32) ∧ S16.I g 10 = (0 : Int32) ∧ S16.I g 11 = (0 : Int32) ∧ S16.I g 18 = (0 : Int32) ∧ S16.f g 5 ∉ S4.L ∧ ∀ j : Nat, S16.i (S16.f g 5) j = 0)) : RK o2 S16 o1 := by
  obtain ⟨f4, m4, q4, -, -⟩ := RK.st hw hW hA (by decide) m
  have hc : (S.I o2 1).toInt = (S4.I (S4.f o1 0) 2).toInt := by rw [f4, q4]; exact m.2.2.1
  have rr := ((hW.at m.1 List.not_mem_nil).to_9 m.1.2.1).R1
  obtain ⟨hF, h3, h4⟩ := h2
  rcases ca_gear hc rr hF with ⟨E, n, e1, e2, e3, e4, e5⟩ | ⟨e1, e2, e3, e4⟩
  · rcases h with ⟨v, g, -⟩ | ⟨E2, g, -, -, g4⟩
    · rw [e1] at g; cases g
    · obtain ⟨t, ht⟩ := h3 e5
      rw [ht, g4]; exact RK.sI hA m
  · rcases h with ⟨v, g, -, -, c4, N⟩ | ⟨E2, g, -⟩
    · exact RK.add m hA hW hw hm (by decide) (by decide) c4 N e4 (h4 e4)
    · rw [e1] at g; cases g
theorem RGS.gear {S S4 S16 : wPS} {o1 o2 : Nat} {y1 y2 y3 y4 r3 r12 : Int32} {fo f5 : Nat → Int64} (m : RGS o2 S o1) (hA : isA S o1 12) (hW : wtB S []) (hw : stp [(9, 1), (19, 101)] [] [] S S4) (hm : stp [(12, 15), (14, 0), (14, 1), (14, 2), (22, 101), (110, 10), (114, 10), (122, 10)] [] [] S4 S16) (h : (∃ v, f_X9_gear S o2 y1 y2 y3 y4 = .ok v ∧ r3 = 0 ∧ f5 = vp_updL fo (0 : Int32).toNatClampNeg (v.toInt64) ∧ (S4.I o2 1).toInt = (S.I o2 1).toInt + 1 ∧ (∃ g : Nat, g ∉ S.L ∧ isA S4 g 2 ∧ S4.r (S.f o2 0) (S.I o2 1).toNatClampNeg = some g ∧ (∀ i : Nat, i ≠ (S.I o2 1).toNatClampNeg → S4.r (S.f o2 0) i = S.r (S.f o2 0) i) ∧ S4.I g 0 = S.I o2 1 ∧ S4.I g 1 = y1 ∧ S4.I g 2 = y2 ∧ S4.I g 3 = y3 ∧ S4.I g 4 = y4 ∧ S4.I g 7 = (0 : Int32) ∧ S4.I g 8 = (-1 : Int32) ∧ S4.I g 9 = (0 : Int32) ∧ S4.I g 10 = (0 : Int32) ∧ S4.I g 11 = (0 : Int32) ∧ S4.f g 5 ∉ S.L ∧ S4.f (S4.f g 5) 0 ∉ S.L ∧ S4.n (S4.f (S4.f g 5) 0) = y1.toNatClampNeg ∧ (∀ i : Nat, S4.i (S4.f (S4.f g 5) 0) i = 0) ∧ S4.f (S4.f g 5) 1 ∉ S.L ∧ (∀ i : Nat, S4.i (S4.f (S4.f g 5) 1) i = 0) ∧ S4.I (S4.f g 5) 2 = (0 : Int32))) ∨ (∃ E, f_X9_gear S o2 y1 y2 y3 y4 = .error E ∧ r3 = wc_gear E ∧ f5 = fo ∧ S4 = S)) (h2 : ((((f_X12_in y1.toInt64 (6 : Int64) (200 : Int64)).toInt = 0 ∨ (f_X12_in y2.toInt64 (500 : Int64) (10000 : Int64)).toInt = 0 ∨ (f_X12_in y3.toInt64 (-500 : Int64) (500 : Int64)).toInt = 0 ∨ (f_X12_in y4.toInt64 (1000 : Int64) (99999 : Int64)).toInt = 0) ∧ r12.toInt = 0 ∧ (S16.I o1 15).toInt = 1 ∧ (S16.I (S4.f o1 0) 2).toInt = (S4.I (S4.f o1 0) 2).toInt) ∨ ((¬ (f_X12_in y1.toInt64 (6 : Int64) (200 : Int64)).toInt = 0 ∧ ¬ (f_X12_in y2.toInt64 (500 : Int64) (10000 : Int64)).toInt = 0 ∧ ¬ (f_X12_in y3.toInt64 (-500 : Int64) (500 : Int64)).toInt = 0 ∧ ¬ (f_X12_in y4.toInt64 (1000 : Int64) (99999 : Int64)).toInt = 0) ∧ (S4.I (S4.f o1 0) 2).toInt = 20 ∧ r12.toInt = 0 ∧ (S16.I o1 15).toInt = 2 ∧ (S16.I (S4.f o1 0) 2).toInt = (S4.I (S4.f o1 0) 2).toInt) ∨ ((¬ (f_X12_in y1.toInt64 (6 : Int64) (200 : Int64)).toInt = 0 ∧ ¬ (f_X12_in y2.toInt64 (500 : Int64) (10000 : Int64)).toInt = 0 ∧ ¬ (f_X12_in y3.toInt64 (-500 : Int64) (500 : Int64)).toInt = 0 ∧ ¬ (f_X12_in y4.toInt64 (1000 : Int64) (99999 : Int64)).toInt = 0) ∧ ¬ (S4.I (S4.f o1 0) 2).toInt = 20 ∧ r12.toInt = (S4.I (S4.f o1 0) 2).toInt ∧ (S16.I o1 15).toInt = 0 ∧ (S16.I (S4.f o1 0) 2).toInt = (S4.I (S4.f o1 0) 2).toInt + 1)) ∧ ((S16.I (S4.f o1 0) 2).toInt = (S4.I (S4.f o1 0) 2).toInt → ∃ t : Int32, S16 = S4.sI o1 15 t) ∧ ((S16.I (S4.f o1 0) 2).toInt = (S4.I (S4.f o1 0) 2).toInt + 1 → ∃ g a : Nat, g ∉ S4.L ∧ isA S16 g 10 ∧ S16.F (S4.f o1 0) 1 = some a ∧ isA S16 a 22 ∧ S16.r a (S4.I (S4.f o1 0) 2).toNatClampNeg = some g ∧ (∀ i : Nat, (i : Int) < (S4.I (S4.f o1 0) 2).toInt → S16.r a i = S4.r (S4.f (S4.f o1 0) 1) i) ∧ S16.I g 1 = y1 ∧ S16.I g 2 = y2 ∧ S16.I g 3 = y3 ∧ S16.I g 4 = y4 ∧ S16.I g 7 = (0 : Int32) ∧ S16.I g 8 = (-1 : Int32) ∧ S16.I g 10 = (0 : Int32) ∧ S16.I g 11 = (0 : Int32) ∧ S16.I g 18 = (0 : Int32) ∧ S16.f g 5 ∉ S4.L ∧ ∀ j : Nat, S16.i (S16.f g 5) j = 0)) : RGS o2 S16 o1 := by
  have RG' := RG.gear m.1 hA hW hw hm h h2
  obtain ⟨f4, m4, q4, -, -⟩ := RG.st hw hW hA (by decide) m.1
  have hc : (S.I o2 1).toInt = (S4.I (S4.f o1 0) 2).toInt := by rw [f4, q4]; exact m.1.2.2.1
  have rr := ((hW.at m.1.1 List.not_mem_nil).to_9 m.1.1.2.1).R1
  obtain ⟨hF, h3, h4⟩ := h2
  rcases ca_gear hc rr hF with ⟨E, n, e1, e2, e3, e4, e5⟩ | ⟨e1, e2, e3, e4⟩
  · rcases h with ⟨v, g, -⟩ | ⟨E2, g, -, -, g4⟩
    · rw [e1] at g; cases g
    · obtain ⟨t, ht⟩ := h3 e5
      rw [ht, g4]; exact RGS.sI hA m
  · rcases h with ⟨v, g, -, -, c4, N⟩ | ⟨E2, g, -⟩
    · obtain ⟨cI, g, b, ng, nb, gA, bA, pa, pb, qg, qb, qo⟩ := RG.qadd (PA := fun g => S4.I g 0 = S.I o2 1 ∧ S4.I g 1 = y1 ∧ S4.I g 2 = y2 ∧ S4.I g 3 = y3 ∧ S4.I g 4 = y4 ∧ S4.I g 7 = (0 : Int32) ∧ S4.I g 8 = (-1 : Int32) ∧ S4.I g 9 = (0 : Int32) ∧ S4.I g 10 = (0 : Int32) ∧ S4.I g 11 = (0 : Int32) ∧ S4.f g 5 ∉ S.L ∧ S4.f (S4.f g 5) 0 ∉ S.L ∧ S4.n (S4.f (S4.f g 5) 0) = y1.toNatClampNeg ∧ (∀ i : Nat, S4.i (S4.f (S4.f g 5) 0) i = 0) ∧ S4.f (S4.f g 5) 1 ∉ S.L ∧ (∀ i : Nat, S4.i (S4.f (S4.f g 5) 1) i = 0) ∧ S4.I (S4.f g 5) 2 = (0 : Int32)) (PB := fun g => S16.I g 1 = y1 ∧ S16.I g 2 = y2 ∧ S16.I g 3 = y3 ∧ S16.I g 4 = y4 ∧ S16.I g 7 = (0 : Int32) ∧ S16.I g 8 = (-1 : Int32) ∧ S16.I g 10 = (0 : Int32) ∧ S16.I g 11 = (0 : Int32) ∧ S16.I g 18 = (0 : Int32) ∧ S16.f g 5 ∉ S4.L ∧ ∀ j : Nat, S16.i (S16.f g 5) j = 0) m.1 hA hW hw hm (by decide) (by decide) c4 N (h4 e4)
      refine ⟨RG', fun i hi => ?_⟩
      have ck := cl_int (i := S.I o2 1) rr.1
      rw [cI, c4] at hi
      by_cases hik : i = (S.I o2 1).toNatClampNeg
      · obtain ⟨-, -, -, -, -, a7, -, -, -, -, -⟩ := pa
        have Ig := (hm.fR g gA.1 List.not_mem_nil).1
        rw [gA.2.1] at Ig
        rw [hik, qg, (Ig 7 (by decide)).1, a7]
        decide
      · have hi' : (i : Int) < (S.I o2 1).toInt := by omega
        obtain ⟨ga, gb, -⟩ := m.1.2.2.2.1 i hi'
        rw [(qo i hi').1, ((hm.fR _ (hw.x.A ga).1 List.not_mem_nil).1 7 (by rw [(hw.x.A ga).2.1]; decide)).1, ((hw.fR _ ga.1 List.not_mem_nil).1 7 (by rw [ga.2.1]; decide)).1]
        exact m.2 i hi'
    · rw [e1] at g; cases g
theorem hob_rng {S : wPS} {o2 : Nat} {y1 y2 y3 y4 v : Int32} (h : f_X9_hob S o2 y1 y2 y3 y4 = .ok v) : (500 ≤ y1.toInt ∧ y1.toInt ≤ 10000) ∧ (1 ≤ y2.toInt ∧ y2.toInt ≤ 4) ∧ (20000 ≤ y3.toInt ∧ y3.toInt ≤ 200000) ∧ (1 ≤ y4.toInt ∧ y4.toInt ≤ 20) := by
  have a500 : (500 : Int32).toInt = 500 := rfl
  have a10000 : (10000 : Int32).toInt = 10000 := rfl
  have a1 : (1 : Int32).toInt = 1 := rfl
  have a4 : (4 : Int32).toInt = 4 := rfl
  have a20000 : (20000 : Int32).toInt = 20000 := rfl
  have a200000 : (200000 : Int32).toInt = 200000 := rfl
  have a20 : (20 : Int32).toInt = 20 := rfl
  unfold f_X9_hob at h
  by_cases c1 : 500 ≤ y1.toInt ∧ y1.toInt ≤ 10000
  · rw [eB_ok (rng_ok (by rw [a500, a10000]; exact c1))] at h
    by_cases c2 : 1 ≤ y2.toInt ∧ y2.toInt ≤ 4
    · rw [eB_ok (rng_ok (by rw [a1, a4]; exact c2))] at h
      by_cases c3 : 20000 ≤ y3.toInt ∧ y3.toInt ≤ 200000
      · rw [eB_ok (rng_ok (by rw [a20000, a200000]; exact c3))] at h
        by_cases c4 : 1 ≤ y4.toInt ∧ y4.toInt ≤ 20
        · exact ⟨c1, c2, c3, c4⟩
        · rw [eB_er (rng_er (by rw [a1, a20]; exact c4))] at h; cases h
      · rw [eB_er (rng_er (by rw [a20000, a200000]; exact c3))] at h; cases h
    · rw [eB_er (rng_er (by rw [a1, a4]; exact c2))] at h; cases h
  · rw [eB_er (rng_er (by rw [a500, a10000]; exact c1))] at h; cases h
theorem RY.hob {S S4 S16 : wPS} {o1 o2 : Nat} {y1 y2 y3 y4 r3 r12 : Int32} {fo f5 : Nat → Int64} (m : RY o2 S o1) (hA : isA S o1 12) (hW : wtB S []) (hw : stp [(9, 3), (20, 101)] [] [] S S4) (hm : stp [(12, 15), (14, 0), (14, 1), (14, 2), (22, 101), (114, 11), (122, 11)] [] [] S4 S16) (h : (∃ v, f_X9_hob S o2 y1 y2 y3 y4 = .ok v ∧ r3 = 0 ∧ f5 = vp_updL fo (0 : Int32).toNatClampNeg (v.toInt64) ∧ (S4.I o2 3).toInt = (S.I o2 3).toInt + 1 ∧ (∃ g : Nat, g ∉ S.L ∧ isA S4 g 3 ∧ S4.r (S.f o2 2) (S.I o2 3).toNatClampNeg = some g ∧ (∀ i : Nat, i ≠ (S.I o2 3).toNatClampNeg → S4.r (S.f o2 2) i = S.r (S.f o2 2) i) ∧ S4.I g 0 = y1 ∧ S4.I g 1 = y2 ∧ S4.I g 3 = y3 ∧ S4.I g 4 = (0 : Int32) ∧ S4.I g 5 = (0 : Int32) ∧ S4.f g 2 ∉ S.L ∧ S4.n (S4.f g 2) = y4.toNatClampNeg ∧ ∀ j : Nat, S4.i (S4.f g 2) j = 0)) ∨ (∃ E, f_X9_hob S o2 y1 y2 y3 y4 = .error E ∧ r3 = wc_hob E ∧ f5 = fo ∧ S4 = S)) (h2 : ((((f_X12_in y1.toInt64 (500 : Int64) (10000 : Int64)).toInt = 0 ∨ (f_X12_in y2.toInt64 (1 : Int64) (4 : Int64)).toInt = 0 ∨ (f_X12_in y3.toInt64 (20000 : Int64) (200000 : Int64)).toInt = 0 ∨ (f_X12_in y4.toInt64 (1 : Int64) (20 : Int64)).toInt = 0) ∧ r12.toInt = 0 ∧ (S16.I o1 15).toInt = 1 ∧ (S16.I (S4.f o1 1) 2).toInt = (S4.I (S4.f o1 1) 2).toInt) ∨ ((¬ (f_X12_in y1.toInt64 (500 : Int64) (10000 : Int64)).toInt = 0 ∧ ¬ (f_X12_in y2.toInt64 (1 : Int64) (4 : Int64)).toInt = 0 ∧ ¬ (f_X12_in y3.toInt64 (20000 : Int64) (200000 : Int64)).toInt = 0 ∧ ¬ (f_X12_in y4.toInt64 (1 : Int64) (20 : Int64)).toInt = 0) ∧ (S4.I (S4.f o1 1) 2).toInt = 8 ∧ r12.toInt = 0 ∧ (S16.I o1 15).toInt = 2 ∧ (S16.I (S4.f o1 1) 2).toInt = (S4.I (S4.f o1 1) 2).toInt) ∨ ((¬ (f_X12_in y1.toInt64 (500 : Int64) (10000 : Int64)).toInt = 0 ∧ ¬ (f_X12_in y2.toInt64 (1 : Int64) (4 : Int64)).toInt = 0 ∧ ¬ (f_X12_in y3.toInt64 (20000 : Int64) (200000 : Int64)).toInt = 0 ∧ ¬ (f_X12_in y4.toInt64 (1 : Int64) (20 : Int64)).toInt = 0) ∧ ¬ (S4.I (S4.f o1 1) 2).toInt = 8 ∧ r12.toInt = (S4.I (S4.f o1 1) 2).toInt ∧ (S16.I o1 15).toInt = 0 ∧ (S16.I (S4.f o1 1) 2).toInt = (S4.I (S4.f o1 1) 2).toInt + 1)) ∧ ((S16.I (S4.f o1 1) 2).toInt = (S4.I (S4.f o1 1) 2).toInt → ∃ t : Int32, S16 = S4.sI o1 15 t) ∧ ((S16.I (S4.f o1 1) 2).toInt = (S4.I (S4.f o1 1) 2).toInt + 1 → ∃ g a : Nat, g ∉ S4.L ∧ isA S16 g 11 ∧ S16.F (S4.f o1 1) 1 = some a ∧ isA S16 a 22 ∧ S16.r a (S4.I (S4.f o1 1) 2).toNatClampNeg = some g ∧ (∀ i : Nat, (i : Int) < (S4.I (S4.f o1 1) 2).toInt → S16.r a i = S4.r (S4.f (S4.f o1 1) 1) i) ∧ S16.I g 0 = y1 ∧ S16.I g 1 = y2 ∧ S16.I g 4 = y3 ∧ S16.I g 3 = y4 ∧ S16.I g 5 = (0 : Int32) ∧ S16.I g 6 = (0 : Int32) ∧ S16.f g 2 ∉ S4.L ∧ ∀ j : Nat, S16.i (S16.f g 2) j = 0)) : RY o2 S16 o1 := by
  have RH' := RH.hob m.1 hA hW hw hm h h2
  obtain ⟨f4, m4, q4, -, -⟩ := RH.st hw hW hA (by decide) m.1
  have hc : (S.I o2 3).toInt = (S4.I (S4.f o1 1) 2).toInt := by rw [f4, q4]; exact m.1.2.2.1
  have k9 := (hW.at m.1.1 List.not_mem_nil).to_9 m.1.1.2.1
  have rr := k9.R3
  obtain ⟨hF, h3, h4⟩ := h2
  rcases ca_hob hc rr hF with ⟨E, n, e1, e2, e3, e4, e5⟩ | ⟨e1, e2, e3, e4⟩
  · rcases h with ⟨v, g, -⟩ | ⟨E2, g, -, -, g4⟩
    · rw [e1] at g; cases g
    · obtain ⟨t, ht⟩ := h3 e5
      rw [ht, g4]; exact RY.sI hA m
  · rcases h with ⟨v, g, -, -, c4, N⟩ | ⟨E2, g, -⟩
    · obtain ⟨r1, r2, r3', r4⟩ := hob_rng e1
      obtain ⟨cI, g, b, ng, nb, gA, bA, pa, pb, qg, qb, qo⟩ := RH.qadd (PA := fun g => S4.I g 0 = y1 ∧ S4.I g 1 = y2 ∧ S4.I g 3 = y3 ∧ S4.I g 4 = (0 : Int32) ∧ S4.I g 5 = (0 : Int32) ∧ S4.f g 2 ∉ S.L ∧ S4.n (S4.f g 2) = y4.toNatClampNeg ∧ ∀ j : Nat, S4.i (S4.f g 2) j = 0) (PB := fun g => S16.I g 0 = y1 ∧ S16.I g 1 = y2 ∧ S16.I g 4 = y3 ∧ S16.I g 3 = y4 ∧ S16.I g 5 = (0 : Int32) ∧ S16.I g 6 = (0 : Int32) ∧ S16.f g 2 ∉ S4.L ∧ ∀ j : Nat, S16.i (S16.f g 2) j = 0) m.1 hA hW hw hm (by decide) (by decide) c4 N (h4 e4)
      obtain ⟨a0, a1, a3, a4, a5, a6, a7, a8⟩ := pa
      obtain ⟨b0, b1, b4, b3, b5, b6, b7, b8⟩ := pb
      obtain ⟨m1, my, md⟩ := m
      have kg := (hw.1.at gA List.not_mem_nil).to_3 gA.2.1
      have kb := (hm.1.at bA List.not_mem_nil).to_11 bA.2.1
      have eg := hm.x.F gA (Or.inl (by decide)) kg.F2.1
      have fg : S16.f g 2 = S4.f g 2 := f_of eg
      have wA := kg.F2.2.1
      have Ig := (hm.fR g gA.1 List.not_mem_nil).1
      rw [gA.2.1] at Ig
      have ig : S16.i (S4.f g 2) = S4.i (S4.f g 2) := (hm.fR _ wA.1 List.not_mem_nil).2.1 (by rw [wA.2.1]; decide)
      have ng16 : S16.n (S4.f g 2) = y4.toNatClampNeg := (hm.x.n wA).trans a7
      have cy4 := cl_int (i := y4) (by omega)
      have z0 : (0 : Int32).toInt = 0 := rfl
      have hyN : HY S16 g b := by
        unfold HY
        rw [fg, ng16, ig, (Ig 0 (by decide)).1, (Ig 1 (by decide)).1, (Ig 3 (by decide)).1, (Ig 4 (by decide)).1, (Ig 5 (by decide)).1, a0, a1, a3, a4, a5, z0, b3]
        exact ⟨⟨r1, r2, r3', by omega, by omega⟩, ⟨eg, hm.x.A wA, by omega⟩, ⟨kb.F2.1, kb.F2.2.1⟩, cy4, fun j hj => by rw [a8, b8]⟩
      have ck := cl_int (i := S.I o2 3) rr.1
      have old : ∀ i : Nat, (i : Int) < (S.I o2 3).toInt → HY S16 (S.q (S.f o2 2) i) (S.q (S.f (S.f o1 1) 1) i) ∧ S16.f (S.q (S.f o2 2) i) 2 = S.f (S.q (S.f o2 2) i) 2 ∧ S16.f (S.q (S.f (S.f o1 1) 1) i) 2 = S.f (S.q (S.f (S.f o1 1) 1) i) 2 := fun i hi => by
        obtain ⟨ga, gb, -⟩ := m1.2.2.2.1 i hi
        have y1' := (my i hi).fr hw ga gb (by decide) (by decide) (by decide) (by decide) (by decide) (by decide) (by decide) (by decide)
        have y2' := y1'.fr hm (hw.x.A ga) (hw.x.A gb) (by decide) (by decide) (by decide) (by decide) (by decide) (by decide) (by decide) (by decide)
        exact ⟨y2', f_of (hm.x.F (hw.x.A ga) (Or.inl (by decide)) (hw.x.F ga (Or.inl (by decide)) (my i hi).2.1.1)), f_of (hm.x.F (hw.x.A gb) (Or.inl (by decide)) (hw.x.F gb (Or.inl (by decide)) (my i hi).2.2.1.1))⟩
      refine ⟨RH', fun i hi => ?_, fun i j hi hj hn => ?_⟩
      · rw [cI, c4] at hi
        by_cases hik : i = (S.I o2 3).toNatClampNeg
        · rw [hik, qg, qb]; exact hyN
        · have hi' : (i : Int) < (S.I o2 3).toInt := by omega
          rw [(qo i hi').1, (qo i hi').2]
          exact (old i hi').1
      · rw [cI, c4] at hi hj
        have nA : ∀ i : Nat, (i : Int) < (S.I o2 3).toInt → ¬ S16.f (S.q (S.f o2 2) i) 2 = S16.f g 2 ∧ ¬ S16.f (S.q (S.f (S.f o1 1) 1) i) 2 = S16.f b 2 := fun i hi => by
          obtain ⟨-, q1, q2⟩ := old i hi
          rw [q1, q2, fg]
          exact ⟨fun e => a6 (by rw [← e]; exact (my i hi).2.1.2.1.1), fun e => b7 (by rw [← e]; exact (hw.x.A (my i hi).2.2.1.2).1)⟩
        by_cases hik : i = (S.I o2 3).toNatClampNeg
        · have hj' : (j : Int) < (S.I o2 3).toInt := by omega
          rw [hik, qg, qb, (qo j hj').1, (qo j hj').2]
          exact ⟨fun e => (nA j hj').1 e.symm, fun e => (nA j hj').2 e.symm⟩
        · have hi' : (i : Int) < (S.I o2 3).toInt := by omega
          rw [(qo i hi').1, (qo i hi').2]
          by_cases hjk : j = (S.I o2 3).toNatClampNeg
          · rw [hjk, qg, qb]
            exact nA i hi'
          · have hj' : (j : Int) < (S.I o2 3).toInt := by omega
            rw [(qo j hj').1, (qo j hj').2, (old i hi').2.1, (old i hi').2.2, (old j hj').2.1, (old j hj').2.2]
            exact md i j hi' hj' hn
    · rw [e1] at g; cases g
theorem gear_rng {S : wPS} {o2 : Nat} {y1 y2 y3 y4 v : Int32} (h : f_X9_gear S o2 y1 y2 y3 y4 = .ok v) : 6 ≤ y1.toInt ∧ y1.toInt ≤ 200 := by
  unfold f_X9_gear at h
  by_cases c1 : 6 ≤ y1.toInt ∧ y1.toInt ≤ 200
  · exact c1
  · rw [eB_er (nt_er c1)] at h; cases h
theorem RC.gear {S S4 S16 : wPS} {o1 o2 : Nat} {y1 y2 y3 y4 r3 r12 : Int32} {fo f5 : Nat → Int64} (m : RC o2 S o1) (hA : isA S o1 12) (hW : wtB S []) (hw : stp [(9, 1), (19, 101)] [] [] S S4) (hm : stp [(12, 15), (14, 0), (14, 1), (14, 2), (22, 101), (110, 10), (114, 10), (122, 10)] [] [] S4 S16) (h : (∃ v, f_X9_gear S o2 y1 y2 y3 y4 = .ok v ∧ r3 = 0 ∧ f5 = vp_updL fo (0 : Int32).toNatClampNeg (v.toInt64) ∧ (S4.I o2 1).toInt = (S.I o2 1).toInt + 1 ∧ (∃ g : Nat, g ∉ S.L ∧ isA S4 g 2 ∧ S4.r (S.f o2 0) (S.I o2 1).toNatClampNeg = some g ∧ (∀ i : Nat, i ≠ (S.I o2 1).toNatClampNeg → S4.r (S.f o2 0) i = S.r (S.f o2 0) i) ∧ S4.I g 0 = S.I o2 1 ∧ S4.I g 1 = y1 ∧ S4.I g 2 = y2 ∧ S4.I g 3 = y3 ∧ S4.I g 4 = y4 ∧ S4.I g 7 = (0 : Int32) ∧ S4.I g 8 = (-1 : Int32) ∧ S4.I g 9 = (0 : Int32) ∧ S4.I g 10 = (0 : Int32) ∧ S4.I g 11 = (0 : Int32) ∧ S4.f g 5 ∉ S.L ∧ S4.f (S4.f g 5) 0 ∉ S.L ∧ S4.n (S4.f (S4.f g 5) 0) = y1.toNatClampNeg ∧ (∀ i : Nat, S4.i (S4.f (S4.f g 5) 0) i = 0) ∧ S4.f (S4.f g 5) 1 ∉ S.L ∧ (∀ i : Nat, S4.i (S4.f (S4.f g 5) 1) i = 0) ∧ S4.I (S4.f g 5) 2 = (0 : Int32))) ∨ (∃ E, f_X9_gear S o2 y1 y2 y3 y4 = .error E ∧ r3 = wc_gear E ∧ f5 = fo ∧ S4 = S)) (h2 : ((((f_X12_in y1.toInt64 (6 : Int64) (200 : Int64)).toInt = 0 ∨ (f_X12_in y2.toInt64 (500 : Int64) (10000 : Int64)).toInt = 0 ∨ (f_X12_in y3.toInt64 (-500 : Int64) (500 : Int64)).toInt = 0 ∨ (f_X12_in y4.toInt64 (1000 : Int64) (99999 : Int64)).toInt = 0) ∧ r12.toInt = 0 ∧ (S16.I o1 15).toInt = 1 ∧ (S16.I (S4.f o1 0) 2).toInt = (S4.I (S4.f o1 0) 2).toInt) ∨ ((¬ (f_X12_in y1.toInt64 (6 : Int64) (200 : Int64)).toInt = 0 ∧ ¬ (f_X12_in y2.toInt64 (500 : Int64) (10000 : Int64)).toInt = 0 ∧ ¬ (f_X12_in y3.toInt64 (-500 : Int64) (500 : Int64)).toInt = 0 ∧ ¬ (f_X12_in y4.toInt64 (1000 : Int64) (99999 : Int64)).toInt = 0) ∧ (S4.I (S4.f o1 0) 2).toInt = 20 ∧ r12.toInt = 0 ∧ (S16.I o1 15).toInt = 2 ∧ (S16.I (S4.f o1 0) 2).toInt = (S4.I (S4.f o1 0) 2).toInt) ∨ ((¬ (f_X12_in y1.toInt64 (6 : Int64) (200 : Int64)).toInt = 0 ∧ ¬ (f_X12_in y2.toInt64 (500 : Int64) (10000 : Int64)).toInt = 0 ∧ ¬ (f_X12_in y3.toInt64 (-500 : Int64) (500 : Int64)).toInt = 0 ∧ ¬ (f_X12_in y4.toInt64 (1000 : Int64) (99999 : Int64)).toInt = 0) ∧ ¬ (S4.I (S4.f o1 0) 2).toInt = 20 ∧ r12.toInt = (S4.I (S4.f o1 0) 2).toInt ∧ (S16.I o1 15).toInt = 0 ∧ (S16.I (S4.f o1 0) 2).toInt = (S4.I (S4.f o1 0) 2).toInt + 1)) ∧ ((S16.I (S4.f o1 0) 2).toInt = (S4.I (S4.f o1 0) 2).toInt → ∃ t : Int32, S16 = S4.sI o1 15 t) ∧ ((S16.I (S4.f o1 0) 2).toInt = (S4.I (S4.f o1 0) 2).toInt + 1 → ∃ g a : Nat, g ∉ S4.L ∧ isA S16 g 10 ∧ S16.F (S4.f o1 0) 1 = some a ∧ isA S16 a 22 ∧ S16.r a (S4.I (S4.f o1 0) 2).toNatClampNeg = some g ∧ (∀ i : Nat, (i : Int) < (S4.I (S4.f o1 0) 2).toInt → S16.r a i = S4.r (S4.f (S4.f o1 0) 1) i) ∧ S16.I g 1 = y1 ∧ S16.I g 2 = y2 ∧ S16.I g 3 = y3 ∧ S16.I g 4 = y4 ∧ S16.I g 7 = (0 : Int32) ∧ S16.I g 8 = (-1 : Int32) ∧ S16.I g 10 = (0 : Int32) ∧ S16.I g 11 = (0 : Int32) ∧ S16.I g 18 = (0 : Int32) ∧ S16.f g 5 ∉ S4.L ∧ ∀ j : Nat, S16.i (S16.f g 5) j = 0)) : RC o2 S16 o1 := by
  have RK' := RK.gear m.1 hA hW hw hm h h2
  obtain ⟨f4, m4, q4, -, -⟩ := RK.st hw hW hA (by decide) m.1
  have hc : (S.I o2 1).toInt = (S4.I (S4.f o1 0) 2).toInt := by rw [f4, q4]; exact m.1.2.2.1
  have k9 := (hW.at m.1.1 List.not_mem_nil).to_9 m.1.1.2.1
  have rr := k9.R1
  have z0 : (0 : Int32).toInt = 0 := rfl
  obtain ⟨hF, h3, h4⟩ := h2
  rcases ca_gear hc rr hF with ⟨E, n, e1, e2, e3, e4, e5⟩ | ⟨e1, e2, e3, e4⟩
  · rcases h with ⟨v, g, -⟩ | ⟨E2, g, -, -, g4⟩
    · rw [e1] at g; cases g
    · obtain ⟨t, ht⟩ := h3 e5
      rw [ht, g4]; exact RC.sI hA m
  · have ry := gear_rng e1
    rcases h with ⟨v, g, -, -, c4, N⟩ | ⟨E2, g, -⟩
    · obtain ⟨cI, g, b, ng, nb, gA, bA, pa, pb, qg, qb, qo⟩ := RK.qadd (PA := fun g => S4.I g 0 = S.I o2 1 ∧ S4.I g 1 = y1 ∧ S4.I g 2 = y2 ∧ S4.I g 3 = y3 ∧ S4.I g 4 = y4 ∧ S4.I g 7 = (0 : Int32) ∧ S4.I g 8 = (-1 : Int32) ∧ S4.I g 9 = (0 : Int32) ∧ S4.I g 10 = (0 : Int32) ∧ S4.I g 11 = (0 : Int32) ∧ S4.f g 5 ∉ S.L ∧ S4.f (S4.f g 5) 0 ∉ S.L ∧ S4.n (S4.f (S4.f g 5) 0) = y1.toNatClampNeg ∧ (∀ i : Nat, S4.i (S4.f (S4.f g 5) 0) i = 0) ∧ S4.f (S4.f g 5) 1 ∉ S.L ∧ (∀ i : Nat, S4.i (S4.f (S4.f g 5) 1) i = 0) ∧ S4.I (S4.f g 5) 2 = (0 : Int32)) (PB := fun g => S16.I g 1 = y1 ∧ S16.I g 2 = y2 ∧ S16.I g 3 = y3 ∧ S16.I g 4 = y4 ∧ S16.I g 7 = (0 : Int32) ∧ S16.I g 8 = (-1 : Int32) ∧ S16.I g 10 = (0 : Int32) ∧ S16.I g 11 = (0 : Int32) ∧ S16.I g 18 = (0 : Int32) ∧ S16.f g 5 ∉ S4.L ∧ ∀ j : Nat, S16.i (S16.f g 5) j = 0) m.1 hA hW hw hm (by decide) (by decide) c4 N (h4 e4)
      obtain ⟨a0, a1, a2, a3, a4, a7, a8, a9, a10, a11, nc, n0, nn, z0', n1, z1, sp⟩ := pa
      obtain ⟨-, -, -, -, -, -, -, -, -, nb5, zb⟩ := pb
      obtain ⟨m1, my, md⟩ := m
      have kg := (hw.1.at gA List.not_mem_nil).to_2 gA.2.1
      have cA := kg.F5.2
      have kc := (hw.1.at cA List.not_mem_nil).to_1 cA.2.1
      have kb := (hm.1.at bA List.not_mem_nil).to_10 bA.2.1
      have x5 := hm.x.F gA (Or.inl (by decide)) kg.F5.1
      have x0 := hm.x.F cA (Or.inl (by decide)) kc.F0.1
      have x1 := hm.x.F cA (Or.inl (by decide)) kc.F1.1
      have f5' : S16.f g 5 = S4.f g 5 := f_of x5
      have f0' : S16.f (S4.f g 5) 0 = S4.f (S4.f g 5) 0 := f_of x0
      have f1' : S16.f (S4.f g 5) 1 = S4.f (S4.f g 5) 1 := f_of x1
      have a0A := kc.F0.2.1
      have a1A := kc.F1.2.1
      have i0 : S16.i (S4.f (S4.f g 5) 0) = S4.i (S4.f (S4.f g 5) 0) := (hm.fR _ a0A.1 List.not_mem_nil).2.1 (by rw [a0A.2.1]; decide)
      have i1 : S16.i (S4.f (S4.f g 5) 1) = S4.i (S4.f (S4.f g 5) 1) := (hm.fR _ a1A.1 List.not_mem_nil).2.1 (by rw [a1A.2.1]; decide)
      have nn16 : S16.n (S4.f (S4.f g 5) 0) = y1.toNatClampNeg := (hm.x.n a0A).trans nn
      have Ig1 : S16.I g 1 = S4.I g 1 := ((hm.fR g gA.1 List.not_mem_nil).1 1 (by rw [gA.2.1]; decide)).1
      have Ic2 : S16.I (S4.f g 5) 2 = S4.I (S4.f g 5) 2 := ((hm.fR _ cA.1 List.not_mem_nil).1 2 (by rw [cA.2.1]; decide)).1
      have cy1 := cl_int (i := y1) (by omega)
      have yN : CY S16 g b := by
        unfold CY
        rw [f5', f0', f1', nn16, Ig1, Ic2, i0, i1, a1, sp]
        refine ⟨⟨x5, hm.x.A cA⟩, ⟨x0, hm.x.A a0A⟩, ⟨x1, hm.x.A a1A⟩, ⟨kb.F5.1, kb.F5.2.1⟩, ⟨cy1, ry⟩, ?_, fun k => by rw [zb, z0]; decide, ?_, fun k _ => ?_⟩
        · funext k; rw [z0', zb]
        · rw [c_zFF zb]; rfl
        · rw [z1, c_zQQ zb]; rfl
      have ck := cl_int (i := S.I o2 1) rr.1
      have old : ∀ i : Nat, (i : Int) < (S.I o2 1).toInt → CY S16 (S.q (S.f o2 0) i) (S.q (S.f (S.f o1 0) 1) i) ∧ S16.f (S.q (S.f o2 0) i) 5 = S.f (S.q (S.f o2 0) i) 5 ∧ S16.f (S.f (S.q (S.f o2 0) i) 5) 0 = S.f (S.f (S.q (S.f o2 0) i) 5) 0 ∧ S16.f (S.f (S.q (S.f o2 0) i) 5) 1 = S.f (S.f (S.q (S.f o2 0) i) 5) 1 ∧ S16.f (S.q (S.f (S.f o1 0) 1) i) 5 = S.f (S.q (S.f (S.f o1 0) 1) i) 5 := fun i hi => by
        obtain ⟨ga, gb, -⟩ := m1.2.2.2.1 i hi
        have y := my i hi
        have y1' := y.fr hw ga gb (by decide)
        have y2' := y1'.fr hm (hw.x.A ga) (hw.x.A gb) (by decide)
        have tx := hw.x.tr hm.x
        exact ⟨y2', f_of (tx.F ga (Or.inl (by decide)) y.1.1), f_of (tx.F y.1.2 (Or.inl (by decide)) y.2.1.1), f_of (tx.F y.1.2 (Or.inl (by decide)) y.2.2.1.1), f_of (tx.F gb (Or.inl (by decide)) y.2.2.2.1.1)⟩
      have new : ∀ i : Nat, (i : Int) < (S.I o2 1).toInt → ¬ S4.f g 5 = S.f (S.q (S.f o2 0) i) 5 ∧ ¬ S4.f (S4.f g 5) 0 = S.f (S.f (S.q (S.f o2 0) i) 5) 0 ∧ ¬ S4.f (S4.f g 5) 1 = S.f (S.f (S.q (S.f o2 0) i) 5) 1 ∧ ¬ S16.f b 5 = S.f (S.q (S.f (S.f o1 0) 1) i) 5 := fun i hi => by
        have y := my i hi
        exact ⟨fun q => nc (by rw [q]; exact y.1.2.1), fun q => n0 (by rw [q]; exact y.2.1.2.1), fun q => n1 (by rw [q]; exact y.2.2.1.2.1), fun q => nb5 (by rw [q]; exact (hw.x.A y.2.2.2.1.2).1)⟩
      refine ⟨RK', fun i hi => ?_, fun i j hi hj hn => ?_⟩
      · rw [cI, c4] at hi
        by_cases hik : i = (S.I o2 1).toNatClampNeg
        · rw [hik, qg, qb]; exact yN
        · have hi' : (i : Int) < (S.I o2 1).toInt := by omega
          rw [(qo i hi').1, (qo i hi').2]
          exact (old i hi').1
      · rw [cI, c4] at hi hj
        by_cases hik : i = (S.I o2 1).toNatClampNeg
        · have hj' : (j : Int) < (S.I o2 1).toInt := by omega
          obtain ⟨-, b1, b2, b3, b4⟩ := old j hj'
          rw [hik, qg, qb, (qo j hj').1, (qo j hj').2, f5', f0', f1', b1, b2, b3, b4]
          exact new j hj'
        · have hi' : (i : Int) < (S.I o2 1).toInt := by omega
          obtain ⟨-, d1, d2, d3, d4⟩ := old i hi'
          by_cases hjk : j = (S.I o2 1).toNatClampNeg
          · rw [hjk, qg, qb, (qo i hi').1, (qo i hi').2, f5', f0', f1', d1, d2, d3, d4]
            obtain ⟨r1, r2, r3', r4⟩ := new i hi'
            exact ⟨fun q => r1 q.symm, fun q => r2 q.symm, fun q => r3' q.symm, fun q => r4 q.symm⟩
          · have hj' : (j : Int) < (S.I o2 1).toInt := by omega
            obtain ⟨-, b1, b2, b3, b4⟩ := old j hj'
            rw [(qo i hi').1, (qo i hi').2, (qo j hj').1, (qo j hj').2, d1, d2, d3, d4, b1, b2, b3, b4]
            exact md i j hi' hj' hn
    · rw [e1] at g; cases g
/-! what both loops reckon -/
theorem nI_s {k : Nat} (h : k < 1000000) : nI k + (1 : Int32) = nI (k + 1) := by
  have e1 : (nI k).toInt = (k : Int) := nI_toInt (by omega)
  have e2 : (nI (k + 1)).toInt = ((k + 1 : Nat) : Int) := nI_toInt (by omega)
  exact Int32.toInt_inj.mp (by rw [t_addr (n := 1) rfl (by omega), e1, e2]; omega)
theorem nI_cN {k : Nat} (h : k < 1000000) : (nI k).toNatClampNeg = k := by
  have e1 : (nI k).toInt = (k : Int) := nI_toInt (by omega)
  have := cl_int (i := nI k) (by omega)
  omega
theorem c_max {w X : Int32} {a b : Int} (h1 : w.toInt = a) (h2 : X.toInt = b) : (if w < X then X else w).toInt = if a < b then b else a := by
  by_cases c : w < X
  · rw [if_pos c, if_pos (by rw [← h1, ← h2]; exact Int32.lt_iff_toInt_lt.mp c)]; exact h2
  · rw [if_neg c, if_neg (fun q => c (Int32.lt_iff_toInt_lt.mpr (by rw [h1, h2]; exact q)))]; exact h1
theorem c_min {w X : Int32} {a b : Int} (h1 : w.toInt = a) (h2 : X.toInt = b) : (if X < w then X else w).toInt = if b < a then b else a := by
  by_cases c : X < w
  · rw [if_pos c, if_pos (by rw [← h1, ← h2]; exact Int32.lt_iff_toInt_lt.mp c)]; exact h2
  · rw [if_neg c, if_neg (fun q => c (Int32.lt_iff_toInt_lt.mpr (by rw [h1, h2]; exact q)))]; exact h1
theorem c_max64 {w X : Int64} {a b : Int} (h1 : w.toInt = a) (h2 : X.toInt = b) : (if X < w then w else X).toInt = if a < b then b else a := by
  by_cases c : X < w
  · have c' := Int64.lt_iff_toInt_lt.mp c
    rw [if_pos c, if_neg (by omega)]; exact h1
  · have c' : ¬ X.toInt < w.toInt := fun q => c (Int64.lt_iff_toInt_lt.mpr q)
    rw [if_neg c]
    split <;> omega
theorem c_min64 {w X : Int64} {a b : Int} (h1 : w.toInt = a) (h2 : X.toInt = b) : (if X < w then X else w).toInt = if b < a then b else a := by
  by_cases c : X < w
  · have c' := Int64.lt_iff_toInt_lt.mp c
    rw [if_pos c, if_pos (by omega)]; exact h2
  · have c' : ¬ X.toInt < w.toInt := fun q => c (Int64.lt_iff_toInt_lt.mpr q)
    rw [if_neg c, if_neg (by omega)]; exact h1
theorem td_b {a b B : Int} (hb : 0 < b) (h : -B ≤ a ∧ a ≤ B) : -B ≤ a.tdiv b ∧ a.tdiv b ≤ B := by
  rcases Int.le_total 0 a with c | c
  · rw [Int.tdiv_eq_ediv_of_nonneg c]
    have h1 : 0 ≤ a / b := Int.ediv_nonneg c (Int.le_of_lt hb)
    have h2 : a / b ≤ a := Int.ediv_le_self b c
    omega
  · have e : a.tdiv b = -((-a).tdiv b) := by rw [Int.neg_tdiv]; omega
    rw [e, Int.tdiv_eq_ediv_of_nonneg (by omega)]
    have h1 : 0 ≤ (-a) / b := Int.ediv_nonneg (by omega) (Int.le_of_lt hb)
    have h2 : (-a) / b ≤ -a := Int.ediv_le_self b (by omega)
    omega
theorem t_tdiv {x y : Int32} (hy : 0 < y.toInt) (h : -1000000000 ≤ x.toInt ∧ x.toInt ≤ 1000000000) : (x / y).toInt = x.toInt.tdiv y.toInt := by
  have h1 := td_b hy h
  rw [Int32.toInt_div]
  exact Int.bmod_eq_of_le (by omega) (by omega)
theorem t64_tdiv {x y : Int64} (hy : 0 < y.toInt) (h : -1000000000 ≤ x.toInt ∧ x.toInt ≤ 1000000000) : (x / y).toInt = x.toInt.tdiv y.toInt := by
  have h1 := td_b hy h
  rw [Int64.toInt_div]
  exact Int.bmod_eq_of_le (by omega) (by omega)
theorem c_l2i {x : Int64} (h : -1000000000 ≤ x.toInt ∧ x.toInt ≤ 1000000000) : x.toInt32.toInt = x.toInt := by
  rw [Int64.toInt_toInt32]
  exact Int.bmod_eq_of_le (by omega) (by omega)
theorem soc_loop {S : wPS} {c N : Nat} (hN : S.n (S.f c 0) = N) (h200 : N ≤ 200) (hb : cBD (S.i (S.f c 0))) : ∀ (n k : Nat) (w : Int32), k ≤ N → N - k < n → w.toInt = cPS (S.i (S.f c 0)) k → (f_X1_sumOfClass_L5 S c (0 : Int32) (1 : Int32) n w (nI k)).1.toInt = cPS (S.i (S.f c 0)) N := by
  intro n
  induction n with
  | zero => intro k w _ h; omega
  | succ n ih =>
    intro k w hk hn hw
    have eN : (nI N).toInt = (N : Int) := nI_toInt (by omega)
    have ek : (nI k).toInt = (k : Int) := nI_toInt (by omega)
    rw [f_X1_sumOfClass_L5_s, if_neg (by decide), hN]
    by_cases c9 : k = N
    · rw [if_pos (Int32.le_iff_toInt_le.mpr (by omega)), ← c9]; exact hw
    · rw [if_neg (fun q => by have := Int32.le_iff_toInt_le.mp q; omega), nI_s (by omega), nI_cN (by omega)]
      have b1 := hb k
      have b2 := cPS_B hb (k := k) (by omega)
      refine ih (k + 1) _ (by omega) (by omega) ?_
      rw [t_add (by omega), hw]; rfl
theorem soc_all {S : wPS} {c N : Nat} (hN : S.n (S.f c 0) = N) (h200 : N ≤ 200) (hb : cBD (S.i (S.f c 0))) : (f_X1_sumOfClass S c (0 : Int32) (1 : Int32)).toInt = cPS (S.i (S.f c 0)) N := soc_loop hN h200 hb 100001 0 0 (by omega) (by omega) rfl
theorem ga_cases {S : wPS} {o2 o : Nat} (y : Int32) (m : RG o2 S o) (hW : wtB S []) (hA : isA S o 12) : (∃ (i a b : Nat), y = nI i ∧ (i : Int) < (S.I o2 1).toInt ∧ f_X9_gearAt S o2 y = .ok a ∧ ¬ f_X12_isGear S o y = 0 ∧ f_X12_gearAt S o y = b ∧ S.q (S.f o2 0) i = a ∧ S.q (S.f (S.f o 0) 1) i = b ∧ GRG S i a b) ∨ (f_X9_gearAt S o2 y = .error "java/lang/IndexOutOfBoundsException" ∧ f_X12_isGear S o y = 0) := by
  obtain ⟨hA2, ⟨e0, l0, n0⟩, mc, mg, -⟩ := m
  have R1 := ((hW.at hA2 List.not_mem_nil).to_9 hA2.2.1).R1
  have z0 : (0 : Int32).toInt = 0 := rfl
  have b0 : (0 : Int64).toInt = 0 := rfl
  have e6 : (S.I (S.f o 0) 2 - (1 : Int32)).toInt = (S.I (S.f o 0) 2).toInt - 1 := t_subr (n := 1) rfl (by omega)
  have hin : f_X12_isGear S o y = f_X12_in y.toInt64 0 ((S.I (S.f o 0) 2 - (1 : Int32)).toInt64) := rfl
  by_cases c : 0 ≤ y.toInt ∧ y.toInt < (S.I o2 1).toInt
  · have hc := cl_int (i := y) c.1
    refine Or.inl ⟨y.toNatClampNeg, S.q (S.f o2 0) y.toNatClampNeg, S.q (S.f (S.f o 0) 1) y.toNatClampNeg, nI_cl c.1, by omega, ?_, ?_, rfl, rfl, rfl, mg _ (by omega)⟩
    · unfold f_X9_gearAt
      rw [if_neg (fun q => by have := Int32.lt_iff_toInt_lt.mp q; omega), if_pos (Int32.lt_iff_toInt_lt.mpr c.2)]
    · rw [hin, in_ok (by rw [i64_i, i64_i, b0, e6]; omega)]; decide
  · refine Or.inr ⟨?_, ?_⟩
    · unfold f_X9_gearAt
      split
      · rfl
      · rename_i h1
        rw [if_neg (fun q => by have h2 := Int32.lt_iff_toInt_lt.mp q; have h3 : ¬ y.toInt < (0 : Int32).toInt := fun q => h1 (Int32.lt_iff_toInt_lt.mpr q); omega)]
    · rw [hin, in_no (by rw [i64_i, i64_i, b0, e6]; omega)]
theorem nI_inj {i j : Nat} {n : Int} (hi : (i : Int) < n) (hj : (j : Int) < n) (hn : n ≤ 100) (e : nI i = nI j) : i = j := by
  have h1 : (nI i).toInt = (i : Int) := nI_toInt (by omega)
  have h2 : (nI j).toInt = (j : Int) := nI_toInt (by omega)
  rw [e] at h1
  omega
theorem neg_add0 {x y : Int32} : x = -y ↔ x + y = 0 := by
  refine ⟨fun h => by rw [h]; exact Int32.add_left_neg y, fun h => ?_⟩
  have h1 : x + y + -y = 0 + -y := by rw [h]
  rw [Int32.add_assoc, Int32.add_right_neg, Int32.add_zero, Int32.zero_add] at h1
  exact h1
theorem np_cases {S : wPS} {a a' : Nat} : (f_X9_needPair S a a' = .ok () ∧ ¬ a = a' ∧ S.I a 2 = S.I a' 2 ∧ S.I a 3 = -(S.I a' 3)) ∨ (f_X9_needPair S a a' = .error "java/lang/UnsupportedOperationException" ∧ ¬ (¬ a = a' ∧ S.I a 2 = S.I a' 2 ∧ S.I a 3 = -(S.I a' 3))) := by
  have o1 : f_X9_allowOnly (1 : Int32) = .ok () := rfl
  have o0 : f_X9_allowOnly (0 : Int32) = .error "java/lang/UnsupportedOperationException" := rfl
  unfold f_X9_needPair f_X2_pairsWith
  by_cases e : a = a'
  · exact Or.inr ⟨by rw [if_pos (by rw [e])]; exact eB_er o0, fun q => q.1 e⟩
  · rw [if_neg (fun q => e (Option.some.inj q))]
    by_cases q1 : S.I a 2 = S.I a' 2
    · by_cases q2 : S.I a 3 = -(S.I a' 3)
      · exact Or.inl ⟨by rw [if_pos q1, if_pos q2, if_neg (by decide), eB_ok o1], e, q1, q2⟩
      · exact Or.inr ⟨by rw [if_pos q1, if_neg q2, if_pos rfl]; exact eB_er o0, fun q => q2 q.2.2⟩
    · exact Or.inr ⟨by rw [if_neg q1, if_pos rfl]; exact eB_er o0, fun q => q1 q.2.1⟩
theorem th15 {S : wPS} {o : Nat} {t : Int32} (ht : ¬ t = 0) : l1 (S.sI o 15 t) (fun U => if (U.I o 15) = (0 : Int32) then ((1 : Int32), U) else ((0 : Int32), U)) = ((0 : Int32), S.sI o 15 t) := by
  show (if (S.sI o 15 t).I o 15 = (0 : Int32) then ((1 : Int32), S.sI o 15 t) else ((0 : Int32), S.sI o 15 t)) = _
  rw [sI_eq, if_neg ht]
theorem th15z {S : wPS} {o : Nat} : l1 (S.sI o 15 (0 : Int32)) (fun U => if (U.I o 15) = (0 : Int32) then ((1 : Int32), U) else ((0 : Int32), U)) = ((1 : Int32), S.sI o 15 0) := by
  show (if (S.sI o 15 0).I o 15 = (0 : Int32) then ((1 : Int32), S.sI o 15 0) else ((0 : Int32), S.sI o 15 0)) = _
  rw [sI_eq, if_pos rfl]
theorem pr_cases {S : wPS} {o2 o : Nat} (y1 y2 : Int32) (m : RG o2 S o) (hW : wtB S []) (hA : isA S o 12) :
    (∃ (i a b i' a' b' : Nat), y1 = nI i ∧ y2 = nI i' ∧ f_X9_gearAt S o2 y1 = .ok a ∧ f_X9_gearAt S o2 y2 = .ok a' ∧ f_X12_gearAt S o y1 = b ∧ f_X12_gearAt S o y2 = b' ∧ GRG S i a b ∧ GRG S i' a' b' ∧ ¬ f_X12_isGear S o y1 = 0 ∧ ¬ f_X12_isGear S o y2 = 0 ∧
      ((f_X9_needPair S a a' = .ok () ∧ ¬ f_X12_isPair S o y1 y2 = 0 ∧ f_X12_isAsked S o y1 y2 = (1, S.sI o 15 0)) ∨ (f_X9_needPair S a a' = .error "java/lang/UnsupportedOperationException" ∧ f_X12_isPair S o y1 y2 = 0 ∧ f_X12_isAsked S o y1 y2 = (0, S.sI o 15 2)))) ∨
    ((∀ (α : Type) (k : Nat → Nat → Except String α), eB (f_X9_gearAt S o2 y1) (fun a => eB (f_X9_gearAt S o2 y2) (fun a' => k a a')) = .error "java/lang/IndexOutOfBoundsException") ∧ (f_X12_isGear S o y1 = 0 ∨ (¬ f_X12_isGear S o y1 = 0 ∧ f_X12_isGear S o y2 = 0)) ∧ f_X12_isAsked S o y1 y2 = (0, S.sI o 15 1)) := by
  rcases ga_cases y1 m hW hA with ⟨i, a, b, hy, hi, c1, c2, c3, ea, eb, g⟩ | ⟨c1, c2⟩
  · rcases ga_cases y2 m hW hA with ⟨i', a', b', hy', hi', c1', c2', c3', ea', eb', g'⟩ | ⟨c1', c2'⟩
    · have gg := g
      have gg' := g'
      obtain ⟨ga, gb, g0, p1, p2, p3, p4, p7, p8, p9, p10, p11⟩ := gg
      obtain ⟨ga', gb', g0', p1', p2', p3', p4', p7', p8', p9', p10', p11'⟩ := gg'
      have ip : f_X12_isPair S o y1 y2 = if y1 = y2 then (0 : Int32) else if S.I b 2 = S.I b' 2 then if S.I b 3 + S.I b' 3 = 0 then (1 : Int32) else 0 else 0 := by
        unfold f_X12_isPair; rw [c3, c3']; rfl
      have ne : a = a' ↔ y1 = y2 := ⟨fun q => by rw [hy, hy', ← g0, ← g0', q], fun q => by rw [q] at c1; rw [c1] at c1'; exact Except.ok.inj c1'⟩
      refine Or.inl ⟨i, a, b, i', a', b', hy, hy', c1, c1', c3, c3', g, g', c2, c2', ?_⟩
      rcases np_cases (S := S) (a := a) (a' := a') with ⟨n1, n2, n3, n4⟩ | ⟨n1, n2⟩
      · have e : ¬ f_X12_isPair S o y1 y2 = 0 := by
          rw [ip, if_neg (fun q => n2 (ne.mpr q)), if_pos (by rw [← p2, ← p2']; exact n3), if_pos (by rw [← p3, ← p3']; exact neg_add0.mp n4)]; decide
        refine Or.inl ⟨n1, e, ?_⟩
        unfold f_X12_isAsked
        rw [if_neg c2, if_neg c2', if_neg e]; exact th15z
      · have e : f_X12_isPair S o y1 y2 = 0 := by
          rw [ip]
          by_cases q0 : y1 = y2
          · rw [if_pos q0]
          · rw [if_neg q0]
            by_cases q1 : S.I b 2 = S.I b' 2
            · rw [if_pos q1, if_neg (fun q2 => n2 ⟨fun z => q0 (ne.mp z), by rw [p2, p2']; exact q1, by rw [p3, p3']; exact neg_add0.mpr q2⟩)]
            · rw [if_neg q1]
        refine Or.inr ⟨n1, e, ?_⟩
        unfold f_X12_isAsked
        rw [if_neg c2, if_neg c2', if_pos e]; exact th15 (by decide)
    · refine Or.inr ⟨fun α k => by rw [eB_ok c1]; exact eB_er c1', Or.inr ⟨c2, c2'⟩, ?_⟩
      unfold f_X12_isAsked
      rw [if_neg c2, if_pos c2']; exact th15 (by decide)
  · refine Or.inr ⟨fun α k => eB_er c1, Or.inl c2, ?_⟩
    unfold f_X12_isAsked
    rw [if_pos c2]; exact th15 (by decide)
theorem sI15 {S : wPS} {o b k : Nat} {t : Int32} (hA : isA S o 12) (hb : isA S b k) (hk : k ≠ 12) : (S.sI o 15 t).I b = S.I b := sI_no (fun e => hk (by rw [← hb.2.1, e]; exact hA.2.1))
theorem ga15 {S : wPS} {o : Nat} {t y : Int32} : f_X12_gearAt (S.sI o 15 t) o y = f_X12_gearAt S o y := rfl
theorem isg_sI {S : wPS} {o a j : Nat} {v y : Int32} (hL : isA S (S.f o 0) 14) (ha : isA S a 2 ∨ isA S a 10) : f_X12_isGear (S.sI a j v) o y = f_X12_isGear S o y := by
  have e : (S.sI a j v).I (S.f o 0) = S.I (S.f o 0) := sI_no (fun e => by
    have k := hL.2.1
    rcases ha with h | h <;> (rw [e, h.2.1] at k; exact absurd k (by decide)))
  show f_X12_in y.toInt64 0 (((S.sI a j v).I (S.f o 0) 2 - (1 : Int32)).toInt64) = f_X12_in y.toInt64 0 ((S.I (S.f o 0) 2 - (1 : Int32)).toInt64)
  rw [e]
/-! roots: both are the greatest whole number whose square is not more -/
def isR (x r : Int) : Prop := 0 ≤ r ∧ r * r ≤ x ∧ x < (r + 1) * (r + 1)
theorem isR.le {x r s : Int} (h : isR x r) (g : isR x s) : r ≤ s := by
  rcases Int.lt_or_le s r with l | l
  · obtain ⟨h0, h1, h2⟩ := h
    obtain ⟨g0, g1, g2⟩ := g
    have h3 : (s + 1) * (s + 1) ≤ r * r := Int.mul_le_mul (by omega) (by omega) (by omega) h0
    omega
  · exact l
theorem shl_all : ∀ k : Fin 31, ((1 : Int64) <<< ((nI k.val).toInt64 &&& 63)).toInt = 2 ^ k.val := by decide +kernel
theorem two_pow_le {a b : Nat} (h : a ≤ b) : (2 : Int) ^ a ≤ 2 ^ b := by
  have h1 : (2 : Nat) ^ a ≤ 2 ^ b := Nat.pow_le_pow_right (by decide) h
  exact_mod_cast h1
theorem rt9_loop (x : Int64) : ∀ (k n : Nat) (f : Int64) (b : Int32), k ≤ 31 → k < n → b.toInt = (k : Int) - 1 → 0 ≤ f.toInt → f.toInt + 2 ^ k ≤ 2147483648 → f.toInt * f.toInt ≤ x.toInt → x.toInt < (f.toInt + 2 ^ k) * (f.toInt + 2 ^ k) → isR x.toInt (f_X9_root_L6 x n f b).1.toInt := by
  have z0 : (0 : Int32).toInt = 0 := rfl
  intro k
  induction k with
  | zero =>
    intro n f b _ hn hb h0 h1 h2 h3
    obtain ⟨m, rfl⟩ : ∃ m, n = m + 1 := ⟨n - 1, by omega⟩
    rw [f_X9_root_L6_s, if_pos (Int32.lt_iff_toInt_lt.mpr (by omega))]
    have e : (2 : Int) ^ 0 = 1 := rfl
    rw [e] at h3
    exact ⟨h0, h2, h3⟩
  | succ k ih =>
    intro n f b hk hn hb h0 h1 h2 h3
    obtain ⟨m, rfl⟩ : ∃ m, n = m + 1 := ⟨n - 1, by omega⟩
    have hp : (2 : Int) ^ (k + 1) = 2 ^ k * 2 := Int.pow_succ 2 k
    have hpos : (0 : Int) < 2 ^ k := Int.pow_pos (by decide)
    have eb : b = nI k := Int32.toInt_inj.mp (by rw [nI_toInt (by omega), hb]; omega)
    have hsh : ((1 : Int64) <<< (b.toInt64 &&& 63)).toInt = 2 ^ k := by rw [eb]; exact shl_all ⟨k, by omega⟩
    rw [hp] at h1 h3
    obtain ⟨P, hP⟩ : ∃ P : Int, (2 : Int) ^ k = P := ⟨_, rfl⟩
    rw [hP] at h1 h3 hpos hsh
    obtain ⟨s, hs⟩ : ∃ s, (1 : Int64) <<< (b.toInt64 &&& 63) = s := ⟨_, rfl⟩
    obtain ⟨b', hb'⟩ : ∃ z : Int32, b + (-1 : Int32) = z := ⟨_, rfl⟩
    have bm : b'.toInt = (k : Int) - 1 := by rw [← hb', t_addr (n := -1) rfl (by omega), hb]; omega
    rw [f_X9_root_L6_s, if_neg (fun q => by have := Int32.lt_iff_toInt_lt.mp q; omega), hs, hb']
    rw [hs] at hsh
    have e1 : (f + s).toInt = f.toInt + P := by rw [t64_add (by omega), hsh]
    have u1 : (f.toInt + P) * (f.toInt + P) ≤ 2147483648 * 2147483648 := Int.mul_le_mul (by omega) (by omega) (by omega) (by decide)
    have u0 : 0 ≤ (f.toInt + P) * (f.toInt + P) := Int.mul_nonneg (by omega) (by omega)
    have e2 : ((f + s) * (f + s)).toInt = (f.toInt + P) * (f.toInt + P) := by rw [t64_mul (by rw [e1]; omega), e1]
    by_cases c : (0 : Int32) < lg_cmp ((f + s) * (f + s)) x
    · rw [if_pos c]
      have c1 := lc_gt c
      rw [e2] at c1
      exact ih m f b' (by omega) (by omega) bm h0 (by rw [hP]; omega) h2 (by rw [hP]; exact c1)
    · rw [if_neg c]
      have c1 := lc_ngt c
      rw [e2] at c1
      refine ih m (f + s) b' (by omega) (by omega) bm (by omega) (by rw [hP, e1]; omega) (by rw [e1]; exact c1) ?_
      rw [hP, e1]
      have e3 : f.toInt + P + P = f.toInt + P * 2 := by omega
      rw [e3]; exact h3
theorem rt9 {x : Int64} (h : 0 ≤ x.toInt ∧ x.toInt < 4611686018427387904) : isR x.toInt (f_X9_root x).toInt :=
  rt9_loop x 31 64 0 30 (by decide) (by decide) rfl (by decide) (by decide) (by show (0 : Int) * 0 ≤ _; omega) (by
    have e : ((0 : Int64).toInt + 2 ^ 31) * ((0 : Int64).toInt + 2 ^ 31) = 4611686018427387904 := by decide
    rw [e]; exact h.2)
theorem rt9n_loop (x : Int64) (hx : x.toInt < 0) : ∀ (k n : Nat) (b : Int32), k ≤ 31 → k < n → b.toInt = (k : Int) - 1 → (f_X9_root_L6 x n 0 b).1 = 0 := by
  have z0 : (0 : Int32).toInt = 0 := rfl
  intro k
  induction k with
  | zero =>
    intro n b _ hn hb
    obtain ⟨m, rfl⟩ : ∃ m, n = m + 1 := ⟨n - 1, by omega⟩
    rw [f_X9_root_L6_s, if_pos (Int32.lt_iff_toInt_lt.mpr (by omega))]
  | succ k ih =>
    intro n b hk hn hb
    obtain ⟨m, rfl⟩ : ∃ m, n = m + 1 := ⟨n - 1, by omega⟩
    have eb : b = nI k := Int32.toInt_inj.mp (by rw [nI_toInt (by omega), hb]; omega)
    have hsh : ((1 : Int64) <<< (b.toInt64 &&& 63)).toInt = 2 ^ k := by rw [eb]; exact shl_all ⟨k, by omega⟩
    have hle : (2 : Int) ^ k ≤ 2 ^ 30 := two_pow_le (by omega)
    have hpos : (0 : Int) < 2 ^ k := Int.pow_pos (by decide)
    have e30 : (2 : Int) ^ 30 = 1073741824 := by decide
    rw [e30] at hle
    obtain ⟨P, hP⟩ : ∃ P : Int, (2 : Int) ^ k = P := ⟨_, rfl⟩
    rw [hP] at hpos hsh hle
    obtain ⟨s, hs⟩ : ∃ s, (1 : Int64) <<< (b.toInt64 &&& 63) = s := ⟨_, rfl⟩
    obtain ⟨b', hb'⟩ : ∃ z : Int32, b + (-1 : Int32) = z := ⟨_, rfl⟩
    have bm : b'.toInt = (k : Int) - 1 := by rw [← hb', t_addr (n := -1) rfl (by omega), hb]; omega
    rw [f_X9_root_L6_s, if_neg (fun q => by have := Int32.lt_iff_toInt_lt.mp q; omega), hs, hb']
    rw [hs] at hsh
    have e1 : ((0 : Int64) + s).toInt = P := by rw [Int64.zero_add, hsh]
    have u1 : P * P ≤ 1073741824 * 1073741824 := Int.mul_le_mul hle hle (by omega) (by decide)
    have u0 : 0 ≤ P * P := Int.mul_nonneg (by omega) (by omega)
    have e2 : (((0 : Int64) + s) * ((0 : Int64) + s)).toInt = P * P := by rw [t64_mul (by rw [e1]; omega), e1]
    rw [if_pos (by
      by_cases c : (0 : Int32) < lg_cmp (((0 : Int64) + s) * ((0 : Int64) + s)) x
      · exact c
      · have c1 := lc_ngt c
        rw [e2] at c1; omega)]
    exact ih m b' (by omega) (by omega) bm
theorem rt9n {x : Int64} (hx : x.toInt < 0) : f_X9_root x = 0 := rt9n_loop x hx 31 64 30 (by decide) (by decide) rfl
theorem l1_e {α ρ : Type} (a : α) (k : α → ρ) : l1 a k = k a := rfl
theorem rt12_loop (x : Int64) : ∀ (n : Nat) (lo hi : Int64), 0 ≤ lo.toInt → lo.toInt < hi.toInt → hi.toInt ≤ 3037000499 → hi.toInt - lo.toInt ≤ n → lo.toInt * lo.toInt ≤ x.toInt → x.toInt < hi.toInt * hi.toInt → isR x.toInt (f_X12_root_L15 x n lo hi).1.toInt := by
  have o1 : (1 : Int64).toInt = 1 := rfl
  have o2 : (2 : Int64).toInt = 2 := rfl
  intro n
  induction n with
  | zero => intro lo hi h0 h1 h2 h3; omega
  | succ n ih =>
    intro lo hi h0 h1 h2 h3 h4 h5
    have e1 : (hi - lo).toInt = hi.toInt - lo.toInt := t64_sub (by omega)
    rw [f_X12_root_L15_s]
    by_cases c : lg_cmp (hi - lo) (1 : Int64) ≤ (0 : Int32)
    · rw [if_pos c]
      have c1 := lc_le c
      rw [e1, o1] at c1
      have e : hi.toInt = lo.toInt + 1 := by omega
      rw [e] at h5
      exact ⟨h0, h4, h5⟩
    · rw [if_neg c]
      have c1 := lc_nle c
      rw [e1, o1] at c1
      have e2 : (lo + hi).toInt = lo.toInt + hi.toInt := t64_add (by omega)
      have e3 : ((lo + hi) / (2 : Int64)).toInt = (lo.toInt + hi.toInt) / 2 := by rw [t64_divl (n := 2) rfl (by rw [e2]; omega) (by decide), e2]
      obtain ⟨m, hm⟩ : ∃ m, (lo + hi) / (2 : Int64) = m := ⟨_, rfl⟩
      rw [hm] at e3 ⊢
      have m0 : lo.toInt < m.toInt ∧ m.toInt < hi.toInt := by rw [e3]; omega
      have u1 : m.toInt * m.toInt ≤ 3037000499 * 3037000499 := Int.mul_le_mul (by omega) (by omega) (by omega) (by decide)
      have u0 : 0 ≤ m.toInt * m.toInt := Int.mul_nonneg (by omega) (by omega)
      have e4 : (m * m).toInt = m.toInt * m.toInt := t64_mul (by omega)
      by_cases d : (0 : Int32) < lg_cmp (m * m) x
      · rw [if_pos d]
        have d1 := lc_gt d
        rw [e4] at d1
        exact ih lo m h0 m0.1 (by omega) (by omega) h4 d1
      · rw [if_neg d]
        have d1 := lc_ngt d
        rw [e4] at d1
        exact ih m hi (by omega) m0.2 h2 (by omega) d1 h5
theorem rt12 {x : Int64} (h : 0 < x.toInt ∧ x.toInt < 4611686018427387904) : isR x.toInt (f_X12_root x).toInt := by
  have l0 : (0 : Int64).toInt = 0 := rfl
  have lh : (3037000499 : Int64).toInt = 3037000499 := rfl
  unfold f_X12_root
  have c : (0 : Int32) < lg_cmp x (0 : Int64) := by
    by_cases c : (0 : Int32) < lg_cmp x (0 : Int64)
    · exact c
    · have c1 := lc_ngt c
      rw [l0] at c1; omega
  rw [if_pos c]
  obtain ⟨n, hn⟩ : ∃ n : Nat, n = 3037000500 := ⟨_, rfl⟩
  rw [← hn]
  exact rt12_loop x n 0 3037000499 (by rw [l0]; omega) (by rw [l0, lh]; omega) (by rw [lh]; omega) (by rw [l0, lh, hn]; omega) (by rw [l0]; omega) (by rw [lh]; omega)
theorem rt12n {x : Int64} (h : x.toInt ≤ 0) : f_X12_root x = 0 := by
  have l0 : (0 : Int64).toInt = 0 := rfl
  unfold f_X12_root
  rw [if_neg (fun q => by have c1 := lc_gt q; rw [l0] at c1; omega)]
theorem rt_eq {x : Int64} (h : x.toInt < 4611686018427387904) : f_X9_root x = f_X12_root x := by
  by_cases c : 0 < x.toInt
  · have a := rt9 (x := x) ⟨by omega, h⟩
    have b := rt12 (x := x) ⟨c, h⟩
    exact Int64.toInt_inj.mp (Int.le_antisymm (a.le b) (b.le a))
  · rw [rt12n (by omega)]
    by_cases d : x.toInt < 0
    · exact rt9n d
    · have a := rt9 (x := x) ⟨by omega, h⟩
      have b : isR x.toInt 0 := ⟨by omega, by omega, by omega⟩
      have e := a.le b
      have e0 := a.1
      exact Int64.toInt_inj.mp (show _ = (0 : Int) by omega)
theorem pd_ac {S : wPS} {a b : Nat} (h1 : 6 ≤ (S.I a 1).toInt ∧ (S.I a 1).toInt ≤ 200) (h2 : 500 ≤ (S.I a 2).toInt ∧ (S.I a 2).toInt ≤ 10000) (p1 : S.I a 1 = S.I b 1) (p2 : S.I a 2 = S.I b 2) : (f_X2_pitchDiameter S a).toInt64 = f_X10_across S b ∧ 3000 ≤ (f_X10_across S b).toInt ∧ (f_X10_across S b).toInt ≤ 2000000 := by
  have u1 : (S.I a 1).toInt * (S.I a 2).toInt ≤ 200 * 10000 := Int.mul_le_mul h1.2 h2.2 (by omega) (by decide)
  have u2 : 6 * 500 ≤ (S.I a 1).toInt * (S.I a 2).toInt := Int.mul_le_mul h1.1 h2.1 (by decide) (by omega)
  have e1 : (f_X2_pitchDiameter S a).toInt = (S.I a 1).toInt * (S.I a 2).toInt := t_mulx (by omega)
  have e2 : (f_X10_across S b).toInt = (S.I a 1).toInt * (S.I a 2).toInt := by
    show ((S.I b 1).toInt64 * (S.I b 2).toInt64).toInt = _
    rw [← p1, ← p2, t64_mul (by rw [i64_i, i64_i]; omega), i64_i, i64_i]
  exact ⟨Int64.toInt_inj.mp (by rw [i64_i, e1, e2]), by omega, by omega⟩
theorem sq_rng {x : Int64} (h : 3000 ≤ x.toInt ∧ x.toInt ≤ 2000000) : (x * x).toInt = x.toInt * x.toInt ∧ 9000000 ≤ x.toInt * x.toInt ∧ x.toInt * x.toInt ≤ 4000000000000 := by
  have u1 : x.toInt * x.toInt ≤ 2000000 * 2000000 := Int.mul_le_mul h.2 h.2 (by omega) (by decide)
  have u2 : 3000 * 3000 ≤ x.toInt * x.toInt := Int.mul_le_mul h.1 h.1 (by decide) (by omega)
  exact ⟨t64_mul (by omega), by omega, by omega⟩
/-! tips, lines and ways of two gears of the same teeth, module and shift -/
theorem td_rng {x B d : Int} (hB : 0 ≤ B) (hd : 0 < d) (h : -B ≤ x ∧ x ≤ B) : -B ≤ x.tdiv d ∧ x.tdiv d ≤ B := by
  rcases Int.le_total 0 x with q | q
  · rw [Int.tdiv_eq_ediv_of_nonneg q]
    have h1 : x / d ≤ x := Int.ediv_le_self _ q
    have h2 : 0 ≤ x / d := Int.ediv_nonneg q (by omega)
    omega
  · have e : x.tdiv d = -((-x) / d) := by rw [← Int.tdiv_eq_ediv_of_nonneg (by omega), Int.neg_tdiv, Int.neg_neg]
    have h1 : (-x) / d ≤ -x := Int.ediv_le_self _ (by omega)
    have h2 : 0 ≤ (-x) / d := Int.ediv_nonneg (by omega) (by omega)
    rw [e]; omega
theorem td100 {x : Int} (h : -2000000 ≤ x ∧ x ≤ 2000000) : -20000 ≤ x.tdiv 100 ∧ x.tdiv 100 ≤ 20000 := by
  rcases Int.le_total 0 x with q | q
  · rw [Int.tdiv_eq_ediv_of_nonneg q]; omega
  · have e : x.tdiv 100 = -((-x) / 100) := by rw [← Int.tdiv_eq_ediv_of_nonneg (by omega), Int.neg_tdiv, Int.neg_neg]
    rw [e]; omega
theorem sq0 (x : Int) : 0 ≤ x * x := by
  rcases Int.le_total 0 x with q | q
  · exact Int.mul_nonneg q q
  · have h := Int.mul_nonneg (a := -x) (b := -x) (by omega) (by omega)
    rw [Int.neg_mul_neg] at h; exact h
theorem tip_eq {S U : wPS} {a b : Nat} {s : Int32} (h1 : 6 ≤ (S.I a 1).toInt ∧ (S.I a 1).toInt ≤ 200) (h2 : 500 ≤ (S.I a 2).toInt ∧ (S.I a 2).toInt ≤ 10000) (hs : -100 ≤ s.toInt ∧ s.toInt ≤ 100) (p1 : S.I a 1 = U.I b 1) (p2 : S.I a 2 = U.I b 2) : f_X10_tip U b s = (f_X2_tipAt S a s).toInt64 ∧ -2200000 ≤ (f_X2_tipAt S a s).toInt ∧ (f_X2_tipAt S a s).toInt ≤ 2200000 := by
  have l2 : (2 : Int32).toInt = 2 := rfl
  have l100 : (100 : Int32).toInt = 100 := rfl
  have L2 : (2 : Int64).toInt = 2 := rfl
  have L100 : (100 : Int64).toInt = 100 := rfl
  have e0 : f_X2_tipAt S a s = ((S.I a 1 * S.I a 2) + ((2 : Int32) * S.I a 2)) + ((((2 : Int32) * s) * S.I a 2) / (100 : Int32)) := rfl
  have E0 : f_X10_tip U b s = (((U.I b 1).toInt64 * (U.I b 2).toInt64) + ((2 : Int64) * (U.I b 2).toInt64)) + ((((2 : Int64) * s.toInt64) * (U.I b 2).toInt64) / (100 : Int64)) := rfl
  rw [← p1, ← p2] at E0
  obtain ⟨t, ht⟩ : ∃ z, S.I a 1 = z := ⟨_, rfl⟩
  obtain ⟨m, hm⟩ : ∃ z, S.I a 2 = z := ⟨_, rfl⟩
  rw [ht, hm] at e0 E0
  rw [ht] at h1
  rw [hm] at h2
  have u1 : t.toInt * m.toInt ≤ 200 * 10000 := Int.mul_le_mul h1.2 h2.2 (by omega) (by decide)
  have u2 : 6 * 500 ≤ t.toInt * m.toInt := Int.mul_le_mul h1.1 h2.1 (by decide) (by omega)
  have w1 : s.toInt * m.toInt ≤ 100 * m.toInt := Int.mul_le_mul_of_nonneg_right hs.2 (by omega)
  have w0 : -100 * m.toInt ≤ s.toInt * m.toInt := Int.mul_le_mul_of_nonneg_right hs.1 (by omega)
  have wa : 2 * s.toInt * m.toInt = 2 * (s.toInt * m.toInt) := Int.mul_assoc _ _ _
  have e1 : ((2 : Int32) * s).toInt = 2 * s.toInt := t_mull l2 (by omega)
  have e2 : (((2 : Int32) * s) * m).toInt = 2 * s.toInt * m.toInt := by rw [t_mulx (by rw [e1, wa]; omega), e1]
  have e3 : ((((2 : Int32) * s) * m) / (100 : Int32)).toInt = (2 * s.toInt * m.toInt).tdiv 100 := by rw [Int32.toInt_div_of_ne_right _ _ (by decide), e2, l100]
  have d3 := td100 (x := 2 * s.toInt * m.toInt) (by rw [wa]; omega)
  have e4 : (t * m).toInt = t.toInt * m.toInt := t_mulx (by omega)
  have e5 : ((2 : Int32) * m).toInt = 2 * m.toInt := t_mull l2 (by omega)
  have e6 : ((t * m) + ((2 : Int32) * m)).toInt = t.toInt * m.toInt + 2 * m.toInt := by rw [t_add (by rw [e4, e5]; omega), e4, e5]
  have e7 : (((t * m) + ((2 : Int32) * m)) + ((((2 : Int32) * s) * m) / (100 : Int32))).toInt = t.toInt * m.toInt + 2 * m.toInt + (2 * s.toInt * m.toInt).tdiv 100 := by rw [t_add (by rw [e6, e3]; omega), e6, e3]
  have E1 : ((2 : Int64) * s.toInt64).toInt = 2 * s.toInt := by rw [t64_mul (by rw [L2, i64_i]; omega), L2, i64_i]
  have E2 : (((2 : Int64) * s.toInt64) * m.toInt64).toInt = 2 * s.toInt * m.toInt := by rw [t64_mul (by rw [E1, i64_i, wa]; omega), E1, i64_i]
  have E3 : ((((2 : Int64) * s.toInt64) * m.toInt64) / (100 : Int64)).toInt = (2 * s.toInt * m.toInt).tdiv 100 := by rw [Int64.toInt_div_of_ne_right _ _ (by decide), E2, L100]
  have E4 : (t.toInt64 * m.toInt64).toInt = t.toInt * m.toInt := by rw [t64_mul (by rw [i64_i, i64_i]; omega), i64_i, i64_i]
  have E5 : ((2 : Int64) * m.toInt64).toInt = 2 * m.toInt := by rw [t64_mul (by rw [L2, i64_i]; omega), L2, i64_i]
  have E6 : ((t.toInt64 * m.toInt64) + ((2 : Int64) * m.toInt64)).toInt = t.toInt * m.toInt + 2 * m.toInt := by rw [t64_add (by rw [E4, E5]; omega), E4, E5]
  have E7 : (((t.toInt64 * m.toInt64) + ((2 : Int64) * m.toInt64)) + ((((2 : Int64) * s.toInt64) * m.toInt64) / (100 : Int64))).toInt = t.toInt * m.toInt + 2 * m.toInt + (2 * s.toInt * m.toInt).tdiv 100 := by rw [t64_add (by rw [E6, E3]; omega), E6, E3]
  rw [e0, E0]
  exact ⟨Int64.toInt_inj.mp (by rw [i64_i, E7, e7]), by rw [e7]; omega, by rw [e7]; omega⟩
theorem pd_acU {S U : wPS} {a b : Nat} (h1 : 6 ≤ (S.I a 1).toInt ∧ (S.I a 1).toInt ≤ 200) (h2 : 500 ≤ (S.I a 2).toInt ∧ (S.I a 2).toInt ≤ 10000) (p1 : S.I a 1 = U.I b 1) (p2 : S.I a 2 = U.I b 2) : (f_X2_pitchDiameter S a).toInt64 = f_X10_across U b ∧ 3000 ≤ (f_X10_across U b).toInt ∧ (f_X10_across U b).toInt ≤ 2000000 := by
  have u1 : (S.I a 1).toInt * (S.I a 2).toInt ≤ 200 * 10000 := Int.mul_le_mul h1.2 h2.2 (by omega) (by decide)
  have u2 : 6 * 500 ≤ (S.I a 1).toInt * (S.I a 2).toInt := Int.mul_le_mul h1.1 h2.1 (by decide) (by omega)
  have e1 : (f_X2_pitchDiameter S a).toInt = (S.I a 1).toInt * (S.I a 2).toInt := t_mulx (by omega)
  have e2 : (f_X10_across U b).toInt = (S.I a 1).toInt * (S.I a 2).toInt := by
    show ((U.I b 1).toInt64 * (U.I b 2).toInt64).toInt = _
    rw [← p1, ← p2, t64_mul (by rw [i64_i, i64_i]; omega), i64_i, i64_i]
  exact ⟨Int64.toInt_inj.mp (by rw [i64_i, e1, e2]), by omega, by omega⟩
theorem sqk {x c : Int64} {k : Int} (hc : c.toInt = k) (hk : 0 ≤ k ∧ k ≤ 200) (h : -4000000 ≤ x.toInt ∧ x.toInt ≤ 4000000) : (c * x * x).toInt = k * x.toInt * x.toInt ∧ 0 ≤ k * x.toInt * x.toInt ∧ k * x.toInt * x.toInt ≤ 3200000000000000 := by
  have n : 0 ≤ x.toInt * x.toInt := sq0 _
  have q : x.toInt * x.toInt ≤ 4000000 * 4000000 := by
    rcases Int.le_total 0 x.toInt with z | z
    · exact Int.mul_le_mul h.2 h.2 z (by decide)
    · have := Int.mul_le_mul (a := -x.toInt) (b := -x.toInt) (c := 4000000) (d := 4000000) (by omega) (by omega) (by omega) (by decide)
      rw [Int.neg_mul_neg] at this; exact this
  have q1 : k * (x.toInt * x.toInt) ≤ 200 * (4000000 * 4000000) := Int.mul_le_mul hk.2 q n (by decide)
  have q0 : 0 ≤ k * (x.toInt * x.toInt) := Int.mul_nonneg hk.1 n
  have e : k * x.toInt * x.toInt = k * (x.toInt * x.toInt) := Int.mul_assoc _ _ _
  have k1 : k * x.toInt ≤ 200 * 4000000 ∧ -(200 * 4000000) ≤ k * x.toInt := by
    have a1 : k * x.toInt ≤ k * 4000000 := Int.mul_le_mul_of_nonneg_left h.2 hk.1
    have a2 : k * -4000000 ≤ k * x.toInt := Int.mul_le_mul_of_nonneg_left h.1 hk.1
    omega
  have e1 : (c * x).toInt = k * x.toInt := by rw [t64_mul (by rw [hc]; omega), hc]
  have e2 : (c * x * x).toInt = k * x.toInt * x.toInt := by rw [t64_mul (by rw [e1, e]; omega), e1]
  exact ⟨e2, by omega, by omega⟩
theorem dv137 {x : Int64} (h : -4000000000000000 ≤ x.toInt ∧ x.toInt ≤ 4000000000000000) : -4000000000000000 ≤ (x / (137 : Int64)).toInt ∧ (x / (137 : Int64)).toInt ≤ 4000000000000000 := by
  have L : (137 : Int64).toInt = 137 := rfl
  rw [Int64.toInt_div_of_ne_right _ _ (by decide), L]
  exact td_rng (by decide) (by decide) h
theorem line_eq {S U : wPS} {a b : Nat} {s : Int32} (h1 : 6 ≤ (S.I a 1).toInt ∧ (S.I a 1).toInt ≤ 200) (h2 : 500 ≤ (S.I a 2).toInt ∧ (S.I a 2).toInt ≤ 10000) (hs : -100 ≤ s.toInt ∧ s.toInt ≤ 100) (p1 : S.I a 1 = U.I b 1) (p2 : S.I a 2 = U.I b 2) : f_X10_line U b s = f_X2_lineAt S a s := by
  obtain ⟨T1, T2⟩ := tip_eq h1 h2 hs p1 p2
  obtain ⟨A1, A2⟩ := pd_acU h1 h2 p1 p2
  show f_X12_root (((((137 : Int64) * (f_X10_tip U b s)) * (f_X10_tip U b s)) - (((121 : Int64) * (f_X10_across U b)) * (f_X10_across U b))) / (137 : Int64)) = f_X9_root (((((137 : Int64) * ((f_X2_tipAt S a s).toInt64)) * ((f_X2_tipAt S a s).toInt64)) - (((121 : Int64) * ((f_X2_pitchDiameter S a).toInt64)) * ((f_X2_pitchDiameter S a).toInt64))) / (137 : Int64))
  rw [T1, A1]
  refine (rt_eq ?_).symm
  obtain ⟨q1, q2, q3⟩ := sqk (x := (f_X2_tipAt S a s).toInt64) (c := 137) (k := 137) rfl (by decide) (by rw [i64_i]; omega)
  obtain ⟨r1, r2, r3⟩ := sqk (x := f_X10_across U b) (c := 121) (k := 121) rfl (by decide) (by omega)
  have d : -4000000000000000 ≤ (((137 : Int64) * (f_X2_tipAt S a s).toInt64 * (f_X2_tipAt S a s).toInt64) - ((121 : Int64) * (f_X10_across U b) * (f_X10_across U b))).toInt ∧ (((137 : Int64) * (f_X2_tipAt S a s).toInt64 * (f_X2_tipAt S a s).toInt64) - ((121 : Int64) * (f_X10_across U b) * (f_X10_across U b))).toInt ≤ 4000000000000000 := by
    rw [t64_sub (by rw [q1, r1]; omega), q1, r1]; omega
  have := dv137 d
  omega
theorem rbase_eq {U : wPS} {P : Int64} {b : Nat} (A1 : P = f_X10_across U b) (A2 : 3000 ≤ (f_X10_across U b).toInt ∧ (f_X10_across U b).toInt ≤ 2000000) : f_X12_root ((((16 : Int64) * (f_X10_across U b)) * (f_X10_across U b)) / (137 : Int64)) = f_X9_root ((((16 : Int64) * P) * P) / (137 : Int64)) := by
  rw [A1]
  refine (rt_eq ?_).symm
  obtain ⟨r1, r2, r3⟩ := sqk (x := f_X10_across U b) (c := 16) (k := 16) rfl (by decide) (by omega)
  have := dv137 (x := (16 : Int64) * (f_X10_across U b) * (f_X10_across U b)) (by rw [r1]; omega)
  omega
theorem way_eq {S U : wPS} {a b : Nat} {s : Int32} (h1 : 6 ≤ (S.I a 1).toInt ∧ (S.I a 1).toInt ≤ 200) (h2 : 500 ≤ (S.I a 2).toInt ∧ (S.I a 2).toInt ≤ 10000) (hs : -100 ≤ s.toInt ∧ s.toInt ≤ 100) (p1 : S.I a 1 = U.I b 1) (p2 : S.I a 2 = U.I b 2) : f_X10_way U b s = f_X2_wayAt S a s := by
  obtain ⟨A1, A2⟩ := pd_acU h1 h2 p1 p2
  show (f_X10_line U b s) - (f_X12_root ((((16 : Int64) * (f_X10_across U b)) * (f_X10_across U b)) / (137 : Int64))) = (f_X2_lineAt S a s) - (f_X9_root ((((16 : Int64) * ((f_X2_pitchDiameter S a).toInt64)) * ((f_X2_pitchDiameter S a).toInt64)) / (137 : Int64)))
  rw [line_eq h1 h2 hs p1 p2, rbase_eq A1 A2]
theorem rt9_le {x : Int64} (h : x.toInt ≤ 4000000000000000) : 0 ≤ (f_X9_root x).toInt ∧ (f_X9_root x).toInt ≤ 70000000 := by
  by_cases c : x.toInt < 0
  · rw [rt9n c]; decide
  · obtain ⟨r0, r1, r2⟩ := rt9 (x := x) (by omega)
    refine ⟨r0, ?_⟩
    rcases Int.lt_or_le 70000000 (f_X9_root x).toInt with l | l
    · have h9 : 70000000 * 70000000 ≤ (f_X9_root x).toInt * (f_X9_root x).toInt := Int.mul_le_mul (by omega) (by omega) (by decide) (by omega)
      omega
    · exact l
theorem way_rng {S : wPS} {a : Nat} {s : Int32} (h1 : 6 ≤ (S.I a 1).toInt ∧ (S.I a 1).toInt ≤ 200) (h2 : 500 ≤ (S.I a 2).toInt ∧ (S.I a 2).toInt ≤ 10000) (hs : -100 ≤ s.toInt ∧ s.toInt ≤ 100) : (0 ≤ (f_X2_lineAt S a s).toInt ∧ (f_X2_lineAt S a s).toInt ≤ 70000000) ∧ -70000000 ≤ (f_X2_wayAt S a s).toInt ∧ (f_X2_wayAt S a s).toInt ≤ 70000000 := by
  have pd : 3000 ≤ (f_X2_pitchDiameter S a).toInt ∧ (f_X2_pitchDiameter S a).toInt ≤ 2000000 := by
    have u1 : (S.I a 1).toInt * (S.I a 2).toInt ≤ 200 * 10000 := Int.mul_le_mul h1.2 h2.2 (by omega) (by decide)
    have u2 : 6 * 500 ≤ (S.I a 1).toInt * (S.I a 2).toInt := Int.mul_le_mul h1.1 h2.1 (by decide) (by omega)
    have e1 : (f_X2_pitchDiameter S a).toInt = (S.I a 1).toInt * (S.I a 2).toInt := t_mulx (by omega)
    omega
  have T2 : -2200000 ≤ (f_X2_tipAt S a s).toInt ∧ (f_X2_tipAt S a s).toInt ≤ 2200000 := by
    have l2 : (2 : Int32).toInt = 2 := rfl
    have l100 : (100 : Int32).toInt = 100 := rfl
    have e0 : f_X2_tipAt S a s = ((S.I a 1 * S.I a 2) + ((2 : Int32) * S.I a 2)) + ((((2 : Int32) * s) * S.I a 2) / (100 : Int32)) := rfl
    obtain ⟨t, ht⟩ : ∃ z, S.I a 1 = z := ⟨_, rfl⟩
    obtain ⟨m, hm⟩ : ∃ z, S.I a 2 = z := ⟨_, rfl⟩
    rw [ht, hm] at e0
    rw [ht] at h1
    rw [hm] at h2
    have u1 : t.toInt * m.toInt ≤ 200 * 10000 := Int.mul_le_mul h1.2 h2.2 (by omega) (by decide)
    have u2 : 6 * 500 ≤ t.toInt * m.toInt := Int.mul_le_mul h1.1 h2.1 (by decide) (by omega)
    have w1 : s.toInt * m.toInt ≤ 100 * m.toInt := Int.mul_le_mul_of_nonneg_right hs.2 (by omega)
    have w0 : -100 * m.toInt ≤ s.toInt * m.toInt := Int.mul_le_mul_of_nonneg_right hs.1 (by omega)
    have wa : 2 * s.toInt * m.toInt = 2 * (s.toInt * m.toInt) := Int.mul_assoc _ _ _
    have e1 : ((2 : Int32) * s).toInt = 2 * s.toInt := t_mull l2 (by omega)
    have e2 : (((2 : Int32) * s) * m).toInt = 2 * s.toInt * m.toInt := by rw [t_mulx (by rw [e1, wa]; omega), e1]
    have e3 : ((((2 : Int32) * s) * m) / (100 : Int32)).toInt = (2 * s.toInt * m.toInt).tdiv 100 := by rw [Int32.toInt_div_of_ne_right _ _ (by decide), e2, l100]
    have d3 := td100 (x := 2 * s.toInt * m.toInt) (by rw [wa]; omega)
    have e4 : (t * m).toInt = t.toInt * m.toInt := t_mulx (by omega)
    have e5 : ((2 : Int32) * m).toInt = 2 * m.toInt := t_mull l2 (by omega)
    have e6 : ((t * m) + ((2 : Int32) * m)).toInt = t.toInt * m.toInt + 2 * m.toInt := by rw [t_add (by rw [e4, e5]; omega), e4, e5]
    rw [e0, t_add (by rw [e6, e3]; omega), e6, e3]; omega
  obtain ⟨q1, q2, q3⟩ := sqk (x := (f_X2_tipAt S a s).toInt64) (c := 137) (k := 137) rfl (by decide) (by rw [i64_i]; omega)
  obtain ⟨r1, r2, r3⟩ := sqk (x := (f_X2_pitchDiameter S a).toInt64) (c := 121) (k := 121) rfl (by decide) (by rw [i64_i]; omega)
  obtain ⟨s1, s2, s3⟩ := sqk (x := (f_X2_pitchDiameter S a).toInt64) (c := 16) (k := 16) rfl (by decide) (by rw [i64_i]; omega)
  have d1 := dv137 (x := ((137 : Int64) * (f_X2_tipAt S a s).toInt64 * (f_X2_tipAt S a s).toInt64) - ((121 : Int64) * (f_X2_pitchDiameter S a).toInt64 * (f_X2_pitchDiameter S a).toInt64)) (by rw [t64_sub (by rw [q1, r1]; omega), q1, r1]; omega)
  have d2 := dv137 (x := (16 : Int64) * (f_X2_pitchDiameter S a).toInt64 * (f_X2_pitchDiameter S a).toInt64) (by rw [s1]; omega)
  have L : 0 ≤ (f_X2_lineAt S a s).toInt ∧ (f_X2_lineAt S a s).toInt ≤ 70000000 := rt9_le d1.2
  have R := rt9_le d2.2
  have w : f_X2_wayAt S a s = f_X2_lineAt S a s - f_X9_root (((16 : Int64) * (f_X2_pitchDiameter S a).toInt64 * (f_X2_pitchDiameter S a).toInt64) / (137 : Int64)) := rfl
  refine ⟨L, ?_⟩
  rw [w, t64_sub (by omega)]; omega
theorem fine_eq {S U : wPS} {a b : Nat} {s : Int32} (p1 : S.I a 1 = U.I b 1) : f_X10_isFine U b s = f_X2_isGoodAt S a s := by
  unfold f_X10_isFine f_X2_isGoodAt f_X10_isUndercut f_X10_isSharp f_X9_undercuts f_X9_sharpens
  rw [p1]
theorem RGS.rng {S : wPS} {o2 o a : Nat} {y : Int32} (m : RGS o2 S o) (c : f_X9_gearAt S o2 y = .ok a) : -100 ≤ (S.I a 7).toInt ∧ (S.I a 7).toInt ≤ 100 := by
  have z0 : (0 : Int32).toInt = 0 := rfl
  unfold f_X9_gearAt at c
  by_cases h0 : y < (0 : Int32)
  · rw [if_pos h0] at c; cases c
  · rw [if_neg h0] at c
    by_cases h1 : y < S.I o2 1
    · rw [if_pos h1] at c
      have e := Except.ok.inj c
      have hy : 0 ≤ y.toInt := by
        rcases Int.lt_or_le y.toInt 0 with l | l
        · exact absurd (Int32.lt_iff_toInt_lt.mpr l) h0
        · exact l
      have hc := cl_int (i := y) hy
      have h2 := Int32.lt_iff_toInt_lt.mp h1
      rw [← e]
      exact m.2 _ (by omega)
    · rw [if_neg h1] at c; cases c
theorem base_eq {x : Int32} (h : 500 ≤ x.toInt ∧ x.toInt ≤ 10000) : f_X12_root (((((7810 : Int64) * x.toInt64) * (7810 : Int64)) * x.toInt64) / (137 : Int64)) = f_X9_root ((((7810 : Int64) * x.toInt64) * ((7810 : Int64) * x.toInt64)) / (137 : Int64)) ∧ 113 ≤ (f_X9_root ((((7810 : Int64) * x.toInt64) * ((7810 : Int64) * x.toInt64)) / (137 : Int64))).toInt ∧ (f_X9_root ((((7810 : Int64) * x.toInt64) * ((7810 : Int64) * x.toInt64)) / (137 : Int64))).toInt ≤ 100000000 := by
  have l1 : (7810 : Int64).toInt = 7810 := rfl
  have ea : (((7810 : Int64) * x.toInt64) * (7810 : Int64)) * x.toInt64 = ((7810 : Int64) * x.toInt64) * ((7810 : Int64) * x.toInt64) := Int64.mul_assoc _ _ _
  have lo := mod_sq h
  rw [ea] at lo ⊢
  have e1 : ((7810 : Int64) * x.toInt64).toInt = 7810 * x.toInt := by rw [t64_mul (by rw [l1, i64_i]; omega), l1, i64_i]
  obtain ⟨z, hz⟩ : ∃ z, (7810 : Int64) * x.toInt64 = z := ⟨_, rfl⟩
  rw [hz] at e1 lo ⊢
  have u : z.toInt * z.toInt ≤ 78100000 * 78100000 := Int.mul_le_mul (by omega) (by omega) (by omega) (by decide)
  have v : 0 ≤ z.toInt * z.toInt := sq0 _
  have e2 : (z * z).toInt = z.toInt * z.toInt := t64_mul (by omega)
  have e3 : (z * z / (137 : Int64)).toInt = z.toInt * z.toInt / 137 := by rw [t64_divl (n := 137) rfl (by rw [e2]; exact v) (by decide), e2]
  have hi : (z * z / (137 : Int64)).toInt ≤ 50000000000000 := by rw [e3]; omega
  refine ⟨(rt_eq (by omega)).symm, ?_⟩
  obtain ⟨r0, r1, r2⟩ := rt9 (x := z * z / (137 : Int64)) (by omega)
  constructor
  · rcases Int.lt_or_le (f_X9_root (z * z / (137 : Int64))).toInt 113 with l | l
    · have h9 : ((f_X9_root (z * z / (137 : Int64))).toInt + 1) * ((f_X9_root (z * z / (137 : Int64))).toInt + 1) ≤ 113 * 113 := Int.mul_le_mul (by omega) (by omega) (by omega) (by decide)
      omega
    · exact l
  · rcases Int.lt_or_le 100000000 (f_X9_root (z * z / (137 : Int64))).toInt with l | l
    · have h9 : 100000000 * 100000000 ≤ (f_X9_root (z * z / (137 : Int64))).toInt * (f_X9_root (z * z / (137 : Int64))).toInt := Int.mul_le_mul (by omega) (by omega) (by decide) (by omega)
      omega
    · exact l
theorem max0_eq {p b : Int64} (hp : -1000000000 ≤ p.toInt ∧ p.toInt ≤ 1000000000) (hb : 1 ≤ b.toInt) : (if ((1000 : Int64) * p) / b < (0 : Int64) then (0 : Int64) else ((1000 : Int64) * p) / b) = if lg_cmp p (0 : Int64) ≤ (0 : Int32) then (0 : Int64) else if (0 : Int32) < lg_cmp b (0 : Int64) then ((1000 : Int64) * p) / b else (0 : Int64) := by
  have l0 : (0 : Int64).toInt = 0 := rfl
  have l1 : (1000 : Int64).toInt = 1000 := rfl
  have e1 : ((1000 : Int64) * p).toInt = 1000 * p.toInt := by rw [t64_mul (by rw [l1]; omega), l1]
  have e2 : (((1000 : Int64) * p) / b).toInt = (1000 * p.toInt).tdiv b.toInt := by
    rw [Int64.toInt_div_of_ne_right _ _ (fun e => by
      have h : b.toInt = -1 := by rw [e]; rfl
      omega), e1]
  by_cases c : lg_cmp p (0 : Int64) ≤ (0 : Int32)
  · have c1 := lc_le c
    rw [l0] at c1
    rw [if_pos c]
    have q : (1000 * p.toInt).tdiv b.toInt ≤ 0 := by
      have e : (1000 * p.toInt).tdiv b.toInt = -((-(1000 * p.toInt)) / b.toInt) := by rw [← Int.tdiv_eq_ediv_of_nonneg (by omega), Int.neg_tdiv, Int.neg_neg]
      have h2 : 0 ≤ (-(1000 * p.toInt)) / b.toInt := Int.ediv_nonneg (by omega) (by omega)
      rw [e]; omega
    by_cases d : ((1000 : Int64) * p) / b < (0 : Int64)
    · rw [if_pos d]
    · rw [if_neg d]
      have d1 : ¬ (((1000 : Int64) * p) / b).toInt < (0 : Int64).toInt := fun z => d (Int64.lt_iff_toInt_lt.mpr z)
      rw [l0] at d1
      exact Int64.toInt_inj.mp (by rw [l0]; omega)
  · have c1 := lc_nle c
    rw [l0] at c1
    have n1 : (0 : Int32) < lg_cmp b (0 : Int64) := by
      by_cases z : (0 : Int32) < lg_cmp b (0 : Int64)
      · exact z
      · have z1 := lc_ngt z
        rw [l0] at z1; omega
    rw [if_neg c, if_pos n1, if_neg (fun z => by
      have z1 := Int64.lt_iff_toInt_lt.mp z
      have h2 : 0 ≤ (1000 * p.toInt) / b.toInt := Int.ediv_nonneg (by omega) (by omega)
      rw [l0, e2, Int.tdiv_eq_ediv_of_nonneg (by omega)] at z1; omega)]
theorem contact_eq {S U : wPS} {a a' b b' o : Nat} (h1 : 6 ≤ (S.I a 1).toInt ∧ (S.I a 1).toInt ≤ 200) (h2 : 500 ≤ (S.I a 2).toInt ∧ (S.I a 2).toInt ≤ 10000) (h7 : -100 ≤ (S.I a 7).toInt ∧ (S.I a 7).toInt ≤ 100) (h1' : 6 ≤ (S.I a' 1).toInt ∧ (S.I a' 1).toInt ≤ 200) (h2' : 500 ≤ (S.I a' 2).toInt ∧ (S.I a' 2).toInt ≤ 10000) (h7' : -100 ≤ (S.I a' 7).toInt ∧ (S.I a' 7).toInt ≤ 100) (p1 : S.I a 1 = U.I b 1) (p2 : S.I a 2 = U.I b 2) (p7 : S.I a 7 = U.I b 7) (p1' : S.I a' 1 = U.I b' 1) (p2' : S.I a' 2 = U.I b' 2) (p7' : S.I a' 7 = U.I b' 7) : f_X12_contactOf U o b b' = f_X9_contactOf S a a' := by
  have l113 : (113 : Int64).toInt = 113 := rfl
  obtain ⟨A1, A2⟩ := pd_acU h1 h2 p1 p2
  obtain ⟨A1', A2'⟩ := pd_acU h1' h2' p1' p2'
  have hl : f_X10_line U b (U.I b 7) = f_X2_lineAt S a (S.I a 7) := by rw [← p7]; exact line_eq h1 h2 h7 p1 p2
  have hl' : f_X10_line U b' (U.I b' 7) = f_X2_lineAt S a' (S.I a' 7) := by rw [← p7']; exact line_eq h1' h2' h7' p1' p2'
  have L := (way_rng h1 h2 h7).1
  have L' := (way_rng h1' h2' h7').1
  have sm : (f_X10_across U b + f_X10_across U b').toInt = (f_X10_across U b).toInt + (f_X10_across U b').toInt := t64_add (by omega)
  obtain ⟨q1, q2, q3⟩ := sqk (x := f_X10_across U b + f_X10_across U b') (c := 16) (k := 16) rfl (by decide) (by omega)
  have dq := dv137 (x := (16 : Int64) * (f_X10_across U b + f_X10_across U b') * (f_X10_across U b + f_X10_across U b')) (by rw [q1]; omega)
  have hr : f_X12_root ((((16 : Int64) * ((f_X10_across U b) + (f_X10_across U b'))) * ((f_X10_across U b) + (f_X10_across U b'))) / (137 : Int64)) = f_X9_root ((((16 : Int64) * (((f_X2_pitchDiameter S a).toInt64) + ((f_X2_pitchDiameter S a').toInt64))) * (((f_X2_pitchDiameter S a).toInt64) + ((f_X2_pitchDiameter S a').toInt64))) / (137 : Int64)) := by
    rw [A1, A1']
    exact (rt_eq (by omega)).symm
  have R := rt9_le dq.2
  rw [← A1, ← A1'] at R
  obtain ⟨hb, b1, b2⟩ := base_eq h2
  unfold f_X12_contactOf f_X9_contactOf
  rw [hl, hl', hr, ← p2, hb]
  have dB : ((f_X9_root ((((7810 : Int64) * (S.I a 2).toInt64) * ((7810 : Int64) * (S.I a 2).toInt64)) / (137 : Int64))) / (113 : Int64)).toInt = (f_X9_root ((((7810 : Int64) * (S.I a 2).toInt64) * ((7810 : Int64) * (S.I a 2).toInt64)) / (137 : Int64))).toInt / 113 := t64_divl (n := 113) rfl (by omega) (by decide)
  have e1 : (f_X2_lineAt S a (S.I a 7) + f_X2_lineAt S a' (S.I a' 7)).toInt = (f_X2_lineAt S a (S.I a 7)).toInt + (f_X2_lineAt S a' (S.I a' 7)).toInt := t64_add (by omega)
  exact max0_eq (by rw [t64_sub (by rw [e1]; omega), e1]; omega) (by rw [dB]; omega)
/-! balance: both look at the same shifts in the same order -/
def s9 (S : wPS) (a a' : Nat) (by_ : Int32) (q : Int32 × Int64) : Int32 × Int64 := if (f_X2_isGoodAt S a by_) = (0 : Int32) then q else if (f_X2_isGoodAt S a' (-by_)) = (0 : Int32) then q else if (0 : Int32) ≤ (lg_cmp (if 0 < ((f_X2_wayAt S a by_) - (f_X2_wayAt S a' (-by_))) then ((f_X2_wayAt S a by_) - (f_X2_wayAt S a' (-by_))) else -((f_X2_wayAt S a by_) - (f_X2_wayAt S a' (-by_)))) q.2) then q else (by_, (if 0 < ((f_X2_wayAt S a by_) - (f_X2_wayAt S a' (-by_))) then ((f_X2_wayAt S a by_) - (f_X2_wayAt S a' (-by_))) else -((f_X2_wayAt S a by_) - (f_X2_wayAt S a' (-by_)))))
def s12 (U : wPS) (b b' : Nat) (by_ found : Int32) : Int32 := if (f_X10_isFine U b by_) = (0 : Int32) then found else if (f_X10_isFine U b' (-by_)) = (0 : Int32) then found else if found = (99 : Int32) then by_ else if (0 : Int32) ≤ (lg_cmp (f_X12_slideOf U b b' by_ (-by_)) (f_X12_slideOf U b b' found (-found))) then found else by_
theorem bl9_s (S : wPS) (a a' : Nat) (n : Nat) (q : Int32 × Int64) (p : Int32) (hp : ¬ (100 : Int32) < p) : f_X9_balancedShift_L10 S a a' (n + 1) q.1 q.2 p = f_X9_balancedShift_L10 S a a' n (s9 S a a' (f_X9_nearestToZero p) q).1 (s9 S a a' (f_X9_nearestToZero p) q).2 (p + (1 : Int32)) := by
  rw [f_X9_balancedShift_L10_s, if_neg hp]
  unfold s9
  by_cases c1 : (f_X2_isGoodAt S a (f_X9_nearestToZero p)) = (0 : Int32)
  · rw [if_pos c1, if_pos c1]
  · rw [if_neg c1, if_neg c1]
    by_cases c2 : (f_X2_isGoodAt S a' (-(f_X9_nearestToZero p))) = (0 : Int32)
    · rw [if_pos c2, if_pos c2]
    · rw [if_neg c2, if_neg c2]
      by_cases c3 : (0 : Int32) ≤ (lg_cmp (if 0 < ((f_X2_wayAt S a (f_X9_nearestToZero p)) - (f_X2_wayAt S a' (-(f_X9_nearestToZero p)))) then ((f_X2_wayAt S a (f_X9_nearestToZero p)) - (f_X2_wayAt S a' (-(f_X9_nearestToZero p)))) else -((f_X2_wayAt S a (f_X9_nearestToZero p)) - (f_X2_wayAt S a' (-(f_X9_nearestToZero p))))) q.2)
      · rw [if_pos c3, if_pos c3]
      · rw [if_neg c3, if_neg c3]
theorem bl12_in (U : wPS) (o : Nat) (x1 x2 : Int32) (r32 r46 b b' : Nat) (w5 am : Int32) (n : Nat) (found s : Int32) (hs : ¬ s < (-1 : Int32)) : f_X12_balance_L89 U o x1 x2 r32 r46 b b' w5 am (n + 1) found s = f_X12_balance_L89 U o x1 x2 r32 r46 b b' w5 am n (s12 U b b' (s * am) found) (s + (-2 : Int32)) := by
  rw [f_X12_balance_L89_s, if_neg hs]
  unfold s12
  by_cases c1 : (f_X10_isFine U b (s * am)) = (0 : Int32)
  · rw [if_pos c1, if_pos c1]; rfl
  · rw [if_neg c1, if_neg c1]
    by_cases c2 : (f_X10_isFine U b' (-(s * am))) = (0 : Int32)
    · rw [if_pos c2, if_pos c2]; rfl
    · rw [if_neg c2, if_neg c2]
      by_cases c4 : found = (99 : Int32)
      · rw [if_pos c4, if_pos c4]; rfl
      · rw [if_neg c4, if_neg c4]
        by_cases c3 : (0 : Int32) ≤ (lg_cmp (f_X12_slideOf U b b' (s * am) (-(s * am))) (f_X12_slideOf U b b' found (-found)))
        · rw [if_pos c3, if_pos c3]; rfl
        · rw [if_neg c3, if_neg c3]; rfl
theorem bl12_s (U : wPS) (o : Nat) (x1 x2 : Int32) (r32 r46 b b' : Nat) (n : Nat) (found am : Int32) (ha : ¬ (50 : Int32) < am) : f_X12_balance_L79 U o x1 x2 r32 r46 b b' (n + 1) found am = f_X12_balance_L79 U o x1 x2 r32 r46 b b' n (s12 U b b' ((-1 : Int32) * am) (s12 U b b' ((1 : Int32) * am) found)) (am + (1 : Int32)) := by
  rw [f_X12_balance_L79_s, if_neg ha]
  rw [show (5 : Nat) = 2 + 1 + 1 + 1 from rfl, bl12_in U o x1 x2 r32 r46 b b' found am _ found 1 (by decide), show (1 : Int32) + (-2 : Int32) = -1 from rfl, bl12_in U o x1 x2 r32 r46 b b' found am _ _ (-1) (by decide), show (-1 : Int32) + (-2 : Int32) = -3 from rfl, f_X12_balance_L89_s, if_pos (by decide)]
  rfl
theorem nz_odd : ∀ k : Fin 50, f_X9_nearestToZero (nI (2 * k.val + 1)) = nI (k.val + 1) ∧ f_X9_nearestToZero (nI (2 * k.val + 2)) = -(nI (k.val + 1)) ∧ nI (2 * k.val + 1) + (1 : Int32) = nI (2 * k.val + 2) ∧ nI (2 * k.val + 2) + (1 : Int32) = nI (2 * (k.val + 1) + 1) ∧ (1 : Int32) * nI (k.val + 1) = nI (k.val + 1) ∧ (-1 : Int32) * nI (k.val + 1) = -(nI (k.val + 1)) ∧ nI (k.val + 1) + (1 : Int32) = nI (k.val + 1 + 1) ∧ ¬ (100 : Int32) < nI (2 * k.val + 1) ∧ ¬ (100 : Int32) < nI (2 * k.val + 2) ∧ ¬ (50 : Int32) < nI (k.val + 1) ∧ (nI (k.val + 1)).toInt = (k.val : Int) + 1 ∧ (-(nI (k.val + 1))).toInt = -((k.val : Int) + 1) := by decide +kernel
/-- what both carry: none yet, or the same shift and its slip -/
def BR (S : wPS) (a a' : Nat) (q : Int32 × Int64) (found : Int32) : Prop := (q = ((51 : Int32), (9223372036854775807 : Int64)) ∧ found = (99 : Int32)) ∨ ((-50 ≤ q.1.toInt ∧ q.1.toInt ≤ 50) ∧ found = q.1 ∧ q.2 = (if 0 < ((f_X2_wayAt S a q.1) - (f_X2_wayAt S a' (-q.1))) then ((f_X2_wayAt S a q.1) - (f_X2_wayAt S a' (-q.1))) else -((f_X2_wayAt S a q.1) - (f_X2_wayAt S a' (-q.1)))))
theorem BR.step {S U : wPS} {a a' b b' : Nat} (hf : ∀ x, f_X10_isFine U b x = f_X2_isGoodAt S a x) (hf' : ∀ x, f_X10_isFine U b' x = f_X2_isGoodAt S a' x) (hs : ∀ x : Int32, -50 ≤ x.toInt → x.toInt ≤ 50 → f_X12_slideOf U b b' x (-x) = (if 0 < ((f_X2_wayAt S a x) - (f_X2_wayAt S a' (-x))) then ((f_X2_wayAt S a x) - (f_X2_wayAt S a' (-x))) else -((f_X2_wayAt S a x) - (f_X2_wayAt S a' (-x)))) ∧ (f_X12_slideOf U b b' x (-x)).toInt < 9223372036854775807) {x : Int32} (hx : -50 ≤ x.toInt ∧ x.toInt ≤ 50) {q : Int32 × Int64} {found : Int32} (h : BR S a a' q found) : BR S a a' (s9 S a a' x q) (s12 U b b' x found) := by
  have l99 : (99 : Int32).toInt = 99 := rfl
  have lM : (9223372036854775807 : Int64).toInt = 9223372036854775807 := rfl
  obtain ⟨e1, e2⟩ := hs x hx.1 hx.2
  unfold s9 s12
  rw [hf, hf', ← e1]
  by_cases c1 : (f_X2_isGoodAt S a x) = (0 : Int32)
  · rw [if_pos c1, if_pos c1]; exact h
  · rw [if_neg c1, if_neg c1]
    by_cases c2 : (f_X2_isGoodAt S a' (-x)) = (0 : Int32)
    · rw [if_pos c2, if_pos c2]; exact h
    · rw [if_neg c2, if_neg c2]
      rcases h with ⟨h1, h2⟩ | ⟨h1, h2, h3⟩
      · rw [h1, h2, if_pos rfl, if_neg (fun z => by
          have z1 := lc_ge z
          rw [lM] at z1; omega)]
        exact Or.inr ⟨hx, rfl, e1⟩
      · have n99 : ¬ found = (99 : Int32) := fun z => by
          rw [← h2, z, l99] at h1; omega
        obtain ⟨f1, f2⟩ := hs q.1 h1.1 h1.2
        have h3' : q.2 = f_X12_slideOf U b b' q.1 (-q.1) := h3.trans f1.symm
        rw [if_neg n99, h2, h3']
        by_cases c3 : (0 : Int32) ≤ (lg_cmp (f_X12_slideOf U b b' x (-x)) (f_X12_slideOf U b b' q.1 (-q.1)))
        · rw [if_pos c3, if_pos c3]; exact Or.inr ⟨h1, rfl, h3⟩
        · rw [if_neg c3, if_neg c3]; exact Or.inr ⟨hx, rfl, e1⟩
theorem bl_loop {S U : wPS} {a a' b b' o : Nat} {x1 x2 : Int32} {r32 r46 : Nat} (hf : ∀ x, f_X10_isFine U b x = f_X2_isGoodAt S a x) (hf' : ∀ x, f_X10_isFine U b' x = f_X2_isGoodAt S a' x) (hs : ∀ x : Int32, -50 ≤ x.toInt → x.toInt ≤ 50 → f_X12_slideOf U b b' x (-x) = (if 0 < ((f_X2_wayAt S a x) - (f_X2_wayAt S a' (-x))) then ((f_X2_wayAt S a x) - (f_X2_wayAt S a' (-x))) else -((f_X2_wayAt S a x) - (f_X2_wayAt S a' (-x)))) ∧ (f_X12_slideOf U b b' x (-x)).toInt < 9223372036854775807) : ∀ (d k : Nat), k + d = 50 → ∀ (n9 n12 : Nat) (q : Int32 × Int64) (found : Int32), 2 * d < n9 → d < n12 → BR S a a' q found → ∃ q' : Int32 × Int64, BR S a a' q' (f_X12_balance_L79 U o x1 x2 r32 r46 b b' n12 found (nI (k + 1))).1 ∧ (f_X9_balancedShift_L10 S a a' n9 q.1 q.2 (nI (2 * k + 1))).1 = q'.1 := by
  intro d
  induction d with
  | zero =>
    intro k hk n9 n12 q found h9 h12 h
    obtain ⟨n9', rfl⟩ : ∃ z, n9 = z + 1 := ⟨n9 - 1, by omega⟩
    obtain ⟨n12', rfl⟩ : ∃ z, n12 = z + 1 := ⟨n12 - 1, by omega⟩
    obtain rfl : k = 50 := by omega
    refine ⟨q, ?_, ?_⟩
    · rw [f_X12_balance_L79_s, if_pos (by decide)]; exact h
    · rw [f_X9_balancedShift_L10_s, if_pos (by decide)]
  | succ d ih =>
    intro k hk n9 n12 q found h9 h12 h
    obtain ⟨n9', rfl⟩ : ∃ z, n9 = z + 1 + 1 := ⟨n9 - 2, by omega⟩
    obtain ⟨n12', rfl⟩ : ∃ z, n12 = z + 1 := ⟨n12 - 1, by omega⟩
    obtain ⟨t1, t2, t3, t4, t5, t6, t7, t8, t9, t10, t11, t12⟩ := nz_odd ⟨k, by omega⟩
    dsimp only at t1 t2 t3 t4 t5 t6 t7 t8 t9 t10 t11 t12
    rw [bl9_s S a a' (n9' + 1) q _ t8, t1, t3, bl9_s S a a' n9' _ _ t9, t2, t4, bl12_s U o x1 x2 r32 r46 b b' n12' found _ t10, t5, t6, t7]
    have h1 := BR.step hf hf' hs (x := nI (k + 1)) (by omega) h
    have h2 := BR.step hf hf' hs (x := -(nI (k + 1))) (by omega) h1
    exact ih (k + 1) (by omega) n9' n12' _ _ (by omega) (by omega) h2
theorem bl_eq {S U : wPS} {a a' b b' o : Nat} {x1 x2 : Int32} {r32 r46 : Nat} (hf : ∀ x, f_X10_isFine U b x = f_X2_isGoodAt S a x) (hf' : ∀ x, f_X10_isFine U b' x = f_X2_isGoodAt S a' x) (hs : ∀ x : Int32, -50 ≤ x.toInt → x.toInt ≤ 50 → f_X12_slideOf U b b' x (-x) = (if 0 < ((f_X2_wayAt S a x) - (f_X2_wayAt S a' (-x))) then ((f_X2_wayAt S a x) - (f_X2_wayAt S a' (-x))) else -((f_X2_wayAt S a x) - (f_X2_wayAt S a' (-x)))) ∧ (f_X12_slideOf U b b' x (-x)).toInt < 9223372036854775807) : (f_X9_balancedShift S a a' = (51 : Int32) ∧ (f_X12_balance_L79 U o x1 x2 r32 r46 b b' 52 99 0).1 = (99 : Int32)) ∨ ((-50 ≤ (f_X9_balancedShift S a a').toInt ∧ (f_X9_balancedShift S a a').toInt ≤ 50) ∧ (f_X12_balance_L79 U o x1 x2 r32 r46 b b' 52 99 0).1 = f_X9_balancedShift S a a') := by
  have z0 : (0 : Int32).toInt = 0 := rfl
  have h0 : BR S a a' ((51 : Int32), (9223372036854775807 : Int64)) (99 : Int32) := Or.inl ⟨rfl, rfl⟩
  have h1 := BR.step hf hf' hs (x := 0) (by rw [z0]; decide) h0
  -- the same shift a second time changes nothing
  have h2 : s12 U b b' (0 : Int32) (s12 U b b' (0 : Int32) (99 : Int32)) = s12 U b b' (0 : Int32) (99 : Int32) := by
    unfold s12
    by_cases c1 : (f_X10_isFine U b 0) = (0 : Int32)
    · rw [if_pos c1, if_pos c1]
    · rw [if_neg c1]
      by_cases c2 : (f_X10_isFine U b' (-0)) = (0 : Int32)
      · rw [if_pos c2, if_neg c1, if_pos c2]
      · rw [if_neg c2, if_pos rfl, if_neg c1, if_neg c2, if_neg (by decide), if_pos (by
          have e := lcmp_self (f_X12_slideOf U b b' 0 (-0))
          rw [e]; decide)]
  have e9 : f_X9_balancedShift S a a' = (f_X9_balancedShift_L10 S a a' 102 (s9 S a a' 0 ((51 : Int32), (9223372036854775807 : Int64))).1 (s9 S a a' 0 ((51 : Int32), (9223372036854775807 : Int64))).2 (nI (2 * 0 + 1))).1 := by
    show (f_X9_balancedShift_L10 S a a' (102 + 1) ((51 : Int32), (9223372036854775807 : Int64)).1 ((51 : Int32), (9223372036854775807 : Int64)).2 (0 : Int32)).1 = _
    rw [bl9_s S a a' 102 _ 0 (by decide), show f_X9_nearestToZero (0 : Int32) = (0 : Int32) from by decide, show (0 : Int32) + (1 : Int32) = nI (2 * 0 + 1) from by decide]
  have e12 : f_X12_balance_L79 U o x1 x2 r32 r46 b b' 52 99 0 = f_X12_balance_L79 U o x1 x2 r32 r46 b b' 51 (s12 U b b' (0 : Int32) (99 : Int32)) (nI (0 + 1)) := by
    rw [show (52 : Nat) = 51 + 1 from rfl, bl12_s U o x1 x2 r32 r46 b b' 51 99 0 (by decide), show (1 : Int32) * (0 : Int32) = 0 from rfl, show (-1 : Int32) * (0 : Int32) = 0 from rfl, h2, show (0 : Int32) + (1 : Int32) = nI (0 + 1) from by decide]
  obtain ⟨q', h3, h4⟩ := bl_loop (o := o) (x1 := x1) (x2 := x2) (r32 := r32) (r46 := r46) hf hf' hs 50 0 rfl 102 51 _ _ (by decide) (by decide) h1
  rw [e9, e12, h4]
  rcases h3 with ⟨g1, g2⟩ | ⟨g1, g2, -⟩
  · exact Or.inl ⟨by rw [g1], g2⟩
  · exact Or.inr ⟨g1, g2⟩
theorem l2_e {α β ρ : Type} (x : α × β) (k : α → β → ρ) : l2 x k = k x.1 x.2 := rfl
theorem gi_of {S : wPS} {o2 o a b : Nat} {y : Int32} (m : RG o2 S o) (hW : wtB S []) (hA : isA S o 12) (c : f_X9_gearAt S o2 y = .ok a) (c3 : f_X12_gearAt S o y = b) : ∃ i : Nat, (i : Int) < (S.I o2 1).toInt ∧ S.q (S.f o2 0) i = a ∧ S.q (S.f (S.f o 0) 1) i = b := by
  rcases ga_cases y m hW hA with ⟨i, a0, b0, hy, hi, k1, k2, k3, ea, eb, g⟩ | ⟨k1, k2⟩
  · rw [k1] at c
    exact ⟨i, hi, ea.trans (Except.ok.inj c), eb.trans (k3.symm.trans c3)⟩
  · rw [k1] at c; cases c
theorem neg_i {x : Int32} (h : -1000 ≤ x.toInt ∧ x.toInt ≤ 1000) : (-x).toInt = -x.toInt := by
  have z0 : (0 : Int32).toInt = 0 := rfl
  rw [← Int32.zero_sub, t_sub (by rw [z0]; omega), z0]; omega
theorem neg_l {x : Int64} (h : -1000000000 ≤ x.toInt ∧ x.toInt ≤ 1000000000) : (-x).toInt = -x.toInt := by
  have z0 : (0 : Int64).toInt = 0 := rfl
  rw [← Int64.zero_sub, t64_sub (by rw [z0]; omega), z0]; omega
theorem slide_b {S U : wPS} {a a' b b' : Nat} {s t : Int32} (h1 : 6 ≤ (S.I a 1).toInt ∧ (S.I a 1).toInt ≤ 200) (h2 : 500 ≤ (S.I a 2).toInt ∧ (S.I a 2).toInt ≤ 10000) (hs : -100 ≤ s.toInt ∧ s.toInt ≤ 100) (h1' : 6 ≤ (S.I a' 1).toInt ∧ (S.I a' 1).toInt ≤ 200) (h2' : 500 ≤ (S.I a' 2).toInt ∧ (S.I a' 2).toInt ≤ 10000) (ht : -100 ≤ t.toInt ∧ t.toInt ≤ 100) (p1 : S.I a 1 = U.I b 1) (p2 : S.I a 2 = U.I b 2) (p1' : S.I a' 1 = U.I b' 1) (p2' : S.I a' 2 = U.I b' 2) : f_X12_slideOf U b b' s t = (if 0 < ((f_X2_wayAt S a s) - (f_X2_wayAt S a' t)) then ((f_X2_wayAt S a s) - (f_X2_wayAt S a' t)) else -((f_X2_wayAt S a s) - (f_X2_wayAt S a' t))) ∧ (f_X12_slideOf U b b' s t).toInt < 9223372036854775807 := by
  have w := (way_rng h1 h2 hs).2
  have w' := (way_rng h1' h2' ht).2
  have e : f_X12_slideOf U b b' s t = (if 0 < ((f_X2_wayAt S a s) - (f_X2_wayAt S a' t)) then ((f_X2_wayAt S a s) - (f_X2_wayAt S a' t)) else -((f_X2_wayAt S a s) - (f_X2_wayAt S a' t))) := by
    unfold f_X12_slideOf
    rw [way_eq h1 h2 hs p1 p2, way_eq h1' h2' ht p1' p2']
  refine ⟨e, ?_⟩
  have d : ((f_X2_wayAt S a s) - (f_X2_wayAt S a' t)).toInt = (f_X2_wayAt S a s).toInt - (f_X2_wayAt S a' t).toInt := t64_sub (by omega)
  rw [e]
  split
  · omega
  · rw [neg_l (by omega)]; omega
theorem ha_cases {S : wPS} {o2 o : Nat} (y : Int32) (m : RH o2 S o) (hW : wtB S []) (hA : isA S o 12) : (∃ (i a b : Nat), y = nI i ∧ (i : Int) < (S.I o2 3).toInt ∧ f_X9_hobAt S o2 y = .ok a ∧ ¬ f_X12_isHob S o y = 0 ∧ f_Jx4a65c_get_915e3 S (S.f o 1) y = b ∧ S.q (S.f o2 2) i = a ∧ S.q (S.f (S.f o 1) 1) i = b ∧ GRH S i a b) ∨ (f_X9_hobAt S o2 y = .error "java/lang/IndexOutOfBoundsException" ∧ f_X12_isHob S o y = 0) := by
  obtain ⟨hA2, ⟨e0, l0, n0⟩, mc, mg, -⟩ := m
  have R3 := ((hW.at hA2 List.not_mem_nil).to_9 hA2.2.1).R3
  have z0 : (0 : Int32).toInt = 0 := rfl
  have b0 : (0 : Int64).toInt = 0 := rfl
  have e6 : (S.I (S.f o 1) 2 - (1 : Int32)).toInt = (S.I (S.f o 1) 2).toInt - 1 := t_subr (n := 1) rfl (by omega)
  have hin : f_X12_isHob S o y = f_X12_in y.toInt64 0 ((S.I (S.f o 1) 2 - (1 : Int32)).toInt64) := rfl
  by_cases c : 0 ≤ y.toInt ∧ y.toInt < (S.I o2 3).toInt
  · have hc := cl_int (i := y) c.1
    refine Or.inl ⟨y.toNatClampNeg, S.q (S.f o2 2) y.toNatClampNeg, S.q (S.f (S.f o 1) 1) y.toNatClampNeg, nI_cl c.1, by omega, ?_, ?_, rfl, rfl, rfl, mg _ (by omega)⟩
    · unfold f_X9_hobAt
      rw [if_neg (fun q => by have := Int32.lt_iff_toInt_lt.mp q; omega), if_pos (Int32.lt_iff_toInt_lt.mpr c.2)]
    · rw [hin, in_ok (by rw [i64_i, i64_i, b0, e6]; omega)]; decide
  · refine Or.inr ⟨?_, ?_⟩
    · unfold f_X9_hobAt
      split
      · rfl
      · rename_i h1
        rw [if_neg (fun q => by have h2 := Int32.lt_iff_toInt_lt.mp q; have h3 : ¬ y.toInt < (0 : Int32).toInt := fun q => h1 (Int32.lt_iff_toInt_lt.mpr q); omega)]
    · rw [hin, in_no (by rw [i64_i, i64_i, b0, e6]; omega)]
theorem wayin_eq {S U : wPS} {a b : Nat} (h0 : 500 ≤ (S.I a 0).toInt ∧ (S.I a 0).toInt ≤ 10000) (h3 : 20000 ≤ (S.I a 3).toInt ∧ (S.I a 3).toInt ≤ 200000) (p0 : S.I a 0 = U.I b 0) (p3 : S.I a 3 = U.I b 4) : f_X11_approach U b = (f_X3_wayIn S a).toInt32 ∧ ((f_X3_wayIn S a).toInt32).toInt = (f_X3_wayIn S a).toInt ∧ 0 ≤ (f_X3_wayIn S a).toInt := by
  have l9 : (9 : Int64).toInt = 9 := rfl
  have e0 : f_X3_wayIn S a = f_X9_root ((((9 : Int64) * ((S.I a 0).toInt64)) / (4 : Int64)) * (((S.I a 3).toInt64) - (((9 : Int64) * ((S.I a 0).toInt64)) / (4 : Int64)))) := rfl
  have E0 : f_X11_approach U b = (f_X12_root ((((9 : Int64) * ((U.I b 0).toInt64)) / (4 : Int64)) * (((U.I b 4).toInt64) - (((9 : Int64) * ((U.I b 0).toInt64)) / (4 : Int64))))).toInt32 := rfl
  rw [← p0, ← p3] at E0
  have e1 : ((9 : Int64) * ((S.I a 0).toInt64)).toInt = 9 * (S.I a 0).toInt := by rw [t64_mul (by rw [l9, i64_i]; omega), l9, i64_i]
  have e2 : (((9 : Int64) * ((S.I a 0).toInt64)) / (4 : Int64)).toInt = 9 * (S.I a 0).toInt / 4 := by rw [t64_divl (n := 4) rfl (by rw [e1]; omega) (by decide), e1]
  obtain ⟨D, hD⟩ : ∃ z, ((9 : Int64) * ((S.I a 0).toInt64)) / (4 : Int64) = z := ⟨_, rfl⟩
  rw [hD] at e0 E0 e2
  have e3 : ((S.I a 3).toInt64 - D).toInt = (S.I a 3).toInt - D.toInt := by rw [t64_sub (by rw [i64_i]; omega), i64_i]
  obtain ⟨y, hy⟩ : ∃ z, (S.I a 3).toInt64 - D = z := ⟨_, rfl⟩
  rw [hy] at e0 E0 e3
  have u1 : D.toInt * y.toInt ≤ D.toInt * 200000 := Int.mul_le_mul_of_nonneg_left (by omega) (by omega)
  have u0 : D.toInt * -200000 ≤ D.toInt * y.toInt := Int.mul_le_mul_of_nonneg_left (by omega) (by omega)
  have e4 : (D * y).toInt = D.toInt * y.toInt := t64_mul (by omega)
  have r := rt9_le (x := D * y) (by rw [e4]; omega)
  rw [e0, E0, ← rt_eq (x := D * y) (by rw [e4]; omega)]
  refine ⟨rfl, ?_, r.1⟩
  rw [Int64.toInt_toInt32, Int.bmod_eq_of_le (by omega) (by omega)]
theorem can_eq {S U : wPS} {a b h mh : Nat} (r0 : 500 ≤ (S.I h 0).toInt ∧ (S.I h 0).toInt ≤ 10000) (r3 : 20000 ≤ (S.I h 3).toInt ∧ (S.I h 3).toInt ≤ 200000) (nx : ¬ nI (S.n (S.f h 2)) ≤ S.I h 5) (p1 : S.I a 1 = U.I b 1) (p2 : S.I a 2 = U.I b 2) (p3 : S.I a 3 = U.I b 3) (p8 : S.I a 8 = U.I b 8) (q0 : S.I h 0 = U.I mh 0) (q1 : S.I h 1 = U.I mh 1) (q3 : S.I h 3 = U.I mh 4) (q5 : S.I h 5 = U.I mh 5) (w : S.i (S.f h 2) (S.I h 5).toNatClampNeg = U.i (U.f mh 2) (S.I h 5).toNatClampNeg) : f_X11_canCut U mh b = if f_X3_fits S h a = (0 : Int32) then (0 : Int32) else if f_X3_isBlunt S h = (0 : Int32) then (1 : Int32) else (0 : Int32) := by
  obtain ⟨w1, w2, w3⟩ := wayin_eq (U := U) (b := mh) r0 r3 q0 q3
  unfold f_X11_canCut f_X3_fits f_X3_isBlunt
  rw [w1, ← p1, ← p2, ← p3, ← p8, ← q0, ← q1, ← q5, ← w, if_neg nx]
  have E : (0 : Int32) < lg_cmp (f_X3_wayIn S h) (S.I a 8).toInt64 ↔ S.I a 8 < (f_X3_wayIn S h).toInt32 := by
    constructor
    · intro z
      have z1 := lc_gt z
      rw [i64_i] at z1
      exact Int32.lt_iff_toInt_lt.mpr (by rw [w2]; exact z1)
    · intro z
      have z1 := Int32.lt_iff_toInt_lt.mp z
      rw [w2] at z1
      by_cases c : (0 : Int32) < lg_cmp (f_X3_wayIn S h) (S.I a 8).toInt64
      · exact c
      · have c1 := lc_ngt c
        rw [i64_i] at c1; omega
  have F : (200 : Int32) ≤ S.i (S.f h 2) (S.I h 5).toNatClampNeg ↔ ¬ S.i (S.f h 2) (S.I h 5).toNatClampNeg < (200 : Int32) := by
    constructor
    · intro z q
      have z1 := Int32.le_iff_toInt_le.mp z
      have q1 := Int32.lt_iff_toInt_lt.mp q
      omega
    · intro z
      refine Int32.le_iff_toInt_le.mpr ?_
      rcases Int.lt_or_le (S.i (S.f h 2) (S.I h 5).toNatClampNeg).toInt (200 : Int32).toInt with l | l
      · exact absurd (Int32.lt_iff_toInt_lt.mpr l) z
      · exact l
  by_cases A : S.I a 2 = S.I h 0
  · simp only [if_pos A, if_pos A.symm]
    by_cases B : S.I a 1 < S.I h 1
    · simp only [if_pos B]; rfl
    · simp only [if_neg B]
      by_cases W : S.i (S.f h 2) (S.I h 5).toNatClampNeg < (200 : Int32)
      · have W' : ¬ (200 : Int32) ≤ S.i (S.f h 2) (S.I h 5).toNatClampNeg := fun z => (F.mp z) W
        simp only [if_neg W', if_pos W]
        by_cases D : S.I a 8 = (-1 : Int32)
        · simp only [if_pos D]
          by_cases C : S.I h 1 = (1 : Int32)
          · simp only [if_pos C]; rfl
          · simp only [if_neg C]
            by_cases G : S.I a 3 < (0 : Int32)
            · simp only [if_pos G]; rfl
            · simp only [if_neg G]; rfl
        · simp only [if_neg D]
          by_cases H : S.I a 8 < (f_X3_wayIn S h).toInt32
          · simp only [if_pos H, if_pos (E.mpr H)]
            by_cases C : S.I h 1 = (1 : Int32)
            · simp only [if_pos C]; rfl
            · simp only [if_neg C]
              by_cases G : S.I a 3 < (0 : Int32)
              · simp only [if_pos G]; rfl
              · simp only [if_neg G]; rfl
          · have H' : ¬ (0 : Int32) < lg_cmp (f_X3_wayIn S h) (S.I a 8).toInt64 := fun z => H (E.mp z)
            simp only [if_neg H, if_neg H']
            by_cases C : S.I h 1 = (1 : Int32)
            · simp only [if_pos C]; rfl
            · simp only [if_neg C]
              by_cases G : S.I a 3 < (0 : Int32)
              · simp only [if_pos G]; rfl
              · simp only [if_neg G]; rfl
      · have W' : (200 : Int32) ≤ S.i (S.f h 2) (S.I h 5).toNatClampNeg := F.mpr W
        simp only [if_pos W', if_neg W]
        have z : ∀ c : Int32, (if c = (0 : Int32) then (0 : Int32) else if (1 : Int32) = (0 : Int32) then (1 : Int32) else (0 : Int32)) = 0 := fun c => by split <;> rfl
        rw [z]
        by_cases D : S.I a 8 = (-1 : Int32)
        · simp only [if_pos D]
        · simp only [if_neg D]
          by_cases H : S.I a 8 < (f_X3_wayIn S h).toInt32
          · simp only [if_pos H]
          · simp only [if_neg H]
  · have A' : ¬ S.I h 0 = S.I a 2 := fun z => A z.symm
    simp only [if_neg A, if_neg A']; rfl
/-- V is S but that the row w holds zeros from k to n -/
def ZR (S V : wPS) (w k n : Nat) : Prop := (V.L = S.L ∧ V.K = S.K ∧ V.n = S.n ∧ V.F = S.F ∧ V.r = S.r ∧ V.I = S.I) ∧ (∀ x, ¬ x = w → V.i x = S.i x) ∧ ∀ j, V.i w j = if k ≤ j ∧ j < n then (0 : Int32) else S.i w j
theorem ZR.step {S V : wPS} {w k n : Nat} (hk : k < n) (h : ZR (S.si w (upd (S.i w) k (0 : Int32))) V w (k + 1) n) : ZR S V w k n := by
  obtain ⟨h1, h2, h3⟩ := h
  refine ⟨h1, fun x hx => (h2 x hx).trans (up_nq (f := S.i) hx), fun j => ?_⟩
  rw [h3 j]
  have e : (S.si w (upd (S.i w) k (0 : Int32))).i w = upd (S.i w) k (0 : Int32) := up_qq (f := S.i)
  rw [e]
  unfold upd
  by_cases c : j = k
  · rw [if_neg (by omega), if_pos c, if_pos (by omega)]
  · rw [if_neg c]
    by_cases d : k + 1 ≤ j ∧ j < n
    · rw [if_pos d, if_pos (by omega)]
    · rw [if_neg d, if_neg (by omega)]
theorem ZR.rf {S : wPS} {w n : Nat} : ZR S S w n n := ⟨⟨rfl, rfl, rfl, rfl, rfl, rfl⟩, fun _ _ => rfl, fun j => by rw [if_neg (by omega)]⟩
theorem sh9 {S S3 S8 : wPS} {h n : Nat} (hn : S.n (S.f h 2) = n) (h20 : n ≤ 20) : ∀ (d k fuel : Nat) (S' : wPS), k + d = n → d < fuel → ZR S' (f_X3_sharpen_L23 S h S3 S8 fuel S' (nI k)).1 (S.f h 2) k n := by
  intro d
  induction d with
  | zero =>
    intro k fuel S' hk hf
    obtain ⟨f, rfl⟩ : ∃ z, fuel = z + 1 := ⟨fuel - 1, by omega⟩
    obtain rfl : k = n := by omega
    rw [f_X3_sharpen_L23_s, hn, if_pos (Int32.le_refl _)]
    exact ZR.rf
  | succ d ih =>
    intro k fuel S' hk hf
    obtain ⟨f, rfl⟩ : ∃ z, fuel = z + 1 := ⟨fuel - 1, by omega⟩
    have e1 : (nI n).toInt = (n : Int) := nI_toInt (by omega)
    have e2 : (nI k).toInt = (k : Int) := nI_toInt (by omega)
    have e3 := cl_int (i := nI k) (by omega)
    have e4 : (nI k).toNatClampNeg = k := by omega
    have e5 : nI k + (1 : Int32) = nI (k + 1) := Int32.toInt_inj.mp (by rw [t_addr (n := 1) rfl (by omega), e2, nI_toInt (by omega)]; omega)
    rw [f_X3_sharpen_L23_s, hn, if_neg (fun z => by have z1 := Int32.le_iff_toInt_le.mp z; omega), e4, e5]
    exact ZR.step (by omega) (ih (k + 1) f _ (by omega) (by omega))
theorem sh12 {S S26 S31 : wPS} {o r9 n : Nat} {x1 : Int32} (h20 : n ≤ 20) : ∀ (d k fuel : Nat) (S' : wPS), (S'.I r9 3).toInt = (n : Int) → k + d = n → d < fuel → ZR S' (f_X12_regrind_L74 S o x1 r9 S26 S31 fuel S' (nI k)).1 (S.f r9 2) k n := by
  intro d
  induction d with
  | zero =>
    intro k fuel S' hn hk hf
    obtain ⟨f, rfl⟩ : ∃ z, fuel = z + 1 := ⟨fuel - 1, by omega⟩
    obtain rfl : k = n := by omega
    have e2 : (nI k).toInt = (k : Int) := nI_toInt (by omega)
    rw [f_X12_regrind_L74_s, if_pos (Int32.le_iff_toInt_le.mpr (by omega))]
    exact ZR.rf
  | succ d ih =>
    intro k fuel S' hn hk hf
    obtain ⟨f, rfl⟩ : ∃ z, fuel = z + 1 := ⟨fuel - 1, by omega⟩
    have e2 : (nI k).toInt = (k : Int) := nI_toInt (by omega)
    have e3 := cl_int (i := nI k) (by omega)
    have e4 : (nI k).toNatClampNeg = k := by omega
    have e5 : nI k + (1 : Int32) = nI (k + 1) := Int32.toInt_inj.mp (by rw [t_addr (n := 1) rfl (by omega), e2, nI_toInt (by omega)]; omega)
    rw [f_X12_regrind_L74_s, if_neg (fun z => by have z1 := Int32.le_iff_toInt_le.mp z; omega), e4, e5]
    exact ZR.step (by omega) (ih (k + 1) f _ hn (by omega) (by omega))
theorem all_loop {S : wPS} {b N : Nat} (hN : (S.I b 1).toInt = (N : Int)) (h200 : N ≤ 200) (hb : cBD (S.i (S.f b 5))) : ∀ (n k : Nat) (w : Int32), k ≤ N → N - k < n → w.toInt = cPS (S.i (S.f b 5)) k → (f_X10_all_L4 S b n w (nI k)).1.toInt = cPS (S.i (S.f b 5)) N := by
  intro n
  induction n with
  | zero => intro k w _ h; omega
  | succ n ih =>
    intro k w hk hn hw
    have ek : (nI k).toInt = (k : Int) := nI_toInt (by omega)
    rw [f_X10_all_L4_s]
    by_cases c9 : k = N
    · rw [if_pos (Int32.le_iff_toInt_le.mpr (by omega)), ← c9]; exact hw
    · rw [if_neg (fun q => by have := Int32.le_iff_toInt_le.mp q; omega), nI_s (by omega), nI_cN (by omega)]
      have b1 := hb k
      have b2 := cPS_B hb (k := k) (by omega)
      refine ih (k + 1) _ (by omega) (by omega) ?_
      rw [t_add (by omega), hw]; rfl
theorem all_all {S : wPS} {b N : Nat} (hN : (S.I b 1).toInt = (N : Int)) (h200 : N ≤ 200) (hb : cBD (S.i (S.f b 5))) : (f_X10_all S b).toInt = cPS (S.i (S.f b 5)) N := all_loop hN h200 hb 201 0 0 (by omega) (by omega) rfl
theorem tot_loop {S : wPS} {b N : Nat} (hN : (S.I b 1).toInt = (N : Int)) (h200 : 1 ≤ N ∧ N ≤ 200) (hb : cBD (S.i (S.f b 5))) : ∀ (n k : Nat) (w1 w2 w3 : Int32), k ≤ N → N - k < n → w1.toInt = cPS (S.i (S.f b 5)) k → w2.toInt = cHI (S.i (S.f b 5)) N k → w3.toInt = cLO (S.i (S.f b 5)) N k → (f_X10_total_L15 S b n w1 w2 w3 (nI k)).2.1.toInt = cHI (S.i (S.f b 5)) N N ∧ (f_X10_total_L15 S b n w1 w2 w3 (nI k)).2.2.1.toInt = cLO (S.i (S.f b 5)) N N := by
  obtain ⟨e, he⟩ : ∃ z, S.i (S.f b 5) = z := ⟨_, rfl⟩
  have hA := all_all hN h200.2 hb
  rw [he] at hb hA ⊢
  obtain ⟨A, hA1⟩ : ∃ z, f_X10_all S b = z := ⟨_, rfl⟩
  rw [hA1] at hA
  intro n
  induction n with
  | zero => intro k w1 w2 w3 _ h; omega
  | succ n ih =>
    intro k w1 w2 w3 hk hn h1 h2 h3
    have ek : (nI k).toInt = (k : Int) := nI_toInt (by omega)
    rw [f_X10_total_L15_s, he]
    by_cases c9 : k = N
    · rw [if_pos (Int32.le_iff_toInt_le.mpr (by omega))]
      subst c9
      exact ⟨h2, h3⟩
    · rw [if_neg (fun q => by have := Int32.le_iff_toInt_le.mp q; omega), hA1]
      have b1 := hb k
      have b2 := cPS_B hb (k := k) (by omega)
      have b3 := cPS_B hb (k := N) h200.2
      have m1 := c_mb (n := (N : Int)) (p := cPS e k) (by omega) b2
      have m2 := c_mb (n := (k : Int)) (p := cPS e N) (by omega) b3
      have x1 : (S.I b 1 * w1).toInt = (N : Int) * cPS e k := by rw [t_mulx (by rw [hN, h1]; omega), hN, h1]
      have x2 : (nI k * A).toInt = (k : Int) * cPS e N := by rw [t_mulx (by rw [ek, hA]; omega), ek, hA]
      have x3 : (S.I b 1 * w1 - nI k * A).toInt = cST e N k := by rw [t_sub (by rw [x1, x2]; omega), x1, x2]; rfl
      obtain ⟨X, hX⟩ : ∃ z, S.I b 1 * w1 - nI k * A = z := ⟨_, rfl⟩
      rw [hX] at x3 ⊢
      rw [nI_s (by omega), nI_cN (by omega)]
      refine ih (k + 1) _ _ _ (by omega) (by omega) ?_ (c_max h2 x3) (c_min h3 x3)
      rw [t_add (by omega), h1]; rfl
theorem tot_all {S : wPS} {b N : Nat} (hN : (S.I b 1).toInt = (N : Int)) (h200 : 1 ≤ N ∧ N ≤ 200) (hb : cBD (S.i (S.f b 5))) : (f_X10_total S b).toInt = cFF (S.i (S.f b 5)) N := by
  obtain ⟨h1, h2⟩ := tot_loop hN h200 hb 201 0 0 0 0 (by omega) (by omega) rfl rfl rfl
  have bH := cHI_b hb h200.2 N (Nat.le_refl _)
  have bL := cLO_b hb h200.2 N (Nat.le_refl _)
  show (((f_X10_total_L15 S b 201 0 0 0 (nI 0)).2.1 - (f_X10_total_L15 S b 201 0 0 0 (nI 0)).2.2.1) / (S.I b 1)).toInt = _
  rw [t_divx (by rw [t_sub (by rw [h1, h2]; omega), h1, h2]; omega) (by omega), t_sub (by rw [h1, h2]; omega), h1, h2, hN]
  rfl
theorem tt_eq {S : wPS} {a b : Nat} (y : CY S a b) (p1 : S.I a 1 = S.I b 1) : S.I (S.f a 5) 2 = f_X10_total S b := by
  obtain ⟨-, -, -, -, hn, hii, hr, hs, hq⟩ := y
  exact Int32.toInt_inj.mp (hs.trans (tot_all (by rw [← p1]; exact hn.1.symm) (by omega) hr).symm)
/-! grades -/
theorem gd_lim : ∀ k : Fin 13, gradesF (nI k.val).toNatClampNeg = f_X12_limitOf (nI k.val) := by decide +kernel
theorem gd_loop (x : Int32) : ∀ (m f g k : Nat), k ≤ 13 → 13 - k ≤ m → m < f → m < g → f_X9_gradeOf_L2 x f (nI k) = f_X12_gradeOf_L2 x g (nI k) := by
  have l13 : (13 : Int32).toInt = 13 := rfl
  intro m
  induction m with
  | zero =>
    intro f g k hk hm hf hg
    obtain ⟨f', rfl⟩ : ∃ z, f = z + 1 := ⟨f - 1, by omega⟩
    obtain ⟨g', rfl⟩ : ∃ z, g = z + 1 := ⟨g - 1, by omega⟩
    have ek : (nI k).toInt = (k : Int) := nI_toInt (by omega)
    rw [f_X9_gradeOf_L2_s, f_X12_gradeOf_L2_s, if_pos (Int32.le_iff_toInt_le.mpr (by omega)), if_pos (Int32.le_iff_toInt_le.mpr (by omega))]
  | succ m ih =>
    intro f g k hk hm hf hg
    obtain ⟨f', rfl⟩ : ∃ z, f = z + 1 := ⟨f - 1, by omega⟩
    obtain ⟨g', rfl⟩ : ∃ z, g = z + 1 := ⟨g - 1, by omega⟩
    have ek : (nI k).toInt = (k : Int) := nI_toInt (by omega)
    rw [f_X9_gradeOf_L2_s, f_X12_gradeOf_L2_s]
    by_cases c : k = 13
    · rw [if_pos (Int32.le_iff_toInt_le.mpr (by omega)), if_pos (Int32.le_iff_toInt_le.mpr (by omega))]
    · have n13 : ¬ (13 : Int32) ≤ nI k := fun q => by have := Int32.le_iff_toInt_le.mp q; omega
      rw [if_neg n13, if_neg n13, gd_lim ⟨k, by omega⟩]
      by_cases d : x ≤ f_X12_limitOf (nI k)
      · rw [if_pos d, if_pos d]
      · rw [if_neg d, if_neg d, nI_s (by omega)]
        exact ih f' g' (k + 1) (by omega) (by omega) (by omega) (by omega)
theorem gd_eq (x : Int32) : f_X9_gradeOf x = f_X12_gradeOf x := gd_loop x 13 21 14 0 (by omega) (by omega) (by omega) (by omega)
theorem wp_loop {S : wPS} {c b : Nat} (h1 : nI (S.n (S.f c 0)) = S.I b 1) (h2 : S.i (S.f c 0) = S.i (S.f b 5)) : ∀ (n : Nat) (w k : Int32), f_X1_worstPitch_L13 S c n w k = f_X10_greatest_L4 S b n w k := by
  intro n
  induction n with
  | zero => intro w k; rfl
  | succ n ih => intro w k; rw [f_X1_worstPitch_L13_s, f_X10_greatest_L4_s, h1, h2, ih]
theorem max3 (A B C : Int32) : (if (if A < B then B else A) < C then C else (if A < B then B else A)) = (if A < (if B < C then C else B) then (if B < C then C else B) else A) := by
  have m1 := mmax_i A B
  have m2 := mmax_i (if A < B then B else A) C
  have m3 := mmax_i B C
  have m4 := mmax_i A (if B < C then C else B)
  exact Int32.toInt_inj.mp (by omega)
theorem gr_eq {S : wPS} {a b : Nat} (y : CY S a b) (p1 : S.I a 1 = S.I b 1) (p11 : S.I a 11 = S.I b 10) : f_X2_worstGrade S a = f_X10_grade S b := by
  have t := tt_eq y p1
  obtain ⟨-, -, -, -, hn, hii, hr, hs, hq⟩ := y
  have nb : nI (S.n (S.f (S.f a 5) 0)) = S.I b 1 := Int32.toInt_inj.mp (by rw [nI_toInt (by omega), ← p1]; exact hn.1)
  have w : f_X1_worstPitch S (S.f a 5) = f_X10_greatest S b := by
    show (f_X1_worstPitch_L13 S (S.f a 5) 201 (0 : Int32) (0 : Int32)).1 = (f_X10_greatest_L4 S b 201 (0 : Int32) (0 : Int32)).1
    rw [wp_loop nb hii]
  unfold f_X2_worstGrade f_X10_grade
  rw [w, t, p11, gd_eq, gd_eq, gd_eq, max3]
theorem eq_grade {S S4 S16 : wPS} {o1 o2 : Nat} {y1 r3 r20 : Int32} {r12 : Int32} {fo f5 : Nat → Int64} (mRGS : RGS o2 S o1) (mRC : RC o2 S o1) (hA : isA S o1 12) (hW : wtB S []) (hw : stp ([] : List (Nat × Nat)) [] [] S S4) (hm : stp [(12, 15)] [] [] S4 S16) (h : (∃ v, f_X9_grade S o2 y1 = .ok v ∧ r3 = 0 ∧ f5 = vp_updL fo (0 : Int32).toNatClampNeg (v.toInt64) ∧ S4 = S) ∨ (∃ E, f_X9_grade S o2 y1 = .error E ∧ r3 = wc_grade E ∧ f5 = fo ∧ S4 = S)) (h2 : (r12, S16) = f_X12_grade S4 o1 y1) (h3 : r20 = f_X12_thrown S16 o1) : r20 = r3 ∧ (r3 = 0 → f5 (0 : Int32).toNatClampNeg = r12.toInt64) := by
  have hS : S4 = S := by rcases h with ⟨_, _, _, _, e⟩ | ⟨_, _, _, _, e⟩ <;> exact e
  rw [hS] at h2
  have h' : (∃ v, f_X9_grade S o2 y1 = .ok v ∧ r3 = 0 ∧ f5 = vp_updL fo (0 : Int32).toNatClampNeg (v.toInt64)) ∨ (∃ E, f_X9_grade S o2 y1 = .error E ∧ r3 = wc_grade E ∧ f5 = fo) := h.imp (fun ⟨v, a, b, c, _⟩ => ⟨v, a, b, c⟩) (fun ⟨E, a, b, c, _⟩ => ⟨E, a, b, c⟩)
  have ok : ∀ v z, f_X9_grade S o2 y1 = .ok v → f_X12_grade S o1 y1 = (z, S.sI o1 15 0) → ((v.toInt64) : Int64) = z.toInt64 → r20 = r3 ∧ (r3 = 0 → f5 (0 : Int32).toNatClampNeg = r12.toInt64) := fun v z e1 e2 e3 => by
    rw [e2] at h2
    obtain ⟨rfl, rfl⟩ := Prod.mk.inj h2
    exact eqH (cv := fun v => v.toInt64) h' (Or.inl ⟨v, e1, by rw [h3]; exact sI_eq, e3⟩)
  have er : ∀ E n z, f_X9_grade S o2 y1 = .error E → wc_grade E = n → ¬ n = 0 → f_X12_grade S o1 y1 = (z, S.sI o1 15 n) → r20 = r3 ∧ (r3 = 0 → f5 (0 : Int32).toNatClampNeg = r12.toInt64) := fun E n z e1 e2 e3 e4 => by
    rw [e4] at h2
    obtain ⟨rfl, rfl⟩ := Prod.mk.inj h2
    exact eqH (cv := fun v => v.toInt64) h' (Or.inr ⟨E, e1, by rw [h3, e2]; exact sI_eq, by rw [e2]; exact e3⟩)
  rcases ga_cases y1 mRGS.1 hW hA with ⟨i, a, b, hy, hi, c1, c2, c3, ea, eb, g⟩ | ⟨c1, c2⟩
  · refine ok (f_X2_worstGrade S a) (f_X10_grade S b) ?_ ?_ ?_
    · unfold f_X9_grade; rw [eB_ok c1]
    · unfold f_X12_grade; rw [if_neg c2, c3]; rfl
    · have y := mRC.2.1 i hi
      obtain ⟨ga, gb, g0, p1, p2, p3, p4, p7, p8, p9, p10, p11⟩ := g
      rw [ea, eb] at y
      rw [gr_eq y p1 p11]
  · refine er "java/lang/IndexOutOfBoundsException" 1 0 ?_ (by decide +kernel) (by decide) ?_
    · unfold f_X9_grade; exact eB_er c1
    · unfold f_X12_grade; rw [if_pos c2]; rfl
theorem eq_setShift {S S4 S16 : wPS} {o1 o2 : Nat} {y1 y2 r3 r20 : Int32} {r12 : Int32} {fo f5 : Nat → Int64} (mRGS : RGS o2 S o1) (hA : isA S o1 12) (hW : wtB S []) (hw : stp [(2, 7)] [] [] S S4) (hm : stp [(10, 7), (12, 15)] [] [] S4 S16) (h : (∃ v, f_X9_setShift S o2 y1 y2 = .ok (v, S4) ∧ r3 = 0 ∧ f5 = vp_updL fo (0 : Int32).toNatClampNeg (v.toInt64)) ∨ (∃ E, f_X9_setShift S o2 y1 y2 = .error E ∧ r3 = wc_setShift E ∧ f5 = fo ∧ S4 = S)) (h2 : (r12, S16) = f_X12_setShift S4 o1 y1 y2) (h3 : r20 = f_X12_thrown S16 o1) : (r20 = r3 ∧ (r3 = 0 → f5 (0 : Int32).toNatClampNeg = r12.toInt64)) ∧ RGS o2 S16 o1 := by
  have ok : ∀ v z U T, f_X9_setShift S o2 y1 y2 = .ok (v, U) → f_X12_setShift U o1 y1 y2 = (z, T) → T.I o1 15 = 0 → ((v.toInt64) : Int64) = z.toInt64 → (RGS o2 T o1) → (r20 = r3 ∧ (r3 = 0 → f5 (0 : Int32).toNatClampNeg = r12.toInt64)) ∧ RGS o2 S16 o1 := fun v z U T e1 e2 e3 e4 e5 => by
    rcases h with ⟨w, g, g2, g3⟩ | ⟨E, g, -⟩
    · rw [e1] at g
      obtain ⟨rfl, rfl⟩ := Prod.mk.inj (Except.ok.inj g)
      rw [e2] at h2
      obtain ⟨rfl, rfl⟩ := Prod.mk.inj h2
      exact ⟨⟨(h3.trans e3).trans g2.symm, fun _ => by rw [g3, ← e4]; simp [vp_updL]⟩, e5⟩
    · rw [e1] at g; cases g
  have er : ∀ E n z, f_X9_setShift S o2 y1 y2 = .error E → wc_setShift E = n → ¬ n = 0 → f_X12_setShift S o1 y1 y2 = (z, S.sI o1 15 n) → (r20 = r3 ∧ (r3 = 0 → f5 (0 : Int32).toNatClampNeg = r12.toInt64)) ∧ RGS o2 S16 o1 := fun E n z e1 e2 e3 e4 => by
    rcases h with ⟨w, g, -⟩ | ⟨E2, g, g2, g3, g4⟩
    · rw [e1] at g; cases g
    · rw [e1] at g; cases g
      rw [g4, e4] at h2
      obtain ⟨rfl, rfl⟩ := Prod.mk.inj h2
      have t20 : r20 = n := h3.trans sI_eq
      have t3 : r3 = n := g2.trans e2
      exact ⟨⟨t20.trans t3.symm, fun q => absurd (t3.symm.trans q) e3⟩, RGS.sI hA mRGS⟩
  have ao0 : f_X9_allowOnly (0 : Int32) = .error "java/lang/UnsupportedOperationException" := rfl
  have ao1 : f_X9_allowOnly (1 : Int32) = .ok () := rfl
  have am : (-100 : Int32).toInt = -100 := rfl
  have ap : (100 : Int32).toInt = 100 := rfl
  rcases ga_cases y1 mRGS.1 hW hA with ⟨i, a, b, hy, hi, c1, c2, c3, ea, eb, g⟩ | ⟨c1, c2⟩
  · obtain ⟨ga, gb, g0, p1, p2, p3, p4, p7, p8, p9, p10, p11⟩ := g
    by_cases k : -100 ≤ y2.toInt ∧ y2.toInt ≤ 100
    · by_cases c9 : S.I a 9 = (0 : Int32)
      · have m' := RGS.set7 (v := y2) hA hi k mRGS
        rw [ea, eb] at m'
        have hab : ¬ b = a := fun e => by have k := gb.2.1; rw [e, ga.2.1] at k; exact absurd k (by decide)
        have c2' : ¬ f_X12_isGear (S.sI a 7 y2) o1 y1 = 0 := by rw [isg_sI mRGS.1.2.1.2.1 (Or.inl ga)]; exact c2
        have c3' : f_X12_gearAt (S.sI a 7 y2) o1 y1 = b := c3
        have h18 : (S.sI a 7 y2).I b 18 = (0 : Int32) := by rw [sI_no hab, ← p9]; exact c9
        refine ok (S.I a 7) (S.I b 7) (S.sI a 7 y2) (((S.sI a 7 y2).sI b 7 y2).sI o1 15 0) ?_ ?_ sI_eq (by rw [p7]) (RGS.sI hA m')
        · unfold f_X9_setShift; rw [eB_ok c1, eB_ok (rng_ok (by rw [am, ap]; exact k)), if_pos c9, eB_ok ao1]; rfl
        · unfold f_X12_setShift
          rw [if_neg c2', li64 (a := -100) (b := 100) rfl rfl k, if_neg (by decide), c3', l1_e, if_pos h18]
          show ((S.sI a 7 y2).I b 7, ((S.sI a 7 y2).sI b 7 y2).sI o1 15 0) = _
          rw [sI_no hab]
      · refine er "java/lang/UnsupportedOperationException" 3 0 ?_ (by decide +kernel) (by decide) ?_
        · unfold f_X9_setShift; rw [eB_ok c1, eB_ok (rng_ok (by rw [am, ap]; exact k)), if_neg c9]; exact eB_er ao0
        · unfold f_X12_setShift; rw [if_neg c2, li64 (a := -100) (b := 100) rfl rfl k, if_neg (by decide), c3, l1_e, if_neg (fun z => c9 (p9.trans z))]; rfl
    · refine er "java/lang/IllegalArgumentException" 2 0 ?_ (by decide +kernel) (by decide) ?_
      · unfold f_X9_setShift; rw [eB_ok c1]; exact eB_er (rng_er (by rw [am, ap]; exact k))
      · unfold f_X12_setShift; rw [if_neg c2, li64n (a := -100) (b := 100) rfl rfl k, if_pos rfl]; rfl
  · refine er "java/lang/IndexOutOfBoundsException" 1 0 ?_ (by decide +kernel) (by decide) ?_
    · unfold f_X9_setShift; exact eB_er c1
    · unfold f_X12_setShift; rw [if_pos c2]; rfl
theorem eq_balance {S S4 S16 : wPS} {o1 o2 : Nat} {y1 y2 r3 r20 : Int32} {r12 : Int32} {fo f5 : Nat → Int64} (mRGS : RGS o2 S o1) (hA : isA S o1 12) (hW : wtB S []) (hw : stp [(2, 7)] [] [] S S4) (hm : stp [(10, 7), (12, 15)] [] [] S4 S16) (h : (∃ v, f_X9_balance S o2 y1 y2 = .ok (v, S4) ∧ r3 = 0 ∧ f5 = vp_updL fo (0 : Int32).toNatClampNeg (v.toInt64)) ∨ (∃ E, f_X9_balance S o2 y1 y2 = .error E ∧ r3 = wc_balance E ∧ f5 = fo ∧ S4 = S)) (h2 : (r12, S16) = f_X12_balance S4 o1 y1 y2) (h3 : r20 = f_X12_thrown S16 o1) : (r20 = r3 ∧ (r3 = 0 → f5 (0 : Int32).toNatClampNeg = r12.toInt64)) ∧ RGS o2 S16 o1 := by
  have ok : ∀ v z U T, f_X9_balance S o2 y1 y2 = .ok (v, U) → f_X12_balance U o1 y1 y2 = (z, T) → T.I o1 15 = 0 → ((v.toInt64) : Int64) = z.toInt64 → (RGS o2 T o1) → (r20 = r3 ∧ (r3 = 0 → f5 (0 : Int32).toNatClampNeg = r12.toInt64)) ∧ RGS o2 S16 o1 := fun v z U T e1 e2 e3 e4 e5 => by
    rcases h with ⟨w, g, g2, g3⟩ | ⟨E, g, -⟩
    · rw [e1] at g
      obtain ⟨rfl, rfl⟩ := Prod.mk.inj (Except.ok.inj g)
      rw [e2] at h2
      obtain ⟨rfl, rfl⟩ := Prod.mk.inj h2
      exact ⟨⟨(h3.trans e3).trans g2.symm, fun _ => by rw [g3, ← e4]; simp [vp_updL]⟩, e5⟩
    · rw [e1] at g; cases g
  have er : ∀ E n z, f_X9_balance S o2 y1 y2 = .error E → wc_balance E = n → ¬ n = 0 → f_X12_balance S o1 y1 y2 = (z, S.sI o1 15 n) → (r20 = r3 ∧ (r3 = 0 → f5 (0 : Int32).toNatClampNeg = r12.toInt64)) ∧ RGS o2 S16 o1 := fun E n z e1 e2 e3 e4 => by
    rcases h with ⟨w, g, -⟩ | ⟨E2, g, g2, g3, g4⟩
    · rw [e1] at g; cases g
    · rw [e1] at g; cases g
      rw [g4, e4] at h2
      obtain ⟨rfl, rfl⟩ := Prod.mk.inj h2
      have t20 : r20 = n := h3.trans sI_eq
      have t3 : r3 = n := g2.trans e2
      exact ⟨⟨t20.trans t3.symm, fun q => absurd (t3.symm.trans q) e3⟩, RGS.sI hA mRGS⟩
  have ao0 : f_X9_allowOnly (0 : Int32) = .error "java/lang/UnsupportedOperationException" := rfl
  have ao1 : f_X9_allowOnly (1 : Int32) = .ok () := rfl
  rcases pr_cases y1 y2 mRGS.1 hW hA with ⟨i, a, b, i', a', b', hy, hy', c1, c1', c3, c3', g, g', c2, c2', q⟩ | ⟨c1, c2, c3⟩
  · obtain ⟨ga, gb, g0, p1, p2, p3, p4, p7, p8, p9, p10, p11⟩ := g
    obtain ⟨ga', gb', g0', p1', p2', p3', p4', p7', p8', p9', p10', p11'⟩ := g'
    rcases q with ⟨n1, n2, n3⟩ | ⟨n1, n2, n3⟩
    · have na : ¬ a = a' := by
        rcases np_cases (S := S) (a := a) (a' := a') with ⟨-, z, -⟩ | ⟨z, -⟩
        · exact z
        · rw [n1] at z; cases z
      by_cases c9 : S.I a 9 = (0 : Int32)
      · by_cases c9' : S.I a' 9 = (0 : Int32)
        · obtain ⟨j, hj, ea, eb⟩ := gi_of mRGS.1 hW hA c1 c3
          obtain ⟨j', hj', ea', eb'⟩ := gi_of mRGS.1 hW hA c1' c3'
          have oka := (hW.at ga List.not_mem_nil).to_2 ga.2.1
          have oka' := (hW.at ga' List.not_mem_nil).to_2 ga'.2.1
          have key : ∀ U : wPS, U.I b = S.I b → U.I b' = S.I b' → (f_X9_balancedShift S a a' = (51 : Int32) ∧ (f_X12_balance_L79 U o1 y1 y2 b b' b b' 52 99 0).1 = (99 : Int32)) ∨ ((-50 ≤ (f_X9_balancedShift S a a').toInt ∧ (f_X9_balancedShift S a a').toInt ≤ 50) ∧ (f_X12_balance_L79 U o1 y1 y2 b b' b b' 52 99 0).1 = f_X9_balancedShift S a a') := fun U h h' =>
            bl_eq (fun x => fine_eq (by rw [h]; exact p1)) (fun x => fine_eq (by rw [h']; exact p1')) (fun x l u => slide_b oka.R1 oka.R2 ⟨by omega, by omega⟩ oka'.R1 oka'.R2 (by rw [neg_i (by omega)]; omega) (by rw [h]; exact p1) (by rw [h]; exact p2) (by rw [h']; exact p1') (by rw [h']; exact p2'))
          rcases key S rfl rfl with ⟨k1, k2⟩ | ⟨k1, k2⟩
          · refine er "java/util/NoSuchElementException" 3 0 ?_ (by decide +kernel) (by decide) ?_
            · unfold f_X9_balance; rw [eB_ok c1, eB_ok c1', eB_ok n1, if_pos c9, if_pos c9', eB_ok ao1, if_neg (by rw [k1]; decide)]
            · unfold f_X12_balance
              rw [if_neg c2, if_neg c2', if_neg n2, c3, c3', l1_e, if_pos (by rw [← p9]; exact c9), l1_e, if_pos (by rw [← p9']; exact c9'), l1_e, l1_e, l2_e, if_pos k2]; rfl
          · obtain ⟨v, hv⟩ : ∃ z, f_X9_balancedShift S a a' = z := ⟨_, rfl⟩
            have ab : ∀ {x y : Nat}, isA S x 2 → isA S y 10 → ¬ x = y := fun hx hy e => by have k := hx.2.1; rw [e, hy.2.1] at k; exact absurd k (by decide)
            have jn : ¬ j = j' := fun e => na (by rw [← ea, ← ea', e])
            have nb : ¬ b = b' := by rw [← eb, ← eb']; exact (mRGS.1.2.2.2.2 j j' hj hj' jn).2
            obtain ⟨U, hU⟩ : ∃ z, (S.sI a 7 v).sI a' 7 (-v) = z := ⟨_, rfl⟩
            have Ub : U.I b = S.I b := by rw [← hU]; exact (sI_no (fun e => ab ga' gb e.symm)).trans (sI_no (fun e => ab ga gb e.symm))
            have Ub' : U.I b' = S.I b' := by rw [← hU]; exact (sI_no (fun e => ab ga' gb' e.symm)).trans (sI_no (fun e => ab ga gb' e.symm))
            have u3 : f_X12_gearAt U o1 y1 = b := by rw [← hU]; exact c3
            have u3' : f_X12_gearAt U o1 y2 = b' := by rw [← hU]; exact c3'
            have u2 : ∀ y, f_X12_isGear U o1 y = f_X12_isGear S o1 y := fun y => by
              rw [← hU, isg_sI (S := S.sI a 7 v) (a := a') (j := 7) (v := -v) mRGS.1.2.1.2.1 (Or.inl ga'), isg_sI mRGS.1.2.1.2.1 (Or.inl ga)]
            have ip : f_X12_isPair U o1 y1 y2 = f_X12_isPair S o1 y1 y2 := by
              unfold f_X12_isPair
              rw [u3, u3', c3, c3']
              show (if y1 = y2 then (0 : Int32) else if U.I b 2 = U.I b' 2 then if U.I b 3 + U.I b' 3 = 0 then (1 : Int32) else 0 else 0) = (if y1 = y2 then (0 : Int32) else if S.I b 2 = S.I b' 2 then if S.I b 3 + S.I b' 3 = 0 then (1 : Int32) else 0 else 0)
              rw [Ub, Ub']
            rcases key U Ub Ub' with ⟨z, -⟩ | ⟨-, k3⟩
            · rw [z] at k1; exact absurd k1.2 (by decide)
            · rw [hv] at k1 k3
              refine ok v v U ((((U.sI b 7 v).sI b' 7 (-v))).sI o1 15 0) ?_ ?_ sI_eq rfl (RGS.sI (S := (U.sI b 7 v).sI b' 7 (-v)) (by rw [← hU]; exact hA) ?_)
              · unfold f_X9_balance
                rw [eB_ok c1, eB_ok c1', eB_ok n1, if_pos c9, if_pos c9', eB_ok ao1, hv, if_pos (Int32.le_iff_toInt_le.mpr (show v.toInt ≤ 50 from k1.2)), l1_e, l1_e, hU]
              · unfold f_X12_balance
                rw [u2, u2, ip, if_neg c2, if_neg c2', if_neg n2, u3, u3', l1_e, if_pos (by rw [Ub, ← p9]; exact c9), l1_e, if_pos (by rw [Ub', ← p9']; exact c9'), l1_e, l1_e, l2_e, k3, if_neg (fun e => by
                  have h : v.toInt = 99 := by rw [e]; rfl
                  omega)]
                rfl
              · rw [← hU]
                obtain ⟨T, hT⟩ : ∃ z, (((S.sI a 7 v).sI a' 7 (-v)).sI b 7 v).sI b' 7 (-v) = z := ⟨_, rfl⟩
                have nv : (-v).toInt = -v.toInt := neg_i (by omega)
                have Ta : T.I a = (S.sI a 7 v).I a := by rw [← hT]; exact (sI_no (ab ga gb')).trans ((sI_no (ab ga gb)).trans (sI_no na))
                have Ta' : T.I a' = ((S.sI a 7 v).sI a' 7 (-v)).I a' := by rw [← hT]; exact (sI_no (ab ga' gb')).trans (sI_no (ab ga' gb))
                have Tb : T.I b = (((S.sI a 7 v).sI a' 7 (-v)).sI b 7 v).I b := by rw [← hT]; exact sI_no nb
                have Tb' : T.I b' = ((((S.sI a 7 v).sI a' 7 (-v)).sI b 7 v).sI b' 7 (-v)).I b' := by rw [← hT]
                have Sa' : (S.sI a 7 v).I a' = S.I a' := sI_no (fun e => na e.symm)
                have Sb : ((S.sI a 7 v).sI a' 7 (-v)).I b = S.I b := by rw [hU]; exact Ub
                have Sb' : (((S.sI a 7 v).sI a' 7 (-v)).sI b 7 v).I b' = S.I b' := (sI_no (fun e => nb e.symm)).trans (by rw [hU]; exact Ub')
                have ia : ∀ k, ¬ k = 7 → T.I a k = S.I a k := fun k h => by rw [Ta, sI_ne h]
                have ia' : ∀ k, ¬ k = 7 → T.I a' k = S.I a' k := fun k h => by rw [Ta', sI_ne h, Sa']
                have ib : ∀ k, ¬ k = 7 → T.I b k = S.I b k := fun k h => by rw [Tb, sI_ne h, Sb]
                have ib' : ∀ k, ¬ k = 7 → T.I b' k = S.I b' k := fun k h => by rw [Tb', sI_ne h, Sb']
                have a7 : T.I a 7 = v := by rw [Ta, sI_eq]
                have a7' : T.I a' 7 = -v := by rw [Ta', sI_eq]
                have b7 : T.I b 7 = v := by rw [Tb, sI_eq]
                have b7' : T.I b' 7 = -v := by rw [Tb', sI_eq]
                have oth : ∀ x : Nat, ¬ x = a → ¬ x = a' → ¬ x = b → ¬ x = b' → T.I x = S.I x := fun x h1 h2 h3 h4 => by rw [← hT]; exact (sI_no h4).trans ((sI_no h3).trans ((sI_no h2).trans (sI_no h1)))
                have nk : ∀ {x k : Nat}, isA S x k → k ≠ 2 → k ≠ 10 → T.I x = S.I x := fun hx h1 h2 => oth _ (fun e => h1 (by rw [← hx.2.1, e]; exact ga.2.1)) (fun e => h1 (by rw [← hx.2.1, e]; exact ga'.2.1)) (fun e => h2 (by rw [← hx.2.1, e]; exact gb.2.1)) (fun e => h2 (by rw [← hx.2.1, e]; exact gb'.2.1))
                rw [hT]
                refine RGS.upd (fun x => x = j ∨ x = j') (by rw [← hT]; rfl) (by rw [← hT]; rfl) (by rw [← hT]; rfl) (by rw [← hT]; rfl) (by rw [← hT]; rfl) (by rw [nk mRGS.1.1 (by decide) (by decide)]) (by rw [nk mRGS.1.2.1.2.1 (by decide) (by decide)]) (fun x hx hex => ?_) (fun x hx hex => ?_) mRGS
                · have A' : ∀ {x k : Nat}, isA S x k → isA T x k := fun h => by rw [← hT]; exact h
                  obtain ⟨gx, gy, g9, -⟩ := mRGS.1.2.2.2.1 x hx
                  rcases hex with e | e
                  · subst e
                    rw [ea] at g9
                    rw [ea, eb]
                    exact ⟨⟨A' ga, A' gb, by rw [ia 0 (by decide)]; exact g9, by rw [ia 1 (by decide), ib 1 (by decide)]; exact p1, by rw [ia 2 (by decide), ib 2 (by decide)]; exact p2, by rw [ia 3 (by decide), ib 3 (by decide)]; exact p3, by rw [ia 4 (by decide), ib 4 (by decide)]; exact p4, by rw [a7, b7], by rw [ia 8 (by decide), ib 8 (by decide)]; exact p8, by rw [ia 9 (by decide), ib 18 (by decide)]; exact p9, by rw [ia 10 (by decide), ib 11 (by decide)]; exact p10, by rw [ia 11 (by decide), ib 10 (by decide)]; exact p11⟩, by rw [a7]; omega, by rw [a7]; omega⟩
                  · subst e
                    rw [ea'] at g9
                    rw [ea', eb']
                    exact ⟨⟨A' ga', A' gb', by rw [ia' 0 (by decide)]; exact g9, by rw [ia' 1 (by decide), ib' 1 (by decide)]; exact p1', by rw [ia' 2 (by decide), ib' 2 (by decide)]; exact p2', by rw [ia' 3 (by decide), ib' 3 (by decide)]; exact p3', by rw [ia' 4 (by decide), ib' 4 (by decide)]; exact p4', by rw [a7', b7'], by rw [ia' 8 (by decide), ib' 8 (by decide)]; exact p8', by rw [ia' 9 (by decide), ib' 18 (by decide)]; exact p9', by rw [ia' 10 (by decide), ib' 11 (by decide)]; exact p10', by rw [ia' 11 (by decide), ib' 10 (by decide)]; exact p11'⟩, by rw [a7', nv]; omega, by rw [a7', nv]; omega⟩
                · have hxj : ¬ x = j := fun e => hex (Or.inl e)
                  have hxj' : ¬ x = j' := fun e => hex (Or.inr e)
                  obtain ⟨gx, gy, -⟩ := mRGS.1.2.2.2.1 x hx
                  obtain ⟨d1, d2⟩ := mRGS.1.2.2.2.2 x j hx hj hxj
                  obtain ⟨d1', d2'⟩ := mRGS.1.2.2.2.2 x j' hx hj' hxj'
                  rw [ea] at d1
                  rw [eb] at d2
                  rw [ea'] at d1'
                  rw [eb'] at d2'
                  exact ⟨oth _ d1 d1' (ab gx gb) (ab gx gb'), oth _ (fun e => ab ga gy e.symm) (fun e => ab ga' gy e.symm) d2 d2'⟩
        · refine er "java/lang/UnsupportedOperationException" 2 0 ?_ (by decide +kernel) (by decide) ?_
          · unfold f_X9_balance; rw [eB_ok c1, eB_ok c1', eB_ok n1, if_pos c9, if_neg c9']; exact eB_er ao0
          · unfold f_X12_balance
            rw [if_neg c2, if_neg c2', if_neg n2, c3, c3', l1_e, if_pos (by rw [← p9]; exact c9), l1_e, if_neg (fun z => c9' (p9'.trans z))]; rfl
      · refine er "java/lang/UnsupportedOperationException" 2 0 ?_ (by decide +kernel) (by decide) ?_
        · unfold f_X9_balance; rw [eB_ok c1, eB_ok c1', eB_ok n1, if_neg c9]; exact eB_er ao0
        · unfold f_X12_balance
          rw [if_neg c2, if_neg c2', if_neg n2, c3, l1_e, if_neg (fun z => c9 (p9.trans z))]; rfl
    · refine er "java/lang/UnsupportedOperationException" 2 0 ?_ (by decide +kernel) (by decide) ?_
      · unfold f_X9_balance; rw [eB_ok c1, eB_ok c1']; exact eB_er n1
      · unfold f_X12_balance; rw [if_neg c2, if_neg c2', if_pos n2]; rfl
  · refine er "java/lang/IndexOutOfBoundsException" 1 0 ?_ (by decide +kernel) (by decide) ?_
    · unfold f_X9_balance; exact c1 _ _
    · unfold f_X12_balance
      rcases c2 with z | ⟨z1, z2⟩
      · rw [if_pos z]; rfl
      · rw [if_neg z1, if_pos z2]; rfl
theorem eq_shoulder {S S4 S16 : wPS} {o1 o2 : Nat} {y1 y2 r3 r20 : Int32} {r12 : Int32} {fo f5 : Nat → Int64} (mRGS : RGS o2 S o1) (hA : isA S o1 12) (hW : wtB S []) (hw : stp [(2, 8)] [] [] S S4) (hm : stp [(10, 8), (12, 15)] [] [] S4 S16) (h : (∃ v, f_X9_shoulder S o2 y1 y2 = .ok (v, S4) ∧ r3 = 0 ∧ f5 = vp_updL fo (0 : Int32).toNatClampNeg (v.toInt64)) ∨ (∃ E, f_X9_shoulder S o2 y1 y2 = .error E ∧ r3 = wc_shoulder E ∧ f5 = fo ∧ S4 = S)) (h2 : (r12, S16) = f_X12_shoulder S4 o1 y1 y2) (h3 : r20 = f_X12_thrown S16 o1) : (r20 = r3 ∧ (r3 = 0 → f5 (0 : Int32).toNatClampNeg = r12.toInt64)) ∧ RGS o2 S16 o1 := by
  have ok : ∀ v z U T, f_X9_shoulder S o2 y1 y2 = .ok (v, U) → f_X12_shoulder U o1 y1 y2 = (z, T) → T.I o1 15 = 0 → ((v.toInt64) : Int64) = z.toInt64 → (RGS o2 T o1) → (r20 = r3 ∧ (r3 = 0 → f5 (0 : Int32).toNatClampNeg = r12.toInt64)) ∧ RGS o2 S16 o1 := fun v z U T e1 e2 e3 e4 e5 => by
    rcases h with ⟨w, g, g2, g3⟩ | ⟨E, g, -⟩
    · rw [e1] at g
      obtain ⟨rfl, rfl⟩ := Prod.mk.inj (Except.ok.inj g)
      rw [e2] at h2
      obtain ⟨rfl, rfl⟩ := Prod.mk.inj h2
      exact ⟨⟨(h3.trans e3).trans g2.symm, fun _ => by rw [g3, ← e4]; simp [vp_updL]⟩, e5⟩
    · rw [e1] at g; cases g
  have er : ∀ E n z, f_X9_shoulder S o2 y1 y2 = .error E → wc_shoulder E = n → ¬ n = 0 → f_X12_shoulder S o1 y1 y2 = (z, S.sI o1 15 n) → (r20 = r3 ∧ (r3 = 0 → f5 (0 : Int32).toNatClampNeg = r12.toInt64)) ∧ RGS o2 S16 o1 := fun E n z e1 e2 e3 e4 => by
    rcases h with ⟨w, g, -⟩ | ⟨E2, g, g2, g3, g4⟩
    · rw [e1] at g; cases g
    · rw [e1] at g; cases g
      rw [g4, e4] at h2
      obtain ⟨rfl, rfl⟩ := Prod.mk.inj h2
      have t20 : r20 = n := h3.trans sI_eq
      have t3 : r3 = n := g2.trans e2
      exact ⟨⟨t20.trans t3.symm, fun q => absurd (t3.symm.trans q) e3⟩, RGS.sI hA mRGS⟩
  have am1 : (-1 : Int32).toInt = -1 := rfl
  have a9 : (99999 : Int32).toInt = 99999 := rfl
  rcases ga_cases y1 mRGS.1 hW hA with ⟨i, a, b, hy, hi, c1, c2, c3, ea, eb, g⟩ | ⟨c1, c2⟩
  · by_cases c : -1 ≤ y2.toInt ∧ y2.toInt ≤ 99999
    · have m' := RGS.set8 (v := y2) hA hi mRGS
      rw [ea, eb] at m'
      obtain ⟨ga, gb, g0, -, -, -, -, -, p8, -⟩ := g
      have hab : ¬ b = a := fun e => by have k := gb.2.1; rw [e, ga.2.1] at k; exact absurd k (by decide)
      have c2' : ¬ f_X12_isGear (S.sI a 8 y2) o1 y1 = 0 := by rw [isg_sI mRGS.1.2.1.2.1 (Or.inl ga)]; exact c2
      have c3' : f_X12_gearAt (S.sI a 8 y2) o1 y1 = b := c3
      refine ok (S.I a 8) (S.I b 8) (S.sI a 8 y2) (((S.sI a 8 y2).sI b 8 y2).sI o1 15 0) ?_ ?_ sI_eq (by rw [p8]) (RGS.sI hA m')
      · unfold f_X9_shoulder; rw [eB_ok c1, eB_ok (rng_ok (by rw [am1, a9]; exact c))]; rfl
      · unfold f_X12_shoulder
        rw [if_neg c2', li64 (a := -1) (b := 99999) rfl rfl c, if_neg (by decide), c3']
        show ((S.sI a 8 y2).I b 8, ((S.sI a 8 y2).sI b 8 y2).sI o1 15 0) = _
        rw [sI_no hab]
    · refine er "java/lang/IllegalArgumentException" 2 0 ?_ (by decide +kernel) (by decide) ?_
      · unfold f_X9_shoulder; rw [eB_ok c1]; exact eB_er (rng_er (by rw [am1, a9]; exact c))
      · unfold f_X12_shoulder; rw [if_neg c2, li64n (a := -1) (b := 99999) rfl rfl c, if_pos rfl]; rfl
  · refine er "java/lang/IndexOutOfBoundsException" 1 0 ?_ (by decide +kernel) (by decide) ?_
    · unfold f_X9_shoulder; exact eB_er c1
    · unfold f_X12_shoulder; rw [if_pos c2]; rfl
theorem eq_cut {S S4 S16 : wPS} {o1 o2 : Nat} {y1 y2 y3 r3 r20 : Int32} {r12 : Int32} {fo f5 : Nat → Int64} (mRY : RY o2 S o1) (mRGS : RGS o2 S o1) (hA : isA S o1 12) (hW : wtB S []) (hw : stp [(2, 9), (2, 10), (2, 11), (2, 12), (3, 5), (28, 100)] [] [] S S4) (hm : stp [(10, 9), (10, 10), (10, 11), (10, 18), (11, 5), (12, 15), (30, 100)] [] [] S4 S16) (h : (∃ v, f_X9_cut S o2 y1 y2 y3 = .ok (v, S4) ∧ r3 = 0 ∧ f5 = vp_updL fo (0 : Int32).toNatClampNeg (v.toInt64)) ∨ (∃ E, f_X9_cut S o2 y1 y2 y3 = .error E ∧ r3 = wc_cut E ∧ f5 = fo ∧ S4 = S)) (h2 : (r12, S16) = f_X12_cut S4 o1 y1 y2 y3) (h3 : r20 = f_X12_thrown S16 o1) : (r20 = r3 ∧ (r3 = 0 → f5 (0 : Int32).toNatClampNeg = r12.toInt64)) ∧ RGS o2 S16 o1 ∧ RY o2 S16 o1 := by
  have ok : ∀ v z U T, f_X9_cut S o2 y1 y2 y3 = .ok (v, U) → f_X12_cut U o1 y1 y2 y3 = (z, T) → T.I o1 15 = 0 → ((v.toInt64) : Int64) = z.toInt64 → (RGS o2 T o1 ∧ RY o2 T o1) → (r20 = r3 ∧ (r3 = 0 → f5 (0 : Int32).toNatClampNeg = r12.toInt64)) ∧ RGS o2 S16 o1 ∧ RY o2 S16 o1 := fun v z U T e1 e2 e3 e4 e5 => by
    rcases h with ⟨w, g, g2, g3⟩ | ⟨E, g, -⟩
    · rw [e1] at g
      obtain ⟨rfl, rfl⟩ := Prod.mk.inj (Except.ok.inj g)
      rw [e2] at h2
      obtain ⟨rfl, rfl⟩ := Prod.mk.inj h2
      exact ⟨⟨(h3.trans e3).trans g2.symm, fun _ => by rw [g3, ← e4]; simp [vp_updL]⟩, e5⟩
    · rw [e1] at g; cases g
  have er : ∀ E n z, f_X9_cut S o2 y1 y2 y3 = .error E → wc_cut E = n → ¬ n = 0 → f_X12_cut S o1 y1 y2 y3 = (z, S.sI o1 15 n) → (r20 = r3 ∧ (r3 = 0 → f5 (0 : Int32).toNatClampNeg = r12.toInt64)) ∧ RGS o2 S16 o1 ∧ RY o2 S16 o1 := fun E n z e1 e2 e3 e4 => by
    rcases h with ⟨w, g, -⟩ | ⟨E2, g, g2, g3, g4⟩
    · rw [e1] at g; cases g
    · rw [e1] at g; cases g
      rw [g4, e4] at h2
      obtain ⟨rfl, rfl⟩ := Prod.mk.inj h2
      have t20 : r20 = n := h3.trans sI_eq
      have t3 : r3 = n := g2.trans e2
      exact ⟨⟨t20.trans t3.symm, fun q => absurd (t3.symm.trans q) e3⟩, ⟨RGS.sI hA mRGS, RY.sI hA mRY⟩⟩
  have ao0 : f_X9_allowOnly (0 : Int32) = .error "java/lang/UnsupportedOperationException" := rfl
  have ao1 : f_X9_allowOnly (1 : Int32) = .ok () := rfl
  have a0 : (0 : Int32).toInt = 0 := rfl
  have a500 : (500 : Int32).toInt = 500 := rfl
  rcases ga_cases y1 mRGS.1 hW hA with ⟨i, a, b, hy, hi, c1, c2, c3, ea, eb, g⟩ | ⟨c1, c2⟩
  · rcases ha_cases y2 mRY.1 hW hA with ⟨e, h, mh, hye, he, d1, d2, d3, eh, emh, gh⟩ | ⟨d1, d2⟩
    · by_cases k : 0 ≤ y3.toInt ∧ y3.toInt ≤ 500
      · obtain ⟨ga, gb, g0, p1, p2, p3, p4, p7, p8, p9, p10, p11⟩ := g
        obtain ⟨hA3, hA11, q0, q1, q3, q4, q5⟩ := gh
        have hyv := mRY.2.1 e he
        rw [eh, emh] at hyv
        obtain ⟨⟨r0, r1, r3, r4, r5⟩, ⟨ew, wA, wn⟩, ⟨emw, mwA⟩, en, ei⟩ := hyv
        have nxi : (nI (S.n (S.f h 2))).toInt = ((S.n (S.f h 2) : Nat) : Int) := nI_toInt (by omega)
        have nx : ¬ nI (S.n (S.f h 2)) ≤ S.I h 5 := fun z => by have z1 := Int32.le_iff_toInt_le.mp z; omega
        have c5 := cl_int (i := S.I h 5) r5.1
        have wq : S.i (S.f h 2) (S.I h 5).toNatClampNeg = S.i (S.f mh 2) (S.I h 5).toNatClampNeg := ei _ (by omega)
        by_cases c9 : S.I a 9 = (0 : Int32)
        · have can := can_eq (U := S) (a := a) (b := b) (h := h) (mh := mh) r0 r3 nx p1 p2 p3 p8 q0 q1 q3 q5 wq
          by_cases f : f_X3_fits S h a = (0 : Int32)
          · refine er "java/lang/UnsupportedOperationException" 3 0 ?_ (by decide +kernel) (by decide) ?_
            · unfold f_X9_cut; rw [eB_ok c1, eB_ok d1, eB_ok (rng_ok (by rw [a0, a500]; exact k)), if_pos c9, if_pos f]; exact eB_er ao0
            · unfold f_X12_cut; rw [if_neg c2, if_neg d2, li64 (a := 0) (b := 500) rfl rfl k, if_neg (by decide), c3, l1_e, d3, l1_e, if_pos (by rw [← p9]; exact c9), can, if_pos f, if_pos rfl]; rfl
          · by_cases bl : f_X3_isBlunt S h = (0 : Int32)
            · obtain ⟨t, ht⟩ : ∃ z, S.I a 1 / S.I h 1 = z := ⟨_, rfl⟩
              obtain ⟨n, hn⟩ : ∃ z : Nat, (S.I h 5).toNatClampNeg = z := ⟨_, rfl⟩
              obtain ⟨N, hN⟩ : ∃ z : Int32, (if nI (S.n (S.f h 2)) ≤ S.I h 5 + (1 : Int32) then (0 : Int32) else S.I h 5 + (1 : Int32)) = z := ⟨_, rfl⟩
              have ab : ∀ {x y kx ky : Nat}, isA S x kx → isA S y ky → kx ≠ ky → ¬ x = y := fun hx hy hk e => hk (by rw [← hx.2.1, e]; exact hy.2.1)
              have n1 : ¬ S.I h 1 ≤ (0 : Int32) := fun z => by have z1 := Int32.le_iff_toInt_le.mp z; omega
              -- the class's pool
              obtain ⟨P, hP⟩ : ∃ z, (((S.sI a 9 (1 : Int32)).sI a 10 ((S.sI a 9 (1 : Int32)).I h 1)).sI a 11 (((S.sI a 9 (1 : Int32)).sI a 10 ((S.sI a 9 (1 : Int32)).I h 1)).I h 4)).sI a 12 y3 = z := ⟨_, rfl⟩
              have hPa : ∀ x, ¬ x = a → P.I x = S.I x := fun x hx => by rw [← hP]; exact (sI_no hx).trans ((sI_no hx).trans ((sI_no hx).trans (sI_no hx)))
              have Ph : P.I h = S.I h := hPa h (ab hA3 ga (by decide))
              have Pak : ∀ j, ¬ j = 9 → ¬ j = 10 → ¬ j = 11 → ¬ j = 12 → P.I a j = S.I a j := fun j x1 x2 x3 x4 => by rw [← hP, sI_ne x4, sI_ne x3, sI_ne x2, sI_ne x1]
              have Pa9 : P.I a 9 = (1 : Int32) := by rw [← hP, sI_ne (by decide), sI_ne (by decide), sI_ne (by decide), sI_eq]
              have hnh : ¬ h = a := ab hA3 ga (by decide)
              have Pa10 : P.I a 10 = S.I h 1 := by rw [← hP, sI_ne (by decide), sI_ne (by decide), sI_eq]; exact congrFun (sI_no hnh) 1
              have Pa11 : P.I a 11 = S.I h 4 := by rw [← hP, sI_ne (by decide), sI_eq]; exact congrFun ((sI_no hnh).trans (sI_no hnh)) 4
              have Pi : P.i = S.i := by rw [← hP]; rfl
              have Pf : P.f h 2 = S.f h 2 := by rw [← hP]; rfl
              have Pn : P.n = S.n := by rw [← hP]; rfl
              obtain ⟨U, hU⟩ : ∃ z, (P.si (S.f h 2) (upd (S.i (S.f h 2)) n (S.i (S.f h 2) n + t))).sI h 5 N = z := ⟨_, rfl⟩
              have tn : f_X3_turnToNext P h (P.I a 1) = (S.I h 5, U) := by
                unfold f_X3_turnToNext
                rw [Pf, Pn, Pi, Ph, Pak 1 (by decide) (by decide) (by decide) (by decide), if_neg nx, if_neg n1, ht, hn, l1_e]
                by_cases z : nI (S.n (S.f h 2)) ≤ S.I h 5 + (1 : Int32)
                · rw [if_pos z, l1_e, ← hU, ← hN, if_pos z]
                · rw [if_neg z, l1_e, ← hU, ← hN, if_neg z]
              have Ux : ∀ x, ¬ x = a → ¬ x = h → U.I x = S.I x := fun x x1 x2 => by rw [← hU]; exact (sI_no x2).trans (hPa x x1)
              have Ub : U.I b = S.I b := Ux b (ab gb ga (by decide)) (ab gb hA3 (by decide))
              have Umh : U.I mh = S.I mh := Ux mh (ab hA11 ga (by decide)) (ab hA11 hA3 (by decide))
              have Uf : ∀ x j, U.f x j = S.f x j := fun x j => by rw [← hU, ← hP]; rfl
              have nwm : ¬ S.f mh 2 = S.f h 2 := ab mwA wA (by decide)
              have Uimw : U.i (S.f mh 2) = S.i (S.f mh 2) := by
                rw [← hU]
                show va_up P.i (S.f h 2) (upd (S.i (S.f h 2)) n (S.i (S.f h 2) n + t)) (S.f mh 2) = _
                rw [up_nq nwm, Pi]
              have u2 : f_X12_isGear U o1 y1 = f_X12_isGear S o1 y1 := by
                show f_X12_in y1.toInt64 0 ((U.I (U.f o1 0) 2 - (1 : Int32)).toInt64) = f_X12_in y1.toInt64 0 ((S.I (S.f o1 0) 2 - (1 : Int32)).toInt64)
                rw [Uf, Ux _ (ab mRGS.1.2.1.2.1 ga (by decide)) (ab mRGS.1.2.1.2.1 hA3 (by decide))]
              have u4 : f_X12_isHob U o1 y2 = f_X12_isHob S o1 y2 := by
                show f_X12_in y2.toInt64 0 ((U.I (U.f o1 1) 2 - (1 : Int32)).toInt64) = f_X12_in y2.toInt64 0 ((S.I (S.f o1 1) 2 - (1 : Int32)).toInt64)
                rw [Uf, Ux _ (ab mRY.1.2.1.2.1 ga (by decide)) (ab mRY.1.2.1.2.1 hA3 (by decide))]
              have u3 : f_X12_gearAt U o1 y1 = b := by rw [← hU, ← hP]; exact c3
              have u5 : f_Jx4a65c_get_915e3 U (U.f o1 1) y2 = mh := by rw [← hU, ← hP]; exact d3
              have canU := can_eq (U := U) (a := a) (b := b) (h := h) (mh := mh) r0 r3 nx (by rw [Ub]; exact p1) (by rw [Ub]; exact p2) (by rw [Ub]; exact p3) (by rw [Ub]; exact p8) (by rw [Umh]; exact q0) (by rw [Umh]; exact q1) (by rw [Umh]; exact q3) (by rw [Umh]; exact q5) (by rw [Uf, Uimw]; exact wq)
              -- the reference's pool
              obtain ⟨V, hV⟩ : ∃ z, U.si (S.f mh 2) (upd (S.i (S.f mh 2)) n (S.i (S.f mh 2) n + t)) = z := ⟨_, rfl⟩
              have e3 : (S.I mh 3).toInt = ((S.n (S.f h 2) : Nat) : Int) := en.symm
              have en1 : (S.I h 5 + (1 : Int32)).toInt = (S.I h 5).toInt + 1 := t_addr (n := 1) rfl (by omega)
              have NN : (S.I h 5 + (1 : Int32)) - (S.I h 5 + (1 : Int32)) / (S.I mh 3) * (S.I mh 3) = N := by
                obtain ⟨z1, z2, z3⟩ := rem_rng (x := S.I h 5 + (1 : Int32)) (y := S.I mh 3) (by omega) (by omega)
                refine Int32.toInt_inj.mp ?_
                rw [z3, ← hN]
                by_cases z : nI (S.n (S.f h 2)) ≤ S.I h 5 + (1 : Int32)
                · have z4 := Int32.le_iff_toInt_le.mp z
                  rw [if_pos z, a0, en1, e3, show (S.I h 5).toInt + 1 = ((S.n (S.f h 2) : Nat) : Int) by omega]
                  exact Int.emod_self
                · have z4 : ¬ (nI (S.n (S.f h 2))).toInt ≤ (S.I h 5 + (1 : Int32)).toInt := fun q => z (Int32.le_iff_toInt_le.mpr q)
                  rw [if_neg z]
                  exact Int.emod_eq_of_lt (by omega) (by omega)
              obtain ⟨T, hT⟩ : ∃ z, (((((V.sI mh 5 N).sI b 18 (1 : Int32)).sI b 9 y3).sI b 10 ((((V.sI mh 5 N).sI b 18 (1 : Int32)).sI b 9 y3).I mh 6)).sI b 11 (((((V.sI mh 5 N).sI b 18 (1 : Int32)).sI b 9 y3).sI b 10 ((((V.sI mh 5 N).sI b 18 (1 : Int32)).sI b 9 y3).I mh 6)).I mh 1)) = z := ⟨_, rfl⟩
              have VI : V.I = U.I := by rw [← hV]; rfl
              have h12 : f_X12_cut U o1 y1 y2 y3 = (S.I h 5, T.sI o1 15 0) := by
                unfold f_X12_cut
                rw [u2, u4, if_neg c2, if_neg d2, li64 (a := 0) (b := 500) rfl rfl k, if_neg (by decide), u3, l1_e, u5, l1_e, if_pos (by rw [Ub, ← p9]; exact c9), canU, if_neg f, if_pos bl, if_neg (by decide), Uf, Uimw, Umh, Ub, ← q5, ← p1, ← q1, ht, hn, hV, l1_e, show V.I mh 3 = S.I mh 3 from by rw [VI, Umh], NN, ← hT]
                rfl
              have Tx : ∀ x, ¬ x = b → ¬ x = mh → T.I x = U.I x := fun x x1 x2 => by rw [← hT]; exact (sI_no x1).trans ((sI_no x1).trans ((sI_no x1).trans ((sI_no x1).trans ((sI_no x2).trans (congrFun VI x)))))
              have Ta : T.I a = P.I a := (Tx a (ab ga gb (by decide)) (ab ga hA11 (by decide))).trans (by rw [← hU]; exact sI_no (ab ga hA3 (by decide)))
              have Th : T.I h = ((P.si (S.f h 2) (upd (S.i (S.f h 2)) n (S.i (S.f h 2) n + t))).sI h 5 N).I h := (Tx h (ab hA3 gb (by decide)) (ab hA3 hA11 (by decide))).trans (by rw [← hU])
              have Thk : ∀ j, ¬ j = 5 → T.I h j = S.I h j := fun j hj => by rw [Th, sI_ne hj]; exact congrFun Ph j
              have Th5 : T.I h 5 = N := by rw [Th, sI_eq]
              have nbm : ¬ b = mh := ab gb hA11 (by decide)
              have Tmh : T.I mh = (V.sI mh 5 N).I mh := by rw [← hT]; exact (sI_no (fun e => nbm e.symm)).trans ((sI_no (fun e => nbm e.symm)).trans ((sI_no (fun e => nbm e.symm)).trans (sI_no (fun e => nbm e.symm))))
              have Tmk : ∀ j, ¬ j = 5 → T.I mh j = S.I mh j := fun j hj => by rw [Tmh, sI_ne hj, VI, Umh]
              have Tm5 : T.I mh 5 = N := by rw [Tmh, sI_eq]
              have Tbk : ∀ j, ¬ j = 18 → ¬ j = 9 → ¬ j = 10 → ¬ j = 11 → T.I b j = S.I b j := fun j x1 x2 x3 x4 => by rw [← hT, sI_ne x4, sI_ne x3, sI_ne x2, sI_ne x1, sI_no nbm, VI, Ub]
              have Tb18 : T.I b 18 = (1 : Int32) := by rw [← hT, sI_ne (by decide), sI_ne (by decide), sI_ne (by decide), sI_eq]
              have nmb : ¬ mh = b := fun e => nbm e.symm
              have Tb10 : T.I b 10 = S.I mh 6 := by rw [← hT, sI_ne (by decide), sI_eq, sI_no nmb, sI_no nmb, sI_ne (by decide), VI, Umh]
              have Tb11 : T.I b 11 = S.I mh 1 := by rw [← hT, sI_eq, sI_no nmb, sI_no nmb, sI_no nmb, sI_ne (by decide), VI, Umh]
              have tL : T.L = S.L := by rw [← hT, ← hV, ← hU, ← hP]; rfl
              have tK : T.K = S.K := by rw [← hT, ← hV, ← hU, ← hP]; rfl
              have tn' : T.n = S.n := by rw [← hT, ← hV, ← hU, ← hP]; rfl
              have tF : T.F = S.F := by rw [← hT, ← hV, ← hU, ← hP]; rfl
              have tr : T.r = S.r := by rw [← hT, ← hV, ← hU, ← hP]; rfl
              have A' : ∀ {x k : Nat}, isA S x k → isA T x k := fun h => by unfold isA at h ⊢; rw [tL, tK, tn']; exact h
              have nk : ∀ {x k : Nat}, isA S x k → k ≠ 2 → k ≠ 3 → k ≠ 10 → k ≠ 11 → T.I x = S.I x := fun hx x1 x2 x3 x4 => (Tx _ (ab hx gb x3) (ab hx hA11 x4)).trans (Ux _ (ab hx ga x1) (ab hx hA3 x2))
              have ti : T.i = va_up U.i (S.f mh 2) (upd (S.i (S.f mh 2)) n (S.i (S.f mh 2) n + t)) := by rw [← hT, ← hV]; rfl
              have ui : U.i = va_up S.i (S.f h 2) (upd (S.i (S.f h 2)) n (S.i (S.f h 2) n + t)) := by
                rw [← hU]
                show va_up P.i (S.f h 2) _ = _
                rw [Pi]
              have Tiw : T.i (S.f h 2) = upd (S.i (S.f h 2)) n (S.i (S.f h 2) n + t) := by rw [ti, up_nq (fun e => nwm e.symm), ui, up_qq]
              have Timw : T.i (S.f mh 2) = upd (S.i (S.f mh 2)) n (S.i (S.f mh 2) n + t) := by rw [ti, up_qq]
              have Tix : ∀ x, ¬ x = S.f h 2 → ¬ x = S.f mh 2 → T.i x = S.i x := fun x x1 x2 => by rw [ti, up_nq x2, ui, up_nq x1]
              have Tf : ∀ x j, T.f x j = S.f x j := fun x j => by unfold wPS.f; rw [tF]
              have Nr : 0 ≤ N.toInt ∧ N.toInt < ((S.n (S.f h 2) : Nat) : Int) := by
                obtain ⟨z1, z2, z3⟩ := rem_rng (x := S.I h 5 + (1 : Int32)) (y := S.I mh 3) (by omega) (by omega)
                rw [NN] at z1 z2
                omega
              refine ok (S.I h 5) (S.I h 5) U (T.sI o1 15 0) ?_ h12 sI_eq rfl ?_
              · unfold f_X9_cut
                rw [eB_ok c1, eB_ok d1, eB_ok (rng_ok (by rw [a0, a500]; exact k)), if_pos c9, if_neg f, if_pos bl, eB_ok ao1, l1_e, l1_e, l1_e, l1_e, hP, tn]
                rfl
              · refine ⟨RGS.sI (by exact A' hA) (RGS.upd (fun x => x = i) tL tK tn' tF tr (by rw [nk mRGS.1.1 (by decide) (by decide) (by decide) (by decide)]) (by rw [nk mRGS.1.2.1.2.1 (by decide) (by decide) (by decide) (by decide)]) (fun x hx hex => ?_) (fun x hx hex => ?_) mRGS), RY.sI (by exact A' hA) (RY.upd tL tK tn' tF tr (by rw [nk mRGS.1.1 (by decide) (by decide) (by decide) (by decide)]) (by rw [nk mRY.1.2.1.2.1 (by decide) (by decide) (by decide) (by decide)]) he eh emh ?_ ?_ (fun x hx hn' => ?_) (fun x hx hn' => ?_) (fun x hx hn' => ?_) (fun x hx hn' => ?_) mRY)⟩
                · subst hex
                  obtain ⟨-, -, g9, -⟩ := mRGS.1.2.2.2.1 x hx
                  have s7 := mRGS.2 x hx
                  rw [ea] at g9 s7
                  rw [ea, eb]
                  have ia : ∀ j, ¬ j = 9 → ¬ j = 10 → ¬ j = 11 → ¬ j = 12 → T.I a j = S.I a j := fun j x1 x2 x3 x4 => by rw [Ta]; exact Pak j x1 x2 x3 x4
                  have i7 := ia 7 (by decide) (by decide) (by decide) (by decide)
                  exact ⟨⟨A' ga, A' gb, by rw [ia 0 (by decide) (by decide) (by decide) (by decide)]; exact g9, by rw [ia 1 (by decide) (by decide) (by decide) (by decide), Tbk 1 (by decide) (by decide) (by decide) (by decide)]; exact p1, by rw [ia 2 (by decide) (by decide) (by decide) (by decide), Tbk 2 (by decide) (by decide) (by decide) (by decide)]; exact p2, by rw [ia 3 (by decide) (by decide) (by decide) (by decide), Tbk 3 (by decide) (by decide) (by decide) (by decide)]; exact p3, by rw [ia 4 (by decide) (by decide) (by decide) (by decide), Tbk 4 (by decide) (by decide) (by decide) (by decide)]; exact p4, by rw [i7, Tbk 7 (by decide) (by decide) (by decide) (by decide)]; exact p7, by rw [ia 8 (by decide) (by decide) (by decide) (by decide), Tbk 8 (by decide) (by decide) (by decide) (by decide)]; exact p8, by rw [Ta, Pa9, Tb18], by rw [Ta, Pa10, Tb11]; exact q1, by rw [Ta, Pa11, Tb10]; exact q4⟩, by rw [i7]; exact s7.1, by rw [i7]; exact s7.2⟩
                · obtain ⟨gx, gy, -⟩ := mRGS.1.2.2.2.1 x hx
                  obtain ⟨x1, x2⟩ := mRGS.1.2.2.2.2 x i hx hi hex
                  rw [ea] at x1
                  rw [eb] at x2
                  exact ⟨(Tx _ (ab gx gb (by decide)) (ab gx hA11 (by decide))).trans (Ux _ x1 (ab gx hA3 (by decide))), (Tx _ x2 (ab gy hA11 (by decide))).trans (Ux _ (ab gy ga (by decide)) (ab gy hA3 (by decide)))⟩
                · exact ⟨A' hA3, A' hA11, by rw [Thk 0 (by decide), Tmk 0 (by decide)]; exact q0, by rw [Thk 1 (by decide), Tmk 1 (by decide)]; exact q1, by rw [Thk 3 (by decide), Tmk 4 (by decide)]; exact q3, by rw [Thk 4 (by decide), Tmk 6 (by decide)]; exact q4, by rw [Th5, Tm5]⟩
                · unfold HY
                  rw [Tf, Tf, tF, tn', Thk 0 (by decide), Thk 1 (by decide), Thk 3 (by decide), Thk 4 (by decide), Th5, Tmk 3 (by decide), Tiw, Timw]
                  refine ⟨⟨r0, r1, r3, r4, Nr⟩, ⟨ew, A' wA, wn⟩, ⟨emw, A' mwA⟩, en, fun j hj => ?_⟩
                  unfold upd
                  by_cases z : j = n
                  · rw [if_pos z, if_pos z, ← hn, wq]
                  · rw [if_neg z, if_neg z]; exact ei j hj
                · exact (Tx _ (ab hx gb (by decide)) (ab hx hA11 (by decide))).trans (Ux _ (ab hx ga (by decide)) hn')
                · exact (Tx _ (ab hx gb (by decide)) hn').trans (Ux _ (ab hx ga (by decide)) (ab hx hA3 (by decide)))
                · exact Tix x hn' (ab hx mwA (by decide))
                · exact Tix x (ab hx wA (by decide)) hn'
            · refine er "java/lang/UnsupportedOperationException" 3 0 ?_ (by decide +kernel) (by decide) ?_
              · unfold f_X9_cut; rw [eB_ok c1, eB_ok d1, eB_ok (rng_ok (by rw [a0, a500]; exact k)), if_pos c9, if_neg f, if_neg bl]; exact eB_er ao0
              · unfold f_X12_cut; rw [if_neg c2, if_neg d2, li64 (a := 0) (b := 500) rfl rfl k, if_neg (by decide), c3, l1_e, d3, l1_e, if_pos (by rw [← p9]; exact c9), can, if_neg f, if_neg bl, if_pos rfl]; rfl
        · refine er "java/lang/UnsupportedOperationException" 3 0 ?_ (by decide +kernel) (by decide) ?_
          · unfold f_X9_cut; rw [eB_ok c1, eB_ok d1, eB_ok (rng_ok (by rw [a0, a500]; exact k)), if_neg c9]; exact eB_er ao0
          · unfold f_X12_cut; rw [if_neg c2, if_neg d2, li64 (a := 0) (b := 500) rfl rfl k, if_neg (by decide), c3, l1_e, d3, l1_e, if_neg (fun z => c9 (p9.trans z))]; rfl
      · refine er "java/lang/IllegalArgumentException" 2 0 ?_ (by decide +kernel) (by decide) ?_
        · unfold f_X9_cut; rw [eB_ok c1, eB_ok d1]; exact eB_er (rng_er (by rw [a0, a500]; exact k))
        · unfold f_X12_cut; rw [if_neg c2, if_neg d2, li64n (a := 0) (b := 500) rfl rfl k, if_pos rfl]; rfl
    · refine er "java/lang/IndexOutOfBoundsException" 1 0 ?_ (by decide +kernel) (by decide) ?_
      · unfold f_X9_cut; rw [eB_ok c1]; exact eB_er d1
      · unfold f_X12_cut; rw [if_neg c2, if_pos d2]; rfl
  · refine er "java/lang/IndexOutOfBoundsException" 1 0 ?_ (by decide +kernel) (by decide) ?_
    · unfold f_X9_cut; exact eB_er c1
    · unfold f_X12_cut; rw [if_pos c2]; rfl
theorem eq_regrind {S S4 S16 : wPS} {o1 o2 : Nat} {y1 r3 r20 : Int32} {r12 : Int32} {fo f5 : Nat → Int64} (mRY : RY o2 S o1) (hA : isA S o1 12) (hW : wtB S []) (hw : stp [(3, 3), (3, 4), (28, 100)] [] [] S S4) (hm : stp [(11, 4), (11, 6), (12, 15), (30, 100)] [] [] S4 S16) (h : (∃ v, f_X9_regrind S o2 y1 = .ok (v, S4) ∧ r3 = 0 ∧ f5 = vp_updL fo (0 : Int32).toNatClampNeg (v.toInt64)) ∨ (∃ E, f_X9_regrind S o2 y1 = .error E ∧ r3 = wc_regrind E ∧ f5 = fo ∧ S4 = S)) (h2 : (r12, S16) = f_X12_regrind S4 o1 y1) (h3 : r20 = f_X12_thrown S16 o1) : (r20 = r3 ∧ (r3 = 0 → f5 (0 : Int32).toNatClampNeg = r12.toInt64)) ∧ RY o2 S16 o1 := by
  have ok : ∀ v z U T, f_X9_regrind S o2 y1 = .ok (v, U) → f_X12_regrind U o1 y1 = (z, T) → T.I o1 15 = 0 → ((v.toInt64) : Int64) = z.toInt64 → (RY o2 T o1) → (r20 = r3 ∧ (r3 = 0 → f5 (0 : Int32).toNatClampNeg = r12.toInt64)) ∧ RY o2 S16 o1 := fun v z U T e1 e2 e3 e4 e5 => by
    rcases h with ⟨w, g, g2, g3⟩ | ⟨E, g, -⟩
    · rw [e1] at g
      obtain ⟨rfl, rfl⟩ := Prod.mk.inj (Except.ok.inj g)
      rw [e2] at h2
      obtain ⟨rfl, rfl⟩ := Prod.mk.inj h2
      exact ⟨⟨(h3.trans e3).trans g2.symm, fun _ => by rw [g3, ← e4]; simp [vp_updL]⟩, e5⟩
    · rw [e1] at g; cases g
  have er : ∀ E n z, f_X9_regrind S o2 y1 = .error E → wc_regrind E = n → ¬ n = 0 → f_X12_regrind S o1 y1 = (z, S.sI o1 15 n) → (r20 = r3 ∧ (r3 = 0 → f5 (0 : Int32).toNatClampNeg = r12.toInt64)) ∧ RY o2 S16 o1 := fun E n z e1 e2 e3 e4 => by
    rcases h with ⟨w, g, -⟩ | ⟨E2, g, g2, g3, g4⟩
    · rw [e1] at g; cases g
    · rw [e1] at g; cases g
      rw [g4, e4] at h2
      obtain ⟨rfl, rfl⟩ := Prod.mk.inj h2
      have t20 : r20 = n := h3.trans sI_eq
      have t3 : r3 = n := g2.trans e2
      exact ⟨⟨t20.trans t3.symm, fun q => absurd (t3.symm.trans q) e3⟩, RY.sI hA mRY⟩
  have ao0 : f_X9_allowOnly (0 : Int32) = .error "java/lang/UnsupportedOperationException" := rfl
  have ao1 : f_X9_allowOnly (1 : Int32) = .ok () := rfl
  have l8 : (8 : Int32).toInt = 8 := rfl
  have l201 : (20100 : Int32).toInt = 20100 := rfl
  rcases ha_cases y1 mRY.1 hW hA with ⟨e, h, mh, hye, he, d1, d2, d3, eh, emh, gh⟩ | ⟨d1, d2⟩
  · obtain ⟨hA3, hA11, q0, q1, q3, q4, q5⟩ := gh
    have hyv := mRY.2.1 e he
    rw [eh, emh] at hyv
    obtain ⟨⟨r0, r1, r3, r4, r5⟩, ⟨ew, wA, wn⟩, ⟨emw, mwA⟩, en, ei⟩ := hyv
    by_cases c8 : (8 : Int32) ≤ S.I h 4
    · have c8' := Int32.le_iff_toInt_le.mp c8
      have e8 : S.I mh 6 = (8 : Int32) := by rw [← q4]; exact Int32.toInt_inj.mp (by omega)
      refine er "java/lang/UnsupportedOperationException" 2 0 ?_ (by decide +kernel) (by decide) ?_
      · unfold f_X9_regrind; rw [eB_ok d1, if_pos c8]; exact eB_er ao0
      · unfold f_X12_regrind; rw [if_neg d2, d3, l1_e, if_pos e8]; rfl
    · have n8 : ¬ S.I mh 6 = (8 : Int32) := fun z => c8 (by rw [q4, z]; exact Int32.le_refl _)
      by_cases c3 : S.I h 3 < (20100 : Int32)
      · have c3' := Int32.lt_iff_toInt_lt.mp c3
        refine er "java/lang/UnsupportedOperationException" 2 0 ?_ (by decide +kernel) (by decide) ?_
        · unfold f_X9_regrind; rw [eB_ok d1, if_neg c8, if_pos c3]; exact eB_er ao0
        · unfold f_X12_regrind; rw [if_neg d2, d3, l1_e, if_neg n8, if_neg (fun z => by have z1 := Int32.le_iff_toInt_le.mp z; rw [← q3] at z1; omega)]; rfl
      · have n3 : ¬ (S.I h 3).toInt < (20100 : Int32).toInt := fun z => c3 (Int32.lt_iff_toInt_lt.mpr z)
        have n8' : ¬ (8 : Int32).toInt ≤ (S.I h 4).toInt := fun z => c8 (Int32.le_iff_toInt_le.mpr z)
        have p3 : (20100 : Int32) ≤ S.I mh 4 := Int32.le_iff_toInt_le.mpr (by rw [← q3]; omega)
        have ab : ∀ {x y kx ky : Nat}, isA S x kx → isA S y ky → kx ≠ ky → ¬ x = y := fun hx hy hk e => hk (by rw [← hx.2.1, e]; exact hy.2.1)
        have k4 : (S.I h 4 + (1 : Int32)).toInt = (S.I h 4).toInt + 1 := t_addr (n := 1) rfl (by omega)
        have k3 : (S.I h 3 - (100 : Int32)).toInt = (S.I h 3).toInt - 100 := t_subr (n := 100) rfl (by omega)
        -- the class
        obtain ⟨P, hP⟩ : ∃ z, (S.sI h 3 (S.I h 3 - (100 : Int32))).sI h 4 ((S.sI h 3 (S.I h 3 - (100 : Int32))).I h 4 + (1 : Int32)) = z := ⟨_, rfl⟩
        have z9 := sh9 (S := S) (S3 := S.sI h 3 (S.I h 3 - (100 : Int32))) (S8 := P) (h := h) rfl wn (S.n (S.f h 2)) 0 21 P (by omega) (by omega)
        obtain ⟨U, hU⟩ : ∃ z, (f_X3_sharpen_L23 S h (S.sI h 3 (S.I h 3 - (100 : Int32))) P 21 P (nI 0)).1 = z := ⟨_, rfl⟩
        have sh : f_X3_sharpen S h = U := by
          unfold f_X3_sharpen
          rw [l1_e, l1_e, hP, l2_e, ← hU]; rfl
        rw [hU] at z9
        obtain ⟨⟨uL, uK, un, uF, ur, uI⟩, ui, uw⟩ := z9
        have Ph3 : P.I h 3 = S.I h 3 - (100 : Int32) := by rw [← hP, sI_ne (by decide), sI_eq]
        have Ph4 : P.I h 4 = S.I h 4 + (1 : Int32) := by rw [← hP, sI_eq, sI_ne (by decide)]
        have Phk : ∀ j, ¬ j = 3 → ¬ j = 4 → P.I h j = S.I h j := fun j x1 x2 => by rw [← hP, sI_ne x2, sI_ne x1]
        have Px : ∀ x, ¬ x = h → P.I x = S.I x := fun x hx => by rw [← hP]; exact (sI_no hx).trans (sI_no hx)
        have Ux : ∀ x, ¬ x = h → U.I x = S.I x := fun x hx => by rw [uI]; exact Px x hx
        have uL' : U.L = S.L := uL.trans (by rw [← hP]; rfl)
        have uK' : U.K = S.K := uK.trans (by rw [← hP]; rfl)
        have un' : U.n = S.n := un.trans (by rw [← hP]; rfl)
        have uF' : U.F = S.F := uF.trans (by rw [← hP]; rfl)
        have ur' : U.r = S.r := ur.trans (by rw [← hP]; rfl)
        have Uf : ∀ x j, U.f x j = S.f x j := fun x j => by unfold wPS.f; rw [uF']
        have Ui : ∀ x, ¬ x = S.f h 2 → U.i x = S.i x := fun x hx => (ui x hx).trans (by rw [← hP]; rfl)
        have Umh : U.I mh = S.I mh := Ux mh (ab hA11 hA3 (by decide))
        have u4 : f_X12_isHob U o1 y1 = f_X12_isHob S o1 y1 := by
          show f_X12_in y1.toInt64 0 ((U.I (U.f o1 1) 2 - (1 : Int32)).toInt64) = f_X12_in y1.toInt64 0 ((S.I (S.f o1 1) 2 - (1 : Int32)).toInt64)
          rw [Uf, Ux _ (ab mRY.1.2.1.2.1 hA3 (by decide))]
        have u5 : f_Jx4a65c_get_915e3 U (U.f o1 1) y1 = mh := by
          have g1 : f_Jx4a65c_get_915e3 U (U.f o1 1) y1 = U.q (U.f (U.f o1 1) 1) y1.toNatClampNeg := rfl
          have g2 : f_Jx4a65c_get_915e3 S (S.f o1 1) y1 = S.q (S.f (S.f o1 1) 1) y1.toNatClampNeg := rfl
          rw [g2] at d3
          rw [g1, Uf, Uf]
          unfold wPS.q
          rw [ur']; exact d3
        -- the reference
        obtain ⟨Q, hQ⟩ : ∃ z, (U.sI mh 4 (U.I mh 4 - (100 : Int32))).sI mh 6 ((U.sI mh 4 (U.I mh 4 - (100 : Int32))).I mh 6 + (1 : Int32)) = z := ⟨_, rfl⟩
        have Qm4 : Q.I mh 4 = S.I mh 4 - (100 : Int32) := by rw [← hQ, sI_ne (by decide), sI_eq, Umh]
        have Qm6 : Q.I mh 6 = S.I mh 6 + (1 : Int32) := by rw [← hQ, sI_eq, sI_ne (by decide), Umh]
        have Qmk : ∀ j, ¬ j = 4 → ¬ j = 6 → Q.I mh j = S.I mh j := fun j x1 x2 => by rw [← hQ, sI_ne x2, sI_ne x1, Umh]
        have Qx : ∀ x, ¬ x = mh → Q.I x = U.I x := fun x hx => by rw [← hQ]; exact (sI_no hx).trans (sI_no hx)
        have z12 := sh12 (S := U) (S26 := U.sI mh 4 (U.I mh 4 - (100 : Int32))) (S31 := Q) (o := o1) (r9 := mh) (x1 := y1) wn (S.n (S.f h 2)) 0 22 Q (by rw [Qmk 3 (by decide) (by decide)]; exact en.symm) (by omega) (by omega)
        obtain ⟨T, hT⟩ : ∃ z, (f_X12_regrind_L74 U o1 y1 mh (U.sI mh 4 (U.I mh 4 - (100 : Int32))) Q 22 Q (nI 0)).1 = z := ⟨_, rfl⟩
        rw [hT] at z12
        obtain ⟨⟨tL, tK, tn, tF, tr, tI⟩, ti, tw⟩ := z12
        have tL' : T.L = S.L := tL.trans ((by rw [← hQ]; rfl : Q.L = U.L).trans uL')
        have tK' : T.K = S.K := tK.trans ((by rw [← hQ]; rfl : Q.K = U.K).trans uK')
        have tn' : T.n = S.n := tn.trans ((by rw [← hQ]; rfl : Q.n = U.n).trans un')
        have tF' : T.F = S.F := tF.trans ((by rw [← hQ]; rfl : Q.F = U.F).trans uF')
        have tr' : T.r = S.r := tr.trans ((by rw [← hQ]; rfl : Q.r = U.r).trans ur')
        have Qi : Q.i = U.i := by rw [← hQ]; rfl
        have A' : ∀ {x k : Nat}, isA S x k → isA T x k := fun h => by unfold isA at h ⊢; rw [tL', tK', tn']; exact h
        have h12 : f_X12_regrind U o1 y1 = (T.I mh 6, T.sI o1 15 0) := by
          unfold f_X12_regrind
          rw [u4, if_neg d2, u5, l1_e, if_neg (by rw [Umh]; exact n8), if_pos (by rw [Umh]; exact p3), l1_e, l1_e, hQ, l2_e, show (0 : Int32) = nI 0 from rfl, hT]
          rfl
        have Tx : ∀ x, ¬ x = h → ¬ x = mh → T.I x = S.I x := fun x x1 x2 => by rw [tI, Qx x x2, Ux x x1]
        have nhm : ¬ h = mh := ab hA3 hA11 (by decide)
        have Th : T.I h = P.I h := by rw [tI, Qx h nhm, uI]
        have Tm : T.I mh = Q.I mh := by rw [tI]
        have nk : ∀ {x k : Nat}, isA S x k → k ≠ 3 → k ≠ 11 → T.I x = S.I x := fun hx x1 x2 => Tx _ (ab hx hA3 x1) (ab hx hA11 x2)
        have Tf : ∀ x j, T.f x j = S.f x j := fun x j => by unfold wPS.f; rw [tF']
        have nwm : ¬ S.f mh 2 = S.f h 2 := ab mwA wA (by decide)
        have Tiw : ∀ j, T.i (S.f h 2) j = if 0 ≤ j ∧ j < S.n (S.f h 2) then (0 : Int32) else S.i (S.f h 2) j := fun j => by
          rw [ti _ (by rw [Uf]; exact fun e => nwm e.symm), Qi, uw j]
          rw [show P.i = S.i from by rw [← hP]; rfl]
        have Timw : ∀ j, T.i (S.f mh 2) j = if 0 ≤ j ∧ j < S.n (S.f h 2) then (0 : Int32) else S.i (S.f mh 2) j := fun j => by
          have t9 := tw j
          rw [Uf] at t9
          rw [t9, Qi, Ui _ nwm]
        have Tix : ∀ x, ¬ x = S.f h 2 → ¬ x = S.f mh 2 → T.i x = S.i x := fun x x1 x2 => by rw [ti x (by rw [Uf]; exact x2), Qi, Ui x x1]
        refine ok (U.I h 4) (T.I mh 6) U (T.sI o1 15 0) ?_ h12 sI_eq (by rw [Tm, Qm6, uI, Ph4, q4]) (RY.sI (by exact A' hA) (RY.upd tL' tK' tn' tF' tr' (by rw [nk mRY.1.1 (by decide) (by decide)]) (by rw [nk mRY.1.2.1.2.1 (by decide) (by decide)]) he eh emh ?_ ?_ (fun x hx hn' => Tx x hn' (ab hx hA11 (by decide))) (fun x hx hn' => Tx x (ab hx hA3 (by decide)) hn') (fun x hx hn' => Tix x hn' (ab hx mwA (by decide))) (fun x hx hn' => Tix x (ab hx wA (by decide)) hn') mRY))
        · unfold f_X9_regrind
          rw [eB_ok d1, if_neg c8, if_neg c3, eB_ok ao1, l1_e, sh]
        · exact ⟨A' hA3, A' hA11, by rw [Th, Tm, Phk 0 (by decide) (by decide), Qmk 0 (by decide) (by decide)]; exact q0, by rw [Th, Tm, Phk 1 (by decide) (by decide), Qmk 1 (by decide) (by decide)]; exact q1, by rw [Th, Tm, Ph3, Qm4, q3], by rw [Th, Tm, Ph4, Qm6, q4], by rw [Th, Tm, Phk 5 (by decide) (by decide), Qmk 5 (by decide) (by decide)]; exact q5⟩
        · unfold HY
          rw [Tf, Tf, tF', tn', Th, Tm, Phk 0 (by decide) (by decide), Phk 1 (by decide) (by decide), Ph3, Ph4, Phk 5 (by decide) (by decide), Qmk 3 (by decide) (by decide), k3, k4]
          refine ⟨⟨r0, r1, by omega, by omega, r5⟩, ⟨ew, A' wA, wn⟩, ⟨emw, A' mwA⟩, en, fun j hj => ?_⟩
          rw [Tiw, Timw, if_pos ⟨Nat.zero_le _, hj⟩, if_pos ⟨Nat.zero_le _, hj⟩]
  · refine er "java/lang/IndexOutOfBoundsException" 1 0 ?_ (by decide +kernel) (by decide) ?_
    · unfold f_X9_regrind; exact eB_er d1
    · unfold f_X12_regrind; rw [if_pos d2]; rfl
/-! what is measured of a chart -/
def cMF (S U : wPS) (c s0 : Nat) : Prop := U.L = S.L ∧ U.K = S.K ∧ U.n = S.n ∧ U.F = S.F ∧ U.r = S.r ∧ (∀ x, ¬ x = c → U.I x = S.I x) ∧ ∀ x, ¬ x = s0 → U.i x = S.i x
theorem cMF.step {S U : wPS} {c s0 : Nat} {f : Nat → Int32} {v : Int32} (h : cMF S U c s0) : cMF S ((U.si s0 f).sI c 2 v) c s0 := by
  obtain ⟨h1, h2, h3, h4, h5, h6, h7⟩ := h
  refine ⟨h1, h2, h3, h4, h5, fun x hx => ?_, fun x hx => ?_⟩
  · rw [sI_no hx]; exact h6 x hx
  · show va_up U.i s0 f x = S.i x
    rw [up_nq hx]; exact h7 x hx
theorem meas_loop {S : wPS} {c N : Nat} (hN : S.n (S.f c 0) = N) (h6 : 1 ≤ N ∧ N ≤ 200) (hb : cBD (S.i (S.f c 0))) (hne : ¬ S.f c 0 = S.f c 1) : ∀ (n k : Nat) (U : wPS) (w3 w5 w7 : Int64), k ≤ N → N - k < n → cMF S U c (S.f c 1) → w3.toInt = cPS (S.i (S.f c 0)) k → w5.toInt = cHI (S.i (S.f c 0)) N k → w7.toInt = cLO (S.i (S.f c 0)) N k → (∀ j, j < k → (U.i (S.f c 1) j).toInt = cQQ (S.i (S.f c 0)) N j) → (k = 0 ∨ (U.I c 2).toInt = (cHI (S.i (S.f c 0)) N k - cLO (S.i (S.f c 0)) N k) / (N : Int)) → cMF S (f_X1_measure_L19 S c n U w3 w5 w7 (nI k)).1 c (S.f c 1) ∧ (∀ j, j < N → ((f_X1_measure_L19 S c n U w3 w5 w7 (nI k)).1.i (S.f c 1) j).toInt = cQQ (S.i (S.f c 0)) N j) ∧ ((f_X1_measure_L19 S c n U w3 w5 w7 (nI k)).1.I c 2).toInt = cFF (S.i (S.f c 0)) N := by
  obtain ⟨e, he⟩ : ∃ z, S.i (S.f c 0) = z := ⟨_, rfl⟩
  have hA := soc_all hN h6.2 hb
  rw [he] at hb hA ⊢
  obtain ⟨A, hA1⟩ : ∃ z, f_X1_sumOfClass S c (0 : Int32) (1 : Int32) = z := ⟨_, rfl⟩
  rw [hA1] at hA
  have eN : (nI N).toInt = (N : Int) := nI_toInt (by omega)
  have eN64 : (nI N).toInt64.toInt = (N : Int) := by rw [i64_i]; exact eN
  have A64 : A.toInt64.toInt = cPS e N := by rw [i64_i]; exact hA
  intro n
  induction n with
  | zero => intro k U w3 w5 w7 _ h; omega
  | succ n ih =>
    intro k U w3 w5 w7 hk hn hM h3 h5 h7 hq hf
    have ek : (nI k).toInt = (k : Int) := nI_toInt (by omega)
    have ek64 : (nI k).toInt64.toInt = (k : Int) := by rw [i64_i]; exact ek
    rw [f_X1_measure_L19_s, hN]
    by_cases c9 : k = N
    · rw [if_pos (Int32.le_iff_toInt_le.mpr (by omega))]
      subst c9
      exact ⟨hM, hq, hf.resolve_left (by omega)⟩
    · rw [if_neg (fun q => by have := Int32.le_iff_toInt_le.mp q; omega), hA1]
      have b1 := hb k
      have b2 := cPS_B hb (k := k) (by omega)
      have b3 := cPS_B hb (k := N) h6.2
      have m1 := c_mb (n := (N : Int)) (p := cPS e k) (by omega) b2
      have m2 := c_mb (n := (k : Int)) (p := cPS e N) (by omega) b3
      have x1 : ((nI N).toInt64 * w3).toInt = (N : Int) * cPS e k := by rw [t64_mul (by rw [eN64, h3]; omega), eN64, h3]
      have x2 : ((nI k).toInt64 * A.toInt64).toInt = (k : Int) * cPS e N := by rw [t64_mul (by rw [ek64, A64]; omega), ek64, A64]
      have x3 : ((nI N).toInt64 * w3 - (nI k).toInt64 * A.toInt64).toInt = cST e N k := by rw [t64_sub (by rw [x1, x2]; omega), x1, x2]; rfl
      obtain ⟨X, hX⟩ : ∃ z, (nI N).toInt64 * w3 - (nI k).toInt64 * A.toInt64 = z := ⟨_, rfl⟩
      rw [hX] at x3 ⊢
      have bs := cST_b hb h6.2 (k := k) hk
      have xm := c_max64 h5 x3
      have xn := c_min64 h7 x3
      have bH := cHI_b hb h6.2 (k + 1) (by omega)
      have bL := cLO_b hb h6.2 (k + 1) (by omega)
      obtain ⟨H, hH⟩ : ∃ z, (if X < w5 then w5 else X) = z := ⟨_, rfl⟩
      obtain ⟨L, hL⟩ : ∃ z, (if X < w7 then X else w7) = z := ⟨_, rfl⟩
      rw [hH] at xm ⊢
      rw [hL] at xn ⊢
      have xH : H.toInt = cHI e N (k + 1) := xm
      have xL : L.toInt = cLO e N (k + 1) := xn
      have d1 : (H - L).toInt = cHI e N (k + 1) - cLO e N (k + 1) := by rw [t64_sub (by rw [xH, xL]; omega), xH, xL]
      have d2 : ((H - L) / (nI N).toInt64).toInt = (cHI e N (k + 1) - cLO e N (k + 1)) / (N : Int) := by rw [t64_divl (n := (N : Int)) eN64 (by rw [d1]; omega) (by omega), d1]
      have d3 : (cHI e N (k + 1) - cLO e N (k + 1)) / (N : Int) ≤ cHI e N (k + 1) - cLO e N (k + 1) := Int.ediv_le_self _ (by omega)
      have d4 : 0 ≤ (cHI e N (k + 1) - cLO e N (k + 1)) / (N : Int) := Int.ediv_nonneg (by omega) (by omega)
      have q1 : (X / (nI N).toInt64).toInt = cQQ e N k := by rw [t64_tdiv (by omega) (by omega), x3, eN64]; rfl
      have q2 := td_b (a := cST e N k) (b := (N : Int)) (B := 40000000) (by omega) (by omega)
      dsimp only [l1]
      rw [nI_s (by omega), nI_cN (by omega)]
      have iE : ((U.si (S.f c 1) (upd (U.i (S.f c 1)) k (X / (nI N).toInt64).toInt32)).sI c 2 ((H - L) / (nI N).toInt64).toInt32).i (S.f c 0) = e := by
        show va_up U.i (S.f c 1) _ (S.f c 0) = e
        rw [up_nq hne, hM.2.2.2.2.2.2 _ hne]; exact he
      have iQ : ((U.si (S.f c 1) (upd (U.i (S.f c 1)) k (X / (nI N).toInt64).toInt32)).sI c 2 ((H - L) / (nI N).toInt64).toInt32).i (S.f c 1) = upd (U.i (S.f c 1)) k (X / (nI N).toInt64).toInt32 := by
        show va_up U.i (S.f c 1) _ (S.f c 1) = _
        rw [up_qq]
      rw [iE]
      refine ih (k + 1) _ _ _ _ (by omega) (by omega) hM.step ?_ xH xL (fun j hj => ?_) (Or.inr ?_)
      · rw [t64_add (by rw [i64_i]; omega), i64_i, h3]; rfl
      · rw [iQ]
        unfold upd
        by_cases hjk : j = k
        · rw [if_pos hjk, c_l2i (by rw [q1]; unfold cQQ; omega), q1, hjk]
        · rw [if_neg hjk]; exact hq j (by omega)
      · rw [sI_eq, c_l2i (by rw [d2]; omega), d2]
theorem meas {S : wPS} {c N : Nat} (hN : S.n (S.f c 0) = N) (h6 : 1 ≤ N ∧ N ≤ 200) (hb : cBD (S.i (S.f c 0))) (hne : ¬ S.f c 0 = S.f c 1) : cMF S (f_X1_measure S c) c (S.f c 1) ∧ (∀ j, j < N → ((f_X1_measure S c).i (S.f c 1) j).toInt = cQQ (S.i (S.f c 0)) N j) ∧ ((f_X1_measure S c).I c 2).toInt = cFF (S.i (S.f c 0)) N :=
  meas_loop hN h6 hb hne 201 0 S 0 0 0 (by omega) (by omega) ⟨rfl, rfl, rfl, rfl, rfl, fun _ _ => rfl, fun _ _ => rfl⟩ rfl rfl rfl (fun j hj => absurd hj (Nat.not_lt_zero j)) (Or.inl rfl)
theorem eq_chart {S S4 S16 : wPS} {o1 o2 : Nat} {y1 y2 y3 r3 r20 : Int32} {r12 : Int32} {fo f5 : Nat → Int64} (mRGS : RGS o2 S o1) (mRC : RC o2 S o1) (hA : isA S o1 12) (hW : wtB S []) (hw : stp [(1, 2), (25, 100), (26, 100)] [] [] S S4) (hm : stp [(12, 15), (29, 100)] [] [] S4 S16) (h : (∃ v, f_X9_chart S o2 y1 y2 y3 = .ok (v, S4) ∧ r3 = 0 ∧ f5 = vp_updL fo (0 : Int32).toNatClampNeg (v.toInt64)) ∨ (∃ E, f_X9_chart S o2 y1 y2 y3 = .error E ∧ r3 = wc_chart E ∧ f5 = fo ∧ S4 = S)) (h2 : (r12, S16) = f_X12_chart S4 o1 y1 y2 y3) (h3 : r20 = f_X12_thrown S16 o1) : (r20 = r3 ∧ (r3 = 0 → f5 (0 : Int32).toNatClampNeg = r12.toInt64)) ∧ RC o2 S16 o1 := by
  have ok : ∀ v z U T, f_X9_chart S o2 y1 y2 y3 = .ok (v, U) → f_X12_chart U o1 y1 y2 y3 = (z, T) → T.I o1 15 = 0 → ((v.toInt64) : Int64) = z.toInt64 → (RC o2 T o1) → (r20 = r3 ∧ (r3 = 0 → f5 (0 : Int32).toNatClampNeg = r12.toInt64)) ∧ RC o2 S16 o1 := fun v z U T e1 e2 e3 e4 e5 => by
    rcases h with ⟨w, g, g2, g3⟩ | ⟨E, g, -⟩
    · rw [e1] at g
      obtain ⟨rfl, rfl⟩ := Prod.mk.inj (Except.ok.inj g)
      rw [e2] at h2
      obtain ⟨rfl, rfl⟩ := Prod.mk.inj h2
      exact ⟨⟨(h3.trans e3).trans g2.symm, fun _ => by rw [g3, ← e4]; simp [vp_updL]⟩, e5⟩
    · rw [e1] at g; cases g
  have er : ∀ E n z, f_X9_chart S o2 y1 y2 y3 = .error E → wc_chart E = n → ¬ n = 0 → f_X12_chart S o1 y1 y2 y3 = (z, S.sI o1 15 n) → (r20 = r3 ∧ (r3 = 0 → f5 (0 : Int32).toNatClampNeg = r12.toInt64)) ∧ RC o2 S16 o1 := fun E n z e1 e2 e3 e4 => by
    rcases h with ⟨w, g, -⟩ | ⟨E2, g, g2, g3, g4⟩
    · rw [e1] at g; cases g
    · rw [e1] at g; cases g
      rw [g4, e4] at h2
      obtain ⟨rfl, rfl⟩ := Prod.mk.inj h2
      have t20 : r20 = n := h3.trans sI_eq
      have t3 : r3 = n := g2.trans e2
      exact ⟨⟨t20.trans t3.symm, fun q => absurd (t3.symm.trans q) e3⟩, RC.sI hA mRC⟩
  have am : (-500 : Int32).toInt = -500 := rfl
  have a5 : (500 : Int32).toInt = 500 := rfl
  have a0 : (0 : Int32).toInt = 0 := rfl
  have b0 : (0 : Int64).toInt = 0 := rfl
  rcases ga_cases y1 mRGS.1 hW hA with ⟨i, a, b, hy, hi, c1, c2, c3, ea, eb, g⟩ | ⟨c1, c2⟩
  · have y := mRC.2.1 i hi
    have p1 := (mRC.1.2.2.2.1 i hi).2.2
    rw [ea, eb] at y p1
    obtain ⟨ga, gb, -⟩ := g
    obtain ⟨⟨e5, c5⟩, ⟨e0, h0⟩, ⟨es, hs0⟩, ⟨ebb, hb5⟩, hn, hii, hr, hs, hq⟩ := y
    have t1 : (S.I a 1 - (1 : Int32)).toInt = (S.I a 1).toInt - 1 := t_subr (n := 1) rfl (by omega)
    by_cases k2 : 0 ≤ y2.toInt ∧ y2.toInt ≤ (S.I a 1).toInt - 1
    · by_cases k3 : -500 ≤ y3.toInt ∧ y3.toInt ≤ 500
      · obtain ⟨N, hN⟩ : ∃ z, S.n (S.f (S.f a 5) 0) = z := ⟨_, rfl⟩
        rw [hN] at hn
        have cy := cl_int (i := y2) k2.1
        have eN : (nI N).toInt = (N : Int) := nI_toInt (by omega)
        have kne : ∀ {x y k l : Nat}, isA S x k → isA S y l → k ≠ l → ¬ x = y := fun hx hy hk q => hk (by rw [← hx.2.1, q]; exact hy.2.1)
        have n01 := kne h0 hs0 (by decide)
        obtain ⟨T0, eT0⟩ : ∃ z, S.si (S.f (S.f a 5) 0) (upd (S.i (S.f (S.f a 5) 0)) y2.toNatClampNeg y3) = z := ⟨_, rfl⟩
        have T0f : ∀ x j, T0.f x j = S.f x j := fun x j => by rw [← eT0]; rfl
        have T0i : T0.i (S.f (S.f a 5) 0) = upd (S.i (S.f b 5)) y2.toNatClampNeg y3 := by
          rw [← eT0]
          show va_up S.i _ _ _ = _
          rw [up_qq, hii]
        have T0o : ∀ x, ¬ x = S.f (S.f a 5) 0 → T0.i x = S.i x := fun x hx => by
          rw [← eT0]
          show va_up S.i _ _ x = _
          rw [up_nq hx]
        have T0n : T0.n (T0.f (S.f a 5) 0) = N := by rw [T0f, ← eT0]; exact hN
        have hb' : cBD (upd (S.i (S.f b 5)) y2.toNatClampNeg y3) := fun k => by
          unfold upd
          by_cases q : k = y2.toNatClampNeg
          · rw [if_pos q]; exact k3
          · rw [if_neg q]; exact hr k
        obtain ⟨M, Q, G2⟩ := meas (S := T0) (c := S.f a 5) T0n (by omega) (by rw [T0f, T0i]; exact hb') (by rw [T0f, T0f]; exact n01)
        rw [T0f, T0f, T0i] at Q
        rw [T0f] at M
        rw [T0f, T0i] at G2
        obtain ⟨U, eU⟩ : ∃ z, f_X1_measure T0 (S.f a 5) = z := ⟨_, rfl⟩
        rw [eU] at M Q G2
        obtain ⟨u1, u2, u3, u4, u5, u6, u7⟩ := M
        have uL : U.L = S.L := u1.trans (by rw [← eT0]; rfl)
        have uK : U.K = S.K := u2.trans (by rw [← eT0]; rfl)
        have un : U.n = S.n := u3.trans (by rw [← eT0]; rfl)
        have uF : U.F = S.F := u4.trans (by rw [← eT0]; rfl)
        have ur : U.r = S.r := u5.trans (by rw [← eT0]; rfl)
        have uf : ∀ x j, U.f x j = S.f x j := fun x j => by unfold wPS.f; rw [uF]
        have uI : ∀ x, ¬ x = S.f a 5 → U.I x = S.I x := fun x hx => (u6 x hx).trans (by rw [← eT0]; rfl)
        have ui : ∀ x, ¬ x = S.f (S.f a 5) 0 → ¬ x = S.f (S.f a 5) 1 → U.i x = S.i x := fun x h1 h2 => (u7 x h2).trans (T0o x h1)
        have ui0 : U.i (S.f (S.f a 5) 0) = upd (S.i (S.f b 5)) y2.toNatClampNeg y3 := (u7 _ n01).trans T0i
        have uib : U.i (S.f b 5) = S.i (S.f b 5) := ui _ (kne hb5 h0 (by decide)) (kne hb5 hs0 (by decide))
        have b10 : U.I b = S.I b := uI _ (kne gb c5 (by decide))
        have g1 : f_X12_isGear U o1 y1 = f_X12_isGear S o1 y1 := by
          show f_X12_in y1.toInt64 0 ((U.I (U.f o1 0) 2 - (1 : Int32)).toInt64) = f_X12_in y1.toInt64 0 ((S.I (S.f o1 0) 2 - (1 : Int32)).toInt64)
          rw [uf, uI (S.f o1 0) (kne mRC.1.2.1.2.1 c5 (by decide))]
        have g2 : f_X12_gearAt U o1 y1 = b := by
          rw [← c3]
          show ((U.r ((U.F ((U.F o1 0).getD 0) 1).getD 0) y1.toNatClampNeg).getD 0) = ((S.r ((S.F ((S.F o1 0).getD 0) 1).getD 0) y1.toNatClampNeg).getD 0)
          rw [uF, ur]
        obtain ⟨V, eV⟩ : ∃ z, U.si (S.f b 5) (upd (U.i (S.f b 5)) y2.toNatClampNeg y3) = z := ⟨_, rfl⟩
        have vI : V.I = U.I := by rw [← eV]; rfl
        have vib : V.i (S.f b 5) = upd (S.i (S.f b 5)) y2.toNatClampNeg y3 := by
          rw [← eV]
          show va_up U.i _ _ _ = _
          rw [up_qq, uib]
        have vio : ∀ x, ¬ x = S.f b 5 → V.i x = U.i x := fun x hx => by
          rw [← eV]
          show va_up U.i _ _ x = _
          rw [up_nq hx]
        have vL : V.L = S.L := by rw [← eV]; exact uL
        have vK : V.K = S.K := by rw [← eV]; exact uK
        have vn : V.n = S.n := by rw [← eV]; exact un
        have vF : V.F = S.F := by rw [← eV]; exact uF
        have vr : V.r = S.r := by rw [← eV]; exact ur
        have vf : ∀ x j, V.f x j = S.f x j := fun x j => by unfold wPS.f; rw [vF]
        have vA : ∀ {x k : Nat}, isA S x k → isA V x k := fun h => by unfold isA at h ⊢; rw [vL, vK, vn]; exact h
        have yV : CY V a b := by
          unfold CY
          simp only [vf, vF, vn]
          rw [vI, uI a (kne ga c5 (by decide)), hN, vib, vio _ (kne h0 hb5 (by decide)), ui0, vio _ (kne hs0 hb5 (by decide))]
          exact ⟨⟨e5, vA c5⟩, ⟨e0, vA h0⟩, ⟨es, vA hs0⟩, ⟨ebb, vA hb5⟩, hn, rfl, hb', G2, Q⟩
        have mV : RC o2 V o1 := RC.upd vL vK vn vF vr hi ea eb yV (fun x hx => by rw [vI]; exact uI x hx) (fun x q1 q2 q3 => by rw [vio x q3]; exact ui x q1 q2) mRC
        have hAV : isA V o1 12 := vA hA
        refine ok (S.i (S.f (S.f a 5) 0) y2.toNatClampNeg) (U.i (S.f b 5) y2.toNatClampNeg) U (V.sI o1 15 0) ?_ ?_ sI_eq (by rw [uib, hii]) (RC.sI hAV mV)
        · unfold f_X9_chart
          rw [eB_ok c1, eB_ok (rng_ok (by rw [a0, t1]; exact k2)), eB_ok (rng_ok (by rw [am, a5]; exact k3))]
          have ht : f_X1_tell S (S.f a 5) y2 y3 = (S.i (S.f (S.f a 5) 0) y2.toNatClampNeg, U) := by
            unfold f_X1_tell
            rw [if_neg (fun q => by have := Int32.lt_iff_toInt_lt.mp q; omega), hN, if_pos (Int32.lt_iff_toInt_lt.mpr (by omega)), eT0]
            show (_, f_X1_measure T0 (S.f a 5)) = _
            rw [eU]
          rw [ht]; rfl
        · unfold f_X12_chart
          rw [g1, if_neg c2, g2]
          show (if f_X12_in y2.toInt64 (0 : Int64) ((U.I b 1 - (1 : Int32)).toInt64) = (0 : Int32) then _ else _) = _
          rw [b10, ← p1, in_ok (by rw [i64_i, i64_i, b0, t1]; exact k2), if_neg (by decide), li64 (a := -500) (b := 500) rfl rfl k3, if_neg (by decide)]
          show ((U.i (U.f b 5) y2.toNatClampNeg), (U.si (U.f b 5) (upd (U.i (U.f b 5)) y2.toNatClampNeg y3)).sI o1 15 0) = _
          rw [uf, eV]
      · refine er "java/lang/IllegalArgumentException" 2 0 ?_ (by decide +kernel) (by decide) ?_
        · unfold f_X9_chart; rw [eB_ok c1, eB_ok (rng_ok (by rw [a0, t1]; exact k2))]; exact eB_er (rng_er (by rw [am, a5]; exact k3))
        · unfold f_X12_chart
          rw [if_neg c2, c3]
          show (if f_X12_in y2.toInt64 (0 : Int64) ((S.I b 1 - (1 : Int32)).toInt64) = (0 : Int32) then _ else _) = _
          rw [← p1, in_ok (by rw [i64_i, i64_i, b0, t1]; exact k2), if_neg (by decide), li64n (a := -500) (b := 500) rfl rfl k3, if_pos rfl]; rfl
    · refine er "java/lang/IllegalArgumentException" 2 0 ?_ (by decide +kernel) (by decide) ?_
      · unfold f_X9_chart; rw [eB_ok c1]; exact eB_er (rng_er (by rw [a0, t1]; exact k2))
      · unfold f_X12_chart
        rw [if_neg c2, c3]
        show (if f_X12_in y2.toInt64 (0 : Int64) ((S.I b 1 - (1 : Int32)).toInt64) = (0 : Int32) then _ else _) = _
        rw [← p1, in_no (by rw [i64_i, i64_i, b0, t1]; exact k2), if_pos rfl]; rfl
  · refine er "java/lang/IndexOutOfBoundsException" 1 0 ?_ (by decide +kernel) (by decide) ?_
    · unfold f_X9_chart; exact eB_er c1
    · unfold f_X12_chart; rw [if_pos c2]; rfl
