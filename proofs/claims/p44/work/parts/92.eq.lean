/-- the same gears on both sides -/
def GRG (S : wPS) (i a b : Nat) : Prop := isA S a 2 ∧ isA S b 10 ∧ S.I a 0 = nI i ∧ S.I a 1 = S.I b 1 ∧ S.I a 2 = S.I b 2 ∧ S.I a 3 = S.I b 3
def RG (o2 : Nat) (S : wPS) (o : Nat) : Prop := isA S o2 9 ∧ (S.F o 0 = some (S.f o 0) ∧ isA S (S.f o 0) 14 ∧ S.n (S.f o 0) = 10) ∧ (S.I o2 1).toInt = (S.I (S.f o 0) 2).toInt ∧ (∀ i : Nat, (i : Int) < (S.I o2 1).toInt → GRG S i (S.q (S.f o2 0) i) (S.q (S.f (S.f o 0) 1) i)) ∧ (∀ i j : Nat, (i : Int) < (S.I o2 1).toInt → (j : Int) < (S.I o2 1).toInt → ¬ i = j → ¬ S.q (S.f o2 0) i = S.q (S.f o2 0) j ∧ ¬ S.q (S.f (S.f o 0) 1) i = S.q (S.f (S.f o 0) 1) j)
theorem GRG.fr {W : List (Nat × Nat)} {S U : wPS} {i a b : Nat} (h : stp W [] [] S U) (h1 : ∀ p ∈ ([(2, 0), (2, 1), (2, 2), (2, 3), (9, 1), (10, 1), (10, 2), (10, 3), (19, 101), (114, 10), (122, 10)] : List (Nat × Nat)), p ∉ W) (m : GRG S i a b) : GRG U i a b := by
  obtain ⟨ga, gb, g0, p1, p2, p3⟩ := m
  have fa := (h.fR a ga.1 List.not_mem_nil).1
  have fb := (h.fR b gb.1 List.not_mem_nil).1
  rw [ga.2.1] at fa
  rw [gb.2.1] at fb
  exact ⟨h.x.A ga, h.x.A gb, by rw [(fa 0 (h1 _ (by decide))).1]; exact g0, by rw [(fa 1 (h1 _ (by decide))).1, (fb 1 (h1 _ (by decide))).1]; exact p1, by rw [(fa 2 (h1 _ (by decide))).1, (fb 2 (h1 _ (by decide))).1]; exact p2, by rw [(fa 3 (h1 _ (by decide))).1, (fb 3 (h1 _ (by decide))).1]; exact p3⟩
theorem RG.st {W : List (Nat × Nat)} {S U : wPS} {o2 o : Nat} (h : stp W [] [] S U) (hW : wtB S []) (hA : isA S o 12) (hl : (114, 10) ∉ W ∧ (122, 10) ∉ W) (m : RG o2 S o) : U.f o 0 = S.f o 0 ∧ (U.F o 0 = some (U.f o 0) ∧ isA U (U.f o 0) 14 ∧ U.n (U.f o 0) = 10) ∧ U.I (S.f o 0) 2 = S.I (S.f o 0) 2 ∧ U.f (S.f o 0) 1 = S.f (S.f o 0) 1 ∧ ∀ i : Nat, (i : Int) < (S.I o2 1).toInt → U.r (S.f (S.f o 0) 1) i = S.r (S.f (S.f o 0) 1) i := by
  obtain ⟨hA2, ⟨e0, l0, n0⟩, mc, -, -⟩ := m
  have e' := h.x.F hA (Or.inl (by decide)) e0
  have f' : U.f o 0 = S.f o 0 := f_of e'
  have q := h.2.2.2.2.2 (S.f o 0) l0.1 List.not_mem_nil
  have q2 : U.I (S.f o 0) 2 = S.I (S.f o 0) 2 ∧ U.F (S.f o 0) = S.F (S.f o 0) := by
    rcases (q.1 l0.2.1).2 with w | w
    · rw [n0] at w; exact absurd w hl.1
    · exact w
  refine ⟨f', ⟨by rw [f']; exact e', by rw [f']; exact h.x.A l0, by rw [f', h.x.n l0]; exact n0⟩, q2.1, by show (U.F (S.f o 0) 1).getD 0 = (S.F (S.f o 0) 1).getD 0; rw [q2.2], fun i hi => ?_⟩
  rcases (hW.at l0 List.not_mem_nil).to_14 l0.2.1 with ⟨-, z⟩ | ⟨-, a2, -, a4, -, -, -⟩
  · omega
  · rcases (h.2.2.2.2.2 _ a2.1 List.not_mem_nil).2 a2.2.1 10 (by rw [a4, n0]) with w | w
    · exact absurd w hl.2
    · rw [w]
theorem RG.keep {W : List (Nat × Nat)} {S U : wPS} {o2 o : Nat} (h : stp W [] [] S U) (hW : wtB S []) (hA : isA S o 12) (h1 : ∀ p ∈ ([(2, 0), (2, 1), (2, 2), (2, 3), (9, 1), (10, 1), (10, 2), (10, 3), (19, 101), (114, 10), (122, 10)] : List (Nat × Nat)), p ∉ W) (_ : True) (m : RG o2 S o) : RG o2 U o := by
  have m0 := m
  obtain ⟨hA2, ⟨e0, l0, n0⟩, mc, mg, md⟩ := m
  obtain ⟨f', m1, q2, fl, rl⟩ := RG.st h hW hA ⟨h1 _ (by decide), h1 _ (by decide)⟩ m0
  have c1 : U.I o2 1 = S.I o2 1 := ((h.fR o2 hA2.1 List.not_mem_nil).1 1 (by rw [hA2.2.1]; exact h1 _ (by decide))).1
  have k9 := (hW.at hA2 List.not_mem_nil).to_9 hA2.2.1
  have fa : U.f o2 0 = S.f o2 0 := f_of (h.x.F hA2 (Or.inl (by decide)) k9.F0.1)
  have ra : U.r (S.f o2 0) = S.r (S.f o2 0) := (h.fR _ k9.F0.2.1.1 List.not_mem_nil).2.2.1 (by rw [k9.F0.2.1.2.1]; exact h1 _ (by decide))
  have qa : ∀ i, U.q (U.f o2 0) i = S.q (S.f o2 0) i := fun i => by unfold wPS.q; rw [fa, ra]
  have qb : ∀ i : Nat, (i : Int) < (S.I o2 1).toInt → U.q (U.f (U.f o 0) 1) i = S.q (S.f (S.f o 0) 1) i := fun i hi => by unfold wPS.q; rw [f', fl, rl i hi]
  refine ⟨h.x.A hA2, m1, by rw [c1, f', q2]; exact mc, fun i hi => ?_, fun i j hi hj hn => ?_⟩
  · rw [c1] at hi
    rw [qa, qb i hi]
    exact (mg i hi).fr h h1
  · rw [c1] at hi hj
    rw [qa, qa, qb i hi, qb j hj]
    exact md i j hi hj hn
theorem RG.sI {S : wPS} {o2 o j : Nat} {t : Int32} (hA : isA S o 12) (m : RG o2 S o) : RG o2 (S.sI o j t) o := by
  have ne : ∀ {x k : Nat}, isA S x k → k ≠ 12 → (S.sI o j t).I x = S.I x := fun hx hk => sI_no (fun e => hk (by rw [← hx.2.1, e]; exact hA.2.1))
  obtain ⟨hA2, ⟨e0, l0, n0⟩, mc, mg, md⟩ := m
  refine ⟨hA2, ⟨e0, l0, n0⟩, ?_, fun i hi => ?_, fun i j hi hj hn => ?_⟩
  · show ((S.sI o j t).I o2 1).toInt = ((S.sI o j t).I (S.f o 0) 2).toInt
    rw [ne hA2 (by decide), ne l0 (by decide)]; exact mc
  · rw [ne hA2 (by decide)] at hi
    obtain ⟨ga, gb, g0, p1, p2, p3⟩ := mg i hi
    show GRG (S.sI o j t) i (S.q (S.f o2 0) i) (S.q (S.f (S.f o 0) 1) i)
    exact ⟨ga, gb, by rw [ne ga (by decide)]; exact g0, by rw [ne ga (by decide), ne gb (by decide)]; exact p1, by rw [ne ga (by decide), ne gb (by decide)]; exact p2, by rw [ne ga (by decide), ne gb (by decide)]; exact p3⟩
  · rw [ne hA2 (by decide)] at hi hj
    exact md i j hi hj hn
theorem nI_cl {x : Int32} (h : 0 ≤ x.toInt) : x = nI x.toNatClampNeg := by
  obtain ⟨j, hj, e⟩ := nI_of (x := x) (nneg_i h)
  have h1 := cl_int (i := x) h
  have h2 : x.toInt = (j : Int) := by rw [e]; exact nI_toInt hj
  have h3 : x.toNatClampNeg = j := by omega
  rw [h3]; exact e
theorem RG.add {EA EB : Nat → Prop} {WC WM : List (Nat × Nat)} {S S4 S16 : wPS} {o2 o : Nat} {x1 x2 x3 x4 : Int32} (m : RG o2 S o) (hA : isA S o 12) (hW : wtB S []) (hw : stp WC [] [] S S4) (hm : stp WM [] [] S4 S16) (hc : ∀ p ∈ ([(2, 0), (2, 1), (2, 2), (2, 3), (10, 1), (10, 2), (10, 3), (114, 10), (122, 10)] : List (Nat × Nat)), p ∉ WC) (hk : ∀ p ∈ ([(2, 0), (2, 1), (2, 2), (2, 3), (9, 1), (10, 1), (10, 2), (10, 3), (19, 101)] : List (Nat × Nat)), p ∉ WM)
    (c4 : (S4.I o2 1).toInt = (S.I o2 1).toInt + 1) (N : ∃ g : Nat, g ∉ S.L ∧ isA S4 g 2 ∧ S4.r (S.f o2 0) (S.I o2 1).toNatClampNeg = some g ∧ (∀ i : Nat, i ≠ (S.I o2 1).toNatClampNeg → S4.r (S.f o2 0) i = S.r (S.f o2 0) i) ∧ S4.I g 0 = S.I o2 1 ∧ S4.I g 1 = x1 ∧ S4.I g 2 = x2 ∧ S4.I g 3 = x3 ∧ S4.I g 4 = x4 ∧ S4.I g 7 = (0 : Int32) ∧ S4.I g 8 = (-1 : Int32) ∧ S4.I g 9 = (0 : Int32) ∧ S4.I g 10 = (0 : Int32) ∧ S4.I g 11 = (0 : Int32) ∧ EA g)
    (n1 : (S16.I (S4.f o 0) 2).toInt = (S4.I (S4.f o 0) 2).toInt + 1) (M : ∃ g a : Nat, g ∉ S4.L ∧ isA S16 g 10 ∧ S16.F (S4.f o 0) 1 = some a ∧ isA S16 a 22 ∧ S16.r a (S4.I (S4.f o 0) 2).toNatClampNeg = some g ∧ (∀ i : Nat, (i : Int) < (S4.I (S4.f o 0) 2).toInt → S16.r a i = S4.r (S4.f (S4.f o 0) 1) i) ∧ S16.I g 1 = x1 ∧ S16.I g 2 = x2 ∧ S16.I g 3 = x3 ∧ S16.I g 4 = x4 ∧ S16.I g 7 = (0 : Int32) ∧ S16.I g 8 = (-1 : Int32) ∧ S16.I g 10 = (0 : Int32) ∧ S16.I g 11 = (0 : Int32) ∧ S16.I g 18 = (0 : Int32) ∧ EB g) : RG o2 S16 o := by
  have m0 := m
  obtain ⟨hA2, ⟨e0, l0, n0⟩, mc, mg, md⟩ := m
  obtain ⟨f4, m4, q4, fl4, rl4⟩ := RG.st hw hW hA ⟨hc _ (by decide), hc _ (by decide)⟩ m0
  obtain ⟨g, ng, gA, gr, go, cv0, cv1, cv2, cv3, cv4, cv7, cv8, cv9, cv10, cv11, -⟩ := N
  obtain ⟨b, a, nb, bA, aF, aA, br, bo, dv1, dv2, dv3, dv4, dv7, dv8, dv10, dv11, dv18, -⟩ := M
  rw [f4] at n1 aF br bo
  rw [q4] at n1 br bo
  rw [fl4] at bo
  have R9 := ((hW.at hA2 List.not_mem_nil).to_9 hA2.2.1).R1
  have k9 := (hW.at hA2 List.not_mem_nil).to_9 hA2.2.1
  have e16 := hm.x.F (hw.x.A hA) (Or.inl (by decide)) m4.1
  rw [f4] at e16
  have f16 : S16.f o 0 = (S.f o 0) := f_of e16
  have cI : S16.I o2 1 = S4.I o2 1 := ((hm.fR o2 (hw.x.A hA2).1 List.not_mem_nil).1 1 (by rw [(hw.x.A hA2).2.1]; exact hk _ (by decide))).1
  have fa4 : S4.f o2 0 = S.f o2 0 := f_of (hw.x.F hA2 (Or.inl (by decide)) k9.F0.1)
  have fa : S16.f o2 0 = S.f o2 0 := f_of (hm.x.F (hw.x.A hA2) (Or.inl (by decide)) (hw.x.F hA2 (Or.inl (by decide)) k9.F0.1))
  have aA4 := hw.x.A k9.F0.2.1
  have ra : S16.r (S.f o2 0) = S4.r (S.f o2 0) := (hm.fR _ aA4.1 List.not_mem_nil).2.2.1 (by rw [aA4.2.1]; exact hk _ (by decide))
  have fl16 : S16.f (S.f o 0) 1 = a := f_of aF
  have ck := cl_int (i := S.I o2 1) R9.1
  have ck2 := cl_int (i := S.I (S.f o 0) 2) (by omega)
  have qa0 : ∀ i, S16.q (S16.f o2 0) i = S4.q (S.f o2 0) i := fun i => by unfold wPS.q; rw [fa, ra]
  have qb0 : ∀ i, S16.q (S16.f (S16.f o 0) 1) i = S16.q a i := fun i => by rw [f16, fl16]
  have eaN : ∀ i, i = (S.I o2 1).toNatClampNeg → S4.q (S.f o2 0) i = g := fun i hik => by rw [hik]; exact q_of gr
  have ebN : ∀ i, i = (S.I o2 1).toNatClampNeg → S16.q a i = b := fun i hik => by rw [show i = (S.I (S.f o 0) 2).toNatClampNeg by omega]; exact q_of br
  have eaO : ∀ i, ¬ i = (S.I o2 1).toNatClampNeg → S4.q (S.f o2 0) i = S.q (S.f o2 0) i := fun i hik => by unfold wPS.q; rw [go i hik]
  have ebO : ∀ i : Nat, (i : Int) < (S.I o2 1).toInt → S16.q a i = S.q (S.f (S.f o 0) 1) i := fun i hi' => by unfold wPS.q; rw [bo i (by omega), rl4 i hi']
  refine ⟨(hw.x.tr hm.x).A hA2, ⟨by rw [f16]; exact e16, by rw [f16]; exact (hw.x.tr hm.x).A l0, by rw [f16, (hw.x.tr hm.x).n l0]; exact n0⟩, by rw [cI, f16, c4, n1, mc], fun i hi => ?_, fun i j hi hj hn => ?_⟩
  · rw [cI, c4] at hi
    rw [qa0, qb0]
    by_cases hik : i = (S.I o2 1).toNatClampNeg
    · rw [eaN i hik, ebN i hik]
      have fg := (hm.fR g gA.1 List.not_mem_nil).1
      rw [gA.2.1] at fg
      exact ⟨hm.x.A gA, bA, by rw [(fg 0 (hk _ (by decide))).1, cv0, hik]; exact nI_cl R9.1, by rw [(fg 1 (hk _ (by decide))).1, cv1, dv1], by rw [(fg 2 (hk _ (by decide))).1, cv2, dv2], by rw [(fg 3 (hk _ (by decide))).1, cv3, dv3]⟩
    · have hi' : (i : Int) < (S.I o2 1).toInt := by omega
      rw [eaO i hik, ebO i hi']
      obtain ⟨ga, gb, g0, p1, p2, p3⟩ := mg i hi'
      have f1 := (hw.fR _ ga.1 List.not_mem_nil).1
      have f2 := (hw.fR _ gb.1 List.not_mem_nil).1
      have f3 := (hm.fR _ (hw.x.A ga).1 List.not_mem_nil).1
      have f5 := (hm.fR _ (hw.x.A gb).1 List.not_mem_nil).1
      rw [ga.2.1] at f1
      rw [gb.2.1] at f2
      rw [(hw.x.A ga).2.1] at f3
      rw [(hw.x.A gb).2.1] at f5
      exact ⟨hm.x.A (hw.x.A ga), hm.x.A (hw.x.A gb), by rw [(f3 0 (hk _ (by decide))).1, (f1 0 (hc _ (by decide))).1]; exact g0, by rw [(f3 1 (hk _ (by decide))).1, (f1 1 (hc _ (by decide))).1, (f5 1 (hk _ (by decide))).1, (f2 1 (hc _ (by decide))).1]; exact p1, by rw [(f3 2 (hk _ (by decide))).1, (f1 2 (hc _ (by decide))).1, (f5 2 (hk _ (by decide))).1, (f2 2 (hc _ (by decide))).1]; exact p2, by rw [(f3 3 (hk _ (by decide))).1, (f1 3 (hc _ (by decide))).1, (f5 3 (hk _ (by decide))).1, (f2 3 (hc _ (by decide))).1]; exact p3⟩
  · rw [cI, c4] at hi hj
    rw [qa0, qa0, qb0, qb0]
    have nA : ∀ i : Nat, (i : Int) < (S.I o2 1).toInt → ¬ S.q (S.f o2 0) i = g := fun i hi e => ng (by rw [← e]; exact (mg i hi).1.1)
    have nB : ∀ i : Nat, (i : Int) < (S.I o2 1).toInt → ¬ S.q (S.f (S.f o 0) 1) i = b := fun i hi e => nb (by rw [← e]; exact (hw.x.A (mg i hi).2.1).1)
    by_cases hik : i = (S.I o2 1).toNatClampNeg
    · have hj' : (j : Int) < (S.I o2 1).toInt := by omega
      rw [eaN i hik, ebN i hik, eaO j (by omega), ebO j hj']
      exact ⟨fun e => nA j hj' e.symm, fun e => nB j hj' e.symm⟩
    · have hi' : (i : Int) < (S.I o2 1).toInt := by omega
      by_cases hjk : j = (S.I o2 1).toNatClampNeg
      · rw [eaN j hjk, ebN j hjk, eaO i hik, ebO i hi']
        exact ⟨nA i hi', nB i hi'⟩
      · have hj' : (j : Int) < (S.I o2 1).toInt := by omega
        rw [eaO i hik, ebO i hi', eaO j hjk, ebO j hj']
        exact md i j hi' hj' hn
/-! charts: what follows from a row of errors -/
def cPS (e : Nat → Int32) : Nat → Int
  | 0 => 0
  | k + 1 => cPS e k + (e k).toInt
def cST (e : Nat → Int32) (n k : Nat) : Int := (n : Int) * cPS e k - (k : Int) * cPS e n
def cHI (e : Nat → Int32) (n : Nat) : Nat → Int
  | 0 => 0
  | k + 1 => if cHI e n k < cST e n k then cST e n k else cHI e n k
def cLO (e : Nat → Int32) (n : Nat) : Nat → Int
  | 0 => 0
  | k + 1 => if cST e n k < cLO e n k then cST e n k else cLO e n k
def cFF (e : Nat → Int32) (n : Nat) : Int := (cHI e n n - cLO e n n) / (n : Int)
def cQQ (e : Nat → Int32) (n k : Nat) : Int := (cST e n k).tdiv (n : Int)
def cBD (e : Nat → Int32) : Prop := ∀ k, -500 ≤ (e k).toInt ∧ (e k).toInt ≤ 500
theorem cPS_b {e : Nat → Int32} (h : cBD e) : ∀ k : Nat, -(500 * (k : Int)) ≤ cPS e k ∧ cPS e k ≤ 500 * (k : Int) := by
  intro k
  induction k with
  | zero => exact ⟨Int.le_refl _, Int.le_refl _⟩
  | succ k ih =>
    have h1 := h k
    show -(500 * ((k + 1 : Nat) : Int)) ≤ cPS e k + (e k).toInt ∧ cPS e k + (e k).toInt ≤ 500 * ((k + 1 : Nat) : Int)
    omega
theorem c_mb {n p : Int} (hn : 0 ≤ n ∧ n ≤ 200) (hp : -100000 ≤ p ∧ p ≤ 100000) : -20000000 ≤ n * p ∧ n * p ≤ 20000000 := by
  have h1 : n * p ≤ n * 100000 := Int.mul_le_mul_of_nonneg_left hp.2 hn.1
  have h2 : n * (-100000) ≤ n * p := Int.mul_le_mul_of_nonneg_left hp.1 hn.1
  omega
theorem cPS_B {e : Nat → Int32} (h : cBD e) {k : Nat} (hk : k ≤ 200) : -100000 ≤ cPS e k ∧ cPS e k ≤ 100000 := by
  have := cPS_b h k
  omega
theorem cST_b {e : Nat → Int32} (h : cBD e) {n k : Nat} (hn : n ≤ 200) (hk : k ≤ n) : -40000000 ≤ cST e n k ∧ cST e n k ≤ 40000000 := by
  have h1 := c_mb (n := (n : Int)) (p := cPS e k) (by omega) (cPS_B h (by omega))
  have h2 := c_mb (n := (k : Int)) (p := cPS e n) (by omega) (cPS_B h hn)
  unfold cST
  omega
theorem cHI_b {e : Nat → Int32} (h : cBD e) {n : Nat} (hn : n ≤ 200) : ∀ k : Nat, k ≤ n → 0 ≤ cHI e n k ∧ cHI e n k ≤ 40000000 := by
  intro k
  induction k with
  | zero => intro _; exact ⟨Int.le_refl _, by show (0 : Int) ≤ 40000000; decide⟩
  | succ k ih =>
    intro hk
    have h1 := ih (by omega)
    have h2 := cST_b h hn (k := k) (by omega)
    show 0 ≤ (if cHI e n k < cST e n k then cST e n k else cHI e n k) ∧ (if cHI e n k < cST e n k then cST e n k else cHI e n k) ≤ 40000000
    split <;> omega
theorem cLO_b {e : Nat → Int32} (h : cBD e) {n : Nat} (hn : n ≤ 200) : ∀ k : Nat, k ≤ n → -40000000 ≤ cLO e n k ∧ cLO e n k ≤ 0 := by
  intro k
  induction k with
  | zero => intro _; exact ⟨by show (-40000000 : Int) ≤ 0; decide, Int.le_refl _⟩
  | succ k ih =>
    intro hk
    have h1 := ih (by omega)
    have h2 := cST_b h hn (k := k) (by omega)
    show -40000000 ≤ (if cST e n k < cLO e n k then cST e n k else cLO e n k) ∧ (if cST e n k < cLO e n k then cST e n k else cLO e n k) ≤ 0
    split <;> omega
theorem c_zero {e : Nat → Int32} (h : ∀ k, e k = 0) : (∀ k, cPS e k = 0) ∧ (∀ n k, cST e n k = 0) ∧ (∀ n k, cHI e n k = 0) ∧ (∀ n k, cLO e n k = 0) := by
  have z0 : (0 : Int32).toInt = 0 := rfl
  have a : ∀ k, cPS e k = 0 := by
    intro k
    induction k with
    | zero => rfl
    | succ k ih =>
      show cPS e k + (e k).toInt = 0
      rw [ih, h k]; rfl
  have b : ∀ n k, cST e n k = 0 := fun n k => by
    unfold cST
    rw [a, a]; simp
  refine ⟨a, b, fun n k => ?_, fun n k => ?_⟩
  · induction k with
    | zero => rfl
    | succ k ih =>
      show (if cHI e n k < cST e n k then cST e n k else cHI e n k) = 0
      rw [ih, b]; rfl
  · induction k with
    | zero => rfl
    | succ k ih =>
      show (if cST e n k < cLO e n k then cST e n k else cLO e n k) = 0
      rw [ih, b]; rfl
theorem c_zFF {e : Nat → Int32} (h : ∀ k, e k = 0) (n : Nat) : cFF e n = 0 := by
  obtain ⟨-, -, c, d⟩ := c_zero h
  unfold cFF
  rw [c, d]; simp
theorem c_zQQ {e : Nat → Int32} (h : ∀ k, e k = 0) (n k : Nat) : cQQ e n k = 0 := by
  obtain ⟨-, b, -, -⟩ := c_zero h
  unfold cQQ
  rw [b]; simp
/-- a gear's chart: the same errors on both sides; what was measured follows from them -/
def CY (S : wPS) (a b : Nat) : Prop := (S.F a 5 = some (S.f a 5) ∧ isA S (S.f a 5) 1) ∧ (S.F (S.f a 5) 0 = some (S.f (S.f a 5) 0) ∧ isA S (S.f (S.f a 5) 0) 25) ∧ (S.F (S.f a 5) 1 = some (S.f (S.f a 5) 1) ∧ isA S (S.f (S.f a 5) 1) 26) ∧ (S.F b 5 = some (S.f b 5) ∧ isA S (S.f b 5) 29) ∧ ((S.n (S.f (S.f a 5) 0) : Int) = (S.I a 1).toInt ∧ 6 ≤ (S.I a 1).toInt ∧ (S.I a 1).toInt ≤ 200) ∧ S.i (S.f (S.f a 5) 0) = S.i (S.f b 5) ∧ cBD (S.i (S.f b 5)) ∧ (S.I (S.f a 5) 2).toInt = cFF (S.i (S.f b 5)) (S.n (S.f (S.f a 5) 0)) ∧ (∀ k : Nat, k < S.n (S.f (S.f a 5) 0) → (S.i (S.f (S.f a 5) 1) k).toInt = cQQ (S.i (S.f b 5)) (S.n (S.f (S.f a 5) 0)) k)
theorem CY.fr {W : List (Nat × Nat)} {S U : wPS} {a b : Nat} (h : stp W [] [] S U) (ga : isA S a 2) (gb : isA S b 10) (h1 : ∀ p ∈ ([(2, 1), (1, 2), (25, 100), (26, 100), (29, 100)] : List (Nat × Nat)), p ∉ W) (m : CY S a b) : CY U a b := by
  obtain ⟨⟨e5, c5⟩, ⟨e0, a0⟩, ⟨es, as⟩, ⟨eb, ab⟩, hn, hi, hr, hs, hq⟩ := m
  have x5 := h.x.F ga (Or.inl (by decide)) e5
  have x0 := h.x.F c5 (Or.inl (by decide)) e0
  have xs := h.x.F c5 (Or.inl (by decide)) es
  have xb := h.x.F gb (Or.inl (by decide)) eb
  have f5 : U.f a 5 = S.f a 5 := f_of x5
  have f0 : U.f (S.f a 5) 0 = S.f (S.f a 5) 0 := f_of x0
  have f1 : U.f (S.f a 5) 1 = S.f (S.f a 5) 1 := f_of xs
  have fb : U.f b 5 = S.f b 5 := f_of xb
  have nn : U.n (S.f (S.f a 5) 0) = S.n (S.f (S.f a 5) 0) := h.x.n a0
  have I1 : U.I a 1 = S.I a 1 := ((h.fR a ga.1 List.not_mem_nil).1 1 (by rw [ga.2.1]; exact h1 _ (by decide))).1
  have I2 : U.I (S.f a 5) 2 = S.I (S.f a 5) 2 := ((h.fR _ c5.1 List.not_mem_nil).1 2 (by rw [c5.2.1]; exact h1 _ (by decide))).1
  have i0 : U.i (S.f (S.f a 5) 0) = S.i (S.f (S.f a 5) 0) := (h.fR _ a0.1 List.not_mem_nil).2.1 (by rw [a0.2.1]; exact h1 _ (by decide))
  have i1 : U.i (S.f (S.f a 5) 1) = S.i (S.f (S.f a 5) 1) := (h.fR _ as.1 List.not_mem_nil).2.1 (by rw [as.2.1]; exact h1 _ (by decide))
  have ib : U.i (S.f b 5) = S.i (S.f b 5) := (h.fR _ ab.1 List.not_mem_nil).2.1 (by rw [ab.2.1]; exact h1 _ (by decide))
  unfold CY
  rw [f5, f0, f1, fb, nn, I1, I2, i0, i1, ib]
  exact ⟨⟨x5, h.x.A c5⟩, ⟨x0, h.x.A a0⟩, ⟨xs, h.x.A as⟩, ⟨xb, h.x.A ab⟩, hn, hi, hr, hs, hq⟩
theorem CY.sI {S : wPS} {o a b j : Nat} {t : Int32} (hA : isA S o 12) (ga : isA S a 2) (m : CY S a b) : CY (S.sI o j t) a b := by
  have c5 := m.1.2
  have ia : (S.sI o j t).I a = S.I a := sI_no (fun e => by have k := ga.2.1; rw [e, hA.2.1] at k; exact absurd k (by decide))
  have ic : (S.sI o j t).I (S.f a 5) = S.I (S.f a 5) := sI_no (fun e => by have k := c5.2.1; rw [e, hA.2.1] at k; exact absurd k (by decide))
  unfold CY at m ⊢
  show _ ∧ _ ∧ _ ∧ _ ∧ (_ = ((S.sI o j t).I a 1).toInt ∧ 6 ≤ ((S.sI o j t).I a 1).toInt ∧ ((S.sI o j t).I a 1).toInt ≤ 200) ∧ _ ∧ _ ∧ ((S.sI o j t).I (S.f a 5) 2).toInt = _ ∧ _
  rw [ia, ic]
  exact m
/-- the same teeth on both sides -/
def GRK (S : wPS) (i a b : Nat) : Prop := isA S a 2 ∧ isA S b 10 ∧ S.I a 1 = S.I b 1
def RK (o2 : Nat) (S : wPS) (o : Nat) : Prop := isA S o2 9 ∧ (S.F o 0 = some (S.f o 0) ∧ isA S (S.f o 0) 14 ∧ S.n (S.f o 0) = 10) ∧ (S.I o2 1).toInt = (S.I (S.f o 0) 2).toInt ∧ (∀ i : Nat, (i : Int) < (S.I o2 1).toInt → GRK S i (S.q (S.f o2 0) i) (S.q (S.f (S.f o 0) 1) i)) ∧ (∀ i j : Nat, (i : Int) < (S.I o2 1).toInt → (j : Int) < (S.I o2 1).toInt → ¬ i = j → ¬ S.q (S.f o2 0) i = S.q (S.f o2 0) j ∧ ¬ S.q (S.f (S.f o 0) 1) i = S.q (S.f (S.f o 0) 1) j)
theorem GRK.fr {W : List (Nat × Nat)} {S U : wPS} {i a b : Nat} (h : stp W [] [] S U) (h1 : ∀ p ∈ ([(2, 1), (9, 1), (10, 1), (19, 101), (114, 10), (122, 10)] : List (Nat × Nat)), p ∉ W) (m : GRK S i a b) : GRK U i a b := by
  obtain ⟨ga, gb, p1⟩ := m
  have fa := (h.fR a ga.1 List.not_mem_nil).1
  have fb := (h.fR b gb.1 List.not_mem_nil).1
  rw [ga.2.1] at fa
  rw [gb.2.1] at fb
  exact ⟨h.x.A ga, h.x.A gb, by rw [(fa 1 (h1 _ (by decide))).1, (fb 1 (h1 _ (by decide))).1]; exact p1⟩
theorem RK.st {W : List (Nat × Nat)} {S U : wPS} {o2 o : Nat} (h : stp W [] [] S U) (hW : wtB S []) (hA : isA S o 12) (hl : (114, 10) ∉ W ∧ (122, 10) ∉ W) (m : RK o2 S o) : U.f o 0 = S.f o 0 ∧ (U.F o 0 = some (U.f o 0) ∧ isA U (U.f o 0) 14 ∧ U.n (U.f o 0) = 10) ∧ U.I (S.f o 0) 2 = S.I (S.f o 0) 2 ∧ U.f (S.f o 0) 1 = S.f (S.f o 0) 1 ∧ ∀ i : Nat, (i : Int) < (S.I o2 1).toInt → U.r (S.f (S.f o 0) 1) i = S.r (S.f (S.f o 0) 1) i := by
  obtain ⟨hA2, ⟨e0, l0, n0⟩, mc, -, -⟩ := m
  have e' := h.x.F hA (Or.inl (by decide)) e0
  have f' : U.f o 0 = S.f o 0 := f_of e'
  have q := h.2.2.2.2.2 (S.f o 0) l0.1 List.not_mem_nil
  have q2 : U.I (S.f o 0) 2 = S.I (S.f o 0) 2 ∧ U.F (S.f o 0) = S.F (S.f o 0) := by
    rcases (q.1 l0.2.1).2 with w | w
    · rw [n0] at w; exact absurd w hl.1
    · exact w
  refine ⟨f', ⟨by rw [f']; exact e', by rw [f']; exact h.x.A l0, by rw [f', h.x.n l0]; exact n0⟩, q2.1, by show (U.F (S.f o 0) 1).getD 0 = (S.F (S.f o 0) 1).getD 0; rw [q2.2], fun i hi => ?_⟩
  rcases (hW.at l0 List.not_mem_nil).to_14 l0.2.1 with ⟨-, z⟩ | ⟨-, a2, -, a4, -, -, -⟩
  · omega
  · rcases (h.2.2.2.2.2 _ a2.1 List.not_mem_nil).2 a2.2.1 10 (by rw [a4, n0]) with w | w
    · exact absurd w hl.2
    · rw [w]
theorem RK.keep {W : List (Nat × Nat)} {S U : wPS} {o2 o : Nat} (h : stp W [] [] S U) (hW : wtB S []) (hA : isA S o 12) (h1 : ∀ p ∈ ([(2, 1), (9, 1), (10, 1), (19, 101), (114, 10), (122, 10)] : List (Nat × Nat)), p ∉ W) (_ : True) (m : RK o2 S o) : RK o2 U o := by
  have m0 := m
  obtain ⟨hA2, ⟨e0, l0, n0⟩, mc, mg, md⟩ := m
  obtain ⟨f', m1, q2, fl, rl⟩ := RK.st h hW hA ⟨h1 _ (by decide), h1 _ (by decide)⟩ m0
  have c1 : U.I o2 1 = S.I o2 1 := ((h.fR o2 hA2.1 List.not_mem_nil).1 1 (by rw [hA2.2.1]; exact h1 _ (by decide))).1
  have k9 := (hW.at hA2 List.not_mem_nil).to_9 hA2.2.1
  have fa : U.f o2 0 = S.f o2 0 := f_of (h.x.F hA2 (Or.inl (by decide)) k9.F0.1)
  have ra : U.r (S.f o2 0) = S.r (S.f o2 0) := (h.fR _ k9.F0.2.1.1 List.not_mem_nil).2.2.1 (by rw [k9.F0.2.1.2.1]; exact h1 _ (by decide))
  have qa : ∀ i, U.q (U.f o2 0) i = S.q (S.f o2 0) i := fun i => by unfold wPS.q; rw [fa, ra]
  have qb : ∀ i : Nat, (i : Int) < (S.I o2 1).toInt → U.q (U.f (U.f o 0) 1) i = S.q (S.f (S.f o 0) 1) i := fun i hi => by unfold wPS.q; rw [f', fl, rl i hi]
  refine ⟨h.x.A hA2, m1, by rw [c1, f', q2]; exact mc, fun i hi => ?_, fun i j hi hj hn => ?_⟩
  · rw [c1] at hi
    rw [qa, qb i hi]
    exact (mg i hi).fr h h1
  · rw [c1] at hi hj
    rw [qa, qa, qb i hi, qb j hj]
    exact md i j hi hj hn
theorem RK.sI {S : wPS} {o2 o j : Nat} {t : Int32} (hA : isA S o 12) (m : RK o2 S o) : RK o2 (S.sI o j t) o := by
  have ne : ∀ {x k : Nat}, isA S x k → k ≠ 12 → (S.sI o j t).I x = S.I x := fun hx hk => sI_no (fun e => hk (by rw [← hx.2.1, e]; exact hA.2.1))
  obtain ⟨hA2, ⟨e0, l0, n0⟩, mc, mg, md⟩ := m
  refine ⟨hA2, ⟨e0, l0, n0⟩, ?_, fun i hi => ?_, fun i j hi hj hn => ?_⟩
  · show ((S.sI o j t).I o2 1).toInt = ((S.sI o j t).I (S.f o 0) 2).toInt
    rw [ne hA2 (by decide), ne l0 (by decide)]; exact mc
  · rw [ne hA2 (by decide)] at hi
    obtain ⟨ga, gb, p1⟩ := mg i hi
    show GRK (S.sI o j t) i (S.q (S.f o2 0) i) (S.q (S.f (S.f o 0) 1) i)
    exact ⟨ga, gb, by rw [ne ga (by decide), ne gb (by decide)]; exact p1⟩
  · rw [ne hA2 (by decide)] at hi hj
    exact md i j hi hj hn
theorem RK.add {EA EB : Nat → Prop} {WC WM : List (Nat × Nat)} {S S4 S16 : wPS} {o2 o : Nat} {x1 x2 x3 x4 : Int32} (m : RK o2 S o) (hA : isA S o 12) (hW : wtB S []) (hw : stp WC [] [] S S4) (hm : stp WM [] [] S4 S16) (hc : ∀ p ∈ ([(2, 1), (10, 1), (114, 10), (122, 10)] : List (Nat × Nat)), p ∉ WC) (hk : ∀ p ∈ ([(2, 1), (9, 1), (10, 1), (19, 101)] : List (Nat × Nat)), p ∉ WM)
    (c4 : (S4.I o2 1).toInt = (S.I o2 1).toInt + 1) (N : ∃ g : Nat, g ∉ S.L ∧ isA S4 g 2 ∧ S4.r (S.f o2 0) (S.I o2 1).toNatClampNeg = some g ∧ (∀ i : Nat, i ≠ (S.I o2 1).toNatClampNeg → S4.r (S.f o2 0) i = S.r (S.f o2 0) i) ∧ S4.I g 0 = S.I o2 1 ∧ S4.I g 1 = x1 ∧ S4.I g 2 = x2 ∧ S4.I g 3 = x3 ∧ S4.I g 4 = x4 ∧ S4.I g 7 = (0 : Int32) ∧ S4.I g 8 = (-1 : Int32) ∧ S4.I g 9 = (0 : Int32) ∧ S4.I g 10 = (0 : Int32) ∧ S4.I g 11 = (0 : Int32) ∧ EA g)
    (n1 : (S16.I (S4.f o 0) 2).toInt = (S4.I (S4.f o 0) 2).toInt + 1) (M : ∃ g a : Nat, g ∉ S4.L ∧ isA S16 g 10 ∧ S16.F (S4.f o 0) 1 = some a ∧ isA S16 a 22 ∧ S16.r a (S4.I (S4.f o 0) 2).toNatClampNeg = some g ∧ (∀ i : Nat, (i : Int) < (S4.I (S4.f o 0) 2).toInt → S16.r a i = S4.r (S4.f (S4.f o 0) 1) i) ∧ S16.I g 1 = x1 ∧ S16.I g 2 = x2 ∧ S16.I g 3 = x3 ∧ S16.I g 4 = x4 ∧ S16.I g 7 = (0 : Int32) ∧ S16.I g 8 = (-1 : Int32) ∧ S16.I g 10 = (0 : Int32) ∧ S16.I g 11 = (0 : Int32) ∧ S16.I g 18 = (0 : Int32) ∧ EB g) : RK o2 S16 o := by
  have m0 := m
  obtain ⟨hA2, ⟨e0, l0, n0⟩, mc, mg, md⟩ := m
  obtain ⟨f4, m4, q4, fl4, rl4⟩ := RK.st hw hW hA ⟨hc _ (by decide), hc _ (by decide)⟩ m0
  obtain ⟨g, ng, gA, gr, go, cv0, cv1, cv2, cv3, cv4, cv7, cv8, cv9, cv10, cv11, -⟩ := N
  obtain ⟨b, a, nb, bA, aF, aA, br, bo, dv1, dv2, dv3, dv4, dv7, dv8, dv10, dv11, dv18, -⟩ := M
  rw [f4] at n1 aF br bo
  rw [q4] at n1 br bo
  rw [fl4] at bo
  have R9 := ((hW.at hA2 List.not_mem_nil).to_9 hA2.2.1).R1
  have k9 := (hW.at hA2 List.not_mem_nil).to_9 hA2.2.1
  have e16 := hm.x.F (hw.x.A hA) (Or.inl (by decide)) m4.1
  rw [f4] at e16
  have f16 : S16.f o 0 = (S.f o 0) := f_of e16
  have cI : S16.I o2 1 = S4.I o2 1 := ((hm.fR o2 (hw.x.A hA2).1 List.not_mem_nil).1 1 (by rw [(hw.x.A hA2).2.1]; exact hk _ (by decide))).1
  have fa4 : S4.f o2 0 = S.f o2 0 := f_of (hw.x.F hA2 (Or.inl (by decide)) k9.F0.1)
  have fa : S16.f o2 0 = S.f o2 0 := f_of (hm.x.F (hw.x.A hA2) (Or.inl (by decide)) (hw.x.F hA2 (Or.inl (by decide)) k9.F0.1))
  have aA4 := hw.x.A k9.F0.2.1
  have ra : S16.r (S.f o2 0) = S4.r (S.f o2 0) := (hm.fR _ aA4.1 List.not_mem_nil).2.2.1 (by rw [aA4.2.1]; exact hk _ (by decide))
  have fl16 : S16.f (S.f o 0) 1 = a := f_of aF
  have ck := cl_int (i := S.I o2 1) R9.1
  have ck2 := cl_int (i := S.I (S.f o 0) 2) (by omega)
  have qa0 : ∀ i, S16.q (S16.f o2 0) i = S4.q (S.f o2 0) i := fun i => by unfold wPS.q; rw [fa, ra]
  have qb0 : ∀ i, S16.q (S16.f (S16.f o 0) 1) i = S16.q a i := fun i => by rw [f16, fl16]
  have eaN : ∀ i, i = (S.I o2 1).toNatClampNeg → S4.q (S.f o2 0) i = g := fun i hik => by rw [hik]; exact q_of gr
  have ebN : ∀ i, i = (S.I o2 1).toNatClampNeg → S16.q a i = b := fun i hik => by rw [show i = (S.I (S.f o 0) 2).toNatClampNeg by omega]; exact q_of br
  have eaO : ∀ i, ¬ i = (S.I o2 1).toNatClampNeg → S4.q (S.f o2 0) i = S.q (S.f o2 0) i := fun i hik => by unfold wPS.q; rw [go i hik]
  have ebO : ∀ i : Nat, (i : Int) < (S.I o2 1).toInt → S16.q a i = S.q (S.f (S.f o 0) 1) i := fun i hi' => by unfold wPS.q; rw [bo i (by omega), rl4 i hi']
  refine ⟨(hw.x.tr hm.x).A hA2, ⟨by rw [f16]; exact e16, by rw [f16]; exact (hw.x.tr hm.x).A l0, by rw [f16, (hw.x.tr hm.x).n l0]; exact n0⟩, by rw [cI, f16, c4, n1, mc], fun i hi => ?_, fun i j hi hj hn => ?_⟩
  · rw [cI, c4] at hi
    rw [qa0, qb0]
    by_cases hik : i = (S.I o2 1).toNatClampNeg
    · rw [eaN i hik, ebN i hik]
      have fg := (hm.fR g gA.1 List.not_mem_nil).1
      rw [gA.2.1] at fg
      exact ⟨hm.x.A gA, bA, by rw [(fg 1 (hk _ (by decide))).1, cv1, dv1]⟩
    · have hi' : (i : Int) < (S.I o2 1).toInt := by omega
      rw [eaO i hik, ebO i hi']
      obtain ⟨ga, gb, p1⟩ := mg i hi'
      have f1 := (hw.fR _ ga.1 List.not_mem_nil).1
      have f2 := (hw.fR _ gb.1 List.not_mem_nil).1
      have f3 := (hm.fR _ (hw.x.A ga).1 List.not_mem_nil).1
      have f5 := (hm.fR _ (hw.x.A gb).1 List.not_mem_nil).1
      rw [ga.2.1] at f1
      rw [gb.2.1] at f2
      rw [(hw.x.A ga).2.1] at f3
      rw [(hw.x.A gb).2.1] at f5
      exact ⟨hm.x.A (hw.x.A ga), hm.x.A (hw.x.A gb), by rw [(f3 1 (hk _ (by decide))).1, (f1 1 (hc _ (by decide))).1, (f5 1 (hk _ (by decide))).1, (f2 1 (hc _ (by decide))).1]; exact p1⟩
  · rw [cI, c4] at hi hj
    rw [qa0, qa0, qb0, qb0]
    have nA : ∀ i : Nat, (i : Int) < (S.I o2 1).toInt → ¬ S.q (S.f o2 0) i = g := fun i hi e => ng (by rw [← e]; exact (mg i hi).1.1)
    have nB : ∀ i : Nat, (i : Int) < (S.I o2 1).toInt → ¬ S.q (S.f (S.f o 0) 1) i = b := fun i hi e => nb (by rw [← e]; exact (hw.x.A (mg i hi).2.1).1)
    by_cases hik : i = (S.I o2 1).toNatClampNeg
    · have hj' : (j : Int) < (S.I o2 1).toInt := by omega
      rw [eaN i hik, ebN i hik, eaO j (by omega), ebO j hj']
      exact ⟨fun e => nA j hj' e.symm, fun e => nB j hj' e.symm⟩
    · have hi' : (i : Int) < (S.I o2 1).toInt := by omega
      by_cases hjk : j = (S.I o2 1).toNatClampNeg
      · rw [eaN j hjk, ebN j hjk, eaO i hik, ebO i hi']
        exact ⟨nA i hi', nB i hi'⟩
      · have hj' : (j : Int) < (S.I o2 1).toInt := by omega
        rw [eaO i hik, ebO i hi', eaO j hjk, ebO j hj']
        exact md i j hi' hj' hn
theorem RK.qs {W : List (Nat × Nat)} {S U : wPS} {o2 o : Nat} (h : stp W [] [] S U) (hW : wtB S []) (hA : isA S o 12) (h1 : ∀ p ∈ ([(2, 1), (9, 1), (10, 1), (19, 101), (114, 10), (122, 10)] : List (Nat × Nat)), p ∉ W) (m : RK o2 S o) : U.I o2 1 = S.I o2 1 ∧ (∀ i, U.q (U.f o2 0) i = S.q (S.f o2 0) i) ∧ (∀ i : Nat, (i : Int) < (S.I o2 1).toInt → U.q (U.f (U.f o 0) 1) i = S.q (S.f (S.f o 0) 1) i) := by
  have m0 := m
  obtain ⟨hA2, ⟨e0, l0, n0⟩, mc, mg, md⟩ := m
  obtain ⟨f', m1, q2, fl, rl⟩ := RK.st h hW hA ⟨h1 _ (by decide), h1 _ (by decide)⟩ m0
  have c1 : U.I o2 1 = S.I o2 1 := ((h.fR o2 hA2.1 List.not_mem_nil).1 1 (by rw [hA2.2.1]; exact h1 _ (by decide))).1
  have k9 := (hW.at hA2 List.not_mem_nil).to_9 hA2.2.1
  have fa : U.f o2 0 = S.f o2 0 := f_of (h.x.F hA2 (Or.inl (by decide)) k9.F0.1)
  have ra : U.r (S.f o2 0) = S.r (S.f o2 0) := (h.fR _ k9.F0.2.1.1 List.not_mem_nil).2.2.1 (by rw [k9.F0.2.1.2.1]; exact h1 _ (by decide))
  exact ⟨c1, fun i => by unfold wPS.q; rw [fa, ra], fun i hi => by unfold wPS.q; rw [f', fl, rl i hi]⟩
theorem RK.qadd {PA PB : Nat → Prop} {WC WM : List (Nat × Nat)} {S S4 S16 : wPS} {o2 o : Nat} (m : RK o2 S o) (hA : isA S o 12) (hW : wtB S []) (hw : stp WC [] [] S S4) (hm : stp WM [] [] S4 S16) (hc : (114, 10) ∉ WC ∧ (122, 10) ∉ WC) (hk : (9, 1) ∉ WM ∧ (19, 101) ∉ WM)
    (c4 : (S4.I o2 1).toInt = (S.I o2 1).toInt + 1) (N : ∃ g : Nat, g ∉ S.L ∧ isA S4 g 2 ∧ S4.r (S.f o2 0) (S.I o2 1).toNatClampNeg = some g ∧ (∀ i : Nat, i ≠ (S.I o2 1).toNatClampNeg → S4.r (S.f o2 0) i = S.r (S.f o2 0) i) ∧ PA g)
    (M : ∃ g a : Nat, g ∉ S4.L ∧ isA S16 g 10 ∧ S16.F (S4.f o 0) 1 = some a ∧ isA S16 a 22 ∧ S16.r a (S4.I (S4.f o 0) 2).toNatClampNeg = some g ∧ (∀ i : Nat, (i : Int) < (S4.I (S4.f o 0) 2).toInt → S16.r a i = S4.r (S4.f (S4.f o 0) 1) i) ∧ PB g) : S16.I o2 1 = S4.I o2 1 ∧ ∃ g b : Nat, g ∉ S.L ∧ b ∉ S4.L ∧ isA S4 g 2 ∧ isA S16 b 10 ∧ PA g ∧ PB b ∧ S16.q (S16.f o2 0) (S.I o2 1).toNatClampNeg = g ∧ S16.q (S16.f (S16.f o 0) 1) (S.I o2 1).toNatClampNeg = b ∧ (∀ i : Nat, (i : Int) < (S.I o2 1).toInt → S16.q (S16.f o2 0) i = S.q (S.f o2 0) i ∧ S16.q (S16.f (S16.f o 0) 1) i = S.q (S.f (S.f o 0) 1) i) := by
  have m0 := m
  obtain ⟨hA2, ⟨e0, l0, n0⟩, mc, mg, md⟩ := m
  obtain ⟨f4, m4, q4, fl4, rl4⟩ := RK.st hw hW hA hc m0
  obtain ⟨g, ng, gA, gr, go, pa⟩ := N
  obtain ⟨b, a, nb, bA, aF, aA, br, bo, pb⟩ := M
  rw [f4] at aF br bo
  rw [q4] at br bo
  rw [fl4] at bo
  have k9 := (hW.at hA2 List.not_mem_nil).to_9 hA2.2.1
  have R9 := k9.R1
  have e16 := hm.x.F (hw.x.A hA) (Or.inl (by decide)) m4.1
  rw [f4] at e16
  have f16 : S16.f o 0 = (S.f o 0) := f_of e16
  have cI : S16.I o2 1 = S4.I o2 1 := ((hm.fR o2 (hw.x.A hA2).1 List.not_mem_nil).1 1 (by rw [(hw.x.A hA2).2.1]; exact hk.1)).1
  have fa4 : S4.f o2 0 = S.f o2 0 := f_of (hw.x.F hA2 (Or.inl (by decide)) k9.F0.1)
  have fa : S16.f o2 0 = S.f o2 0 := f_of (hm.x.F (hw.x.A hA2) (Or.inl (by decide)) (hw.x.F hA2 (Or.inl (by decide)) k9.F0.1))
  have aA4 := hw.x.A k9.F0.2.1
  have ra : S16.r (S.f o2 0) = S4.r (S.f o2 0) := (hm.fR _ aA4.1 List.not_mem_nil).2.2.1 (by rw [aA4.2.1]; exact hk.2)
  have fl16 : S16.f (S.f o 0) 1 = a := f_of aF
  have ck := cl_int (i := S.I o2 1) R9.1
  have ck2 := cl_int (i := S.I (S.f o 0) 2) (by omega)
  have ek : (S.I (S.f o 0) 2).toNatClampNeg = (S.I o2 1).toNatClampNeg := by omega
  rw [ek] at br
  refine ⟨cI, g, b, ng, nb, gA, bA, pa, pb, ?_, ?_, fun i hi => ⟨?_, ?_⟩⟩
  · unfold wPS.q; rw [fa, ra, gr]; rfl
  · unfold wPS.q; rw [f16, fl16, br]; rfl
  · unfold wPS.q; rw [fa, ra, go i (by omega)]
  · unfold wPS.q; rw [f16, fl16, bo i (by omega), rl4 i hi]
/-- the same charts on both sides -/
def RC (o2 : Nat) (S : wPS) (o : Nat) : Prop := RK o2 S o ∧ (∀ i : Nat, (i : Int) < (S.I o2 1).toInt → CY S (S.q (S.f o2 0) i) (S.q (S.f (S.f o 0) 1) i)) ∧ (∀ i j : Nat, (i : Int) < (S.I o2 1).toInt → (j : Int) < (S.I o2 1).toInt → ¬ i = j → ¬ S.f (S.q (S.f o2 0) i) 5 = S.f (S.q (S.f o2 0) j) 5 ∧ ¬ S.f (S.f (S.q (S.f o2 0) i) 5) 0 = S.f (S.f (S.q (S.f o2 0) j) 5) 0 ∧ ¬ S.f (S.f (S.q (S.f o2 0) i) 5) 1 = S.f (S.f (S.q (S.f o2 0) j) 5) 1 ∧ ¬ S.f (S.q (S.f (S.f o 0) 1) i) 5 = S.f (S.q (S.f (S.f o 0) 1) j) 5)
theorem RC.keep {W : List (Nat × Nat)} {S U : wPS} {o2 o : Nat} (h : stp W [] [] S U) (hW : wtB S []) (hA : isA S o 12) (h1 : ∀ p ∈ ([(1, 2), (2, 1), (9, 1), (10, 1), (19, 101), (25, 100), (26, 100), (29, 100), (114, 10), (122, 10)] : List (Nat × Nat)), p ∉ W) (_ : True) (m : RC o2 S o) : RC o2 U o := by
  obtain ⟨m1, my, md⟩ := m
  have s1 : ∀ p ∈ ([(2, 1), (9, 1), (10, 1), (19, 101), (114, 10), (122, 10)] : List (Nat × Nat)), p ∉ W := fun p hp => h1 p ((by decide : ∀ q ∈ ([(2, 1), (9, 1), (10, 1), (19, 101), (114, 10), (122, 10)] : List (Nat × Nat)), q ∈ ([(1, 2), (2, 1), (9, 1), (10, 1), (19, 101), (25, 100), (26, 100), (29, 100), (114, 10), (122, 10)] : List (Nat × Nat))) p hp)
  have s2 : ∀ p ∈ ([(2, 1), (1, 2), (25, 100), (26, 100), (29, 100)] : List (Nat × Nat)), p ∉ W := fun p hp => h1 p ((by decide : ∀ q ∈ ([(2, 1), (1, 2), (25, 100), (26, 100), (29, 100)] : List (Nat × Nat)), q ∈ ([(1, 2), (2, 1), (9, 1), (10, 1), (19, 101), (25, 100), (26, 100), (29, 100), (114, 10), (122, 10)] : List (Nat × Nat))) p hp)
  obtain ⟨c1, qa, qb⟩ := RK.qs h hW hA s1 m1
  have old : ∀ i : Nat, (i : Int) < (S.I o2 1).toInt → CY U (S.q (S.f o2 0) i) (S.q (S.f (S.f o 0) 1) i) ∧ U.f (S.q (S.f o2 0) i) 5 = S.f (S.q (S.f o2 0) i) 5 ∧ U.f (S.f (S.q (S.f o2 0) i) 5) 0 = S.f (S.f (S.q (S.f o2 0) i) 5) 0 ∧ U.f (S.f (S.q (S.f o2 0) i) 5) 1 = S.f (S.f (S.q (S.f o2 0) i) 5) 1 ∧ U.f (S.q (S.f (S.f o 0) 1) i) 5 = S.f (S.q (S.f (S.f o 0) 1) i) 5 := fun i hi => by
    obtain ⟨ga, gb, -⟩ := m1.2.2.2.1 i hi
    have y := my i hi
    exact ⟨y.fr h ga gb s2, f_of (h.x.F ga (Or.inl (by decide)) y.1.1), f_of (h.x.F y.1.2 (Or.inl (by decide)) y.2.1.1), f_of (h.x.F y.1.2 (Or.inl (by decide)) y.2.2.1.1), f_of (h.x.F gb (Or.inl (by decide)) y.2.2.2.1.1)⟩
  refine ⟨RK.keep h hW hA s1 trivial m1, fun i hi => ?_, fun i j hi hj hn => ?_⟩
  · rw [c1] at hi
    rw [qa, qb i hi]
    exact (old i hi).1
  · rw [c1] at hi hj
    obtain ⟨-, a1, a2, a3, a4⟩ := old i hi
    obtain ⟨-, b1, b2, b3, b4⟩ := old j hj
    rw [qa, qa, qb i hi, qb j hj, a1, a2, a3, a4, b1, b2, b3, b4]
    exact md i j hi hj hn
theorem RC.sI {S : wPS} {o2 o j : Nat} {t : Int32} (hA : isA S o 12) (m : RC o2 S o) : RC o2 (S.sI o j t) o := by
  obtain ⟨m1, my, md⟩ := m
  have ne : (S.sI o j t).I o2 = S.I o2 := sI_no (fun e => by have k := m1.1.2.1; rw [e, hA.2.1] at k; exact absurd k (by decide))
  refine ⟨RK.sI hA m1, fun i hi => ?_, fun i k hi hk hn => ?_⟩
  · rw [ne] at hi
    exact (my i hi).sI hA (m1.2.2.2.1 i hi).1
  · rw [ne] at hi hk
    exact md i k hi hk hn
theorem RC.upd {S T : wPS} {o2 o e a b : Nat} (sL : T.L = S.L) (sK : T.K = S.K) (sn : T.n = S.n) (sF : T.F = S.F) (sr : T.r = S.r) (he : (e : Int) < (S.I o2 1).toInt) (ea : S.q (S.f o2 0) e = a) (eb : S.q (S.f (S.f o 0) 1) e = b) (hy : CY T a b) (iI : ∀ x, ¬ x = S.f a 5 → T.I x = S.I x) (wi : ∀ x, ¬ x = S.f (S.f a 5) 0 → ¬ x = S.f (S.f a 5) 1 → ¬ x = S.f b 5 → T.i x = S.i x) (m : RC o2 S o) : RC o2 T o := by
  have f' : ∀ a j, T.f a j = S.f a j := fun a j => by unfold wPS.f; rw [sF]
  have q' : ∀ a j, T.q a j = S.q a j := fun a j => by unfold wPS.q; rw [sr]
  have A' : ∀ {x k : Nat}, isA S x k → isA T x k := fun h => by unfold isA at h ⊢; rw [sL, sK, sn]; exact h
  obtain ⟨⟨hA2, ⟨e0, l0, n0⟩, mc, mg, mdd⟩, my, md⟩ := m
  have ye := my e he
  rw [ea, eb] at ye
  obtain ⟨⟨z5, c5⟩, ⟨z0, a0⟩, ⟨zs, as⟩, ⟨zb, ab⟩, -⟩ := ye
  have nk : ∀ {x k : Nat}, isA S x k → k ≠ 1 → T.I x = S.I x := fun hx hk => iI _ (fun q => hk (by rw [← hx.2.1, q]; exact c5.2.1))
  have kne : ∀ {x y k l : Nat}, isA S x k → isA S y l → k ≠ l → ¬ x = y := fun hx hy hk q => hk (by rw [← hx.2.1, q]; exact hy.2.1)
  refine ⟨⟨A' hA2, ⟨by rw [f', sF]; exact e0, by rw [f']; exact A' l0, by rw [f', sn]; exact n0⟩, by rw [nk hA2 (by decide), f', nk l0 (by decide)]; exact mc, fun i hi => ?_, fun i j hi hj hn => ?_⟩, fun i hi => ?_, fun i j hi hj hn => ?_⟩
  · rw [nk hA2 (by decide)] at hi
    simp only [f', q']
    obtain ⟨ga, gb, p1⟩ := mg i hi
    exact ⟨A' ga, A' gb, by rw [nk ga (by decide), nk gb (by decide)]; exact p1⟩
  · rw [nk hA2 (by decide)] at hi hj
    simp only [f', q']
    exact mdd i j hi hj hn
  · rw [nk hA2 (by decide)] at hi
    simp only [f', q']
    by_cases hie : i = e
    · subst hie; rw [ea, eb]; exact hy
    · obtain ⟨ga, gb, -⟩ := mg i hi
      obtain ⟨d5, d0, d1, db⟩ := md i e hi he hie
      rw [ea] at d5 d0 d1
      rw [eb] at db
      obtain ⟨⟨y5, k5⟩, ⟨y0, b0⟩, ⟨ys, bs⟩, ⟨yb, bb⟩, hn, hi', hr, hs, hq⟩ := my i hi
      unfold CY
      simp only [f', sF, sn]
      rw [nk ga (by decide), iI _ d5, wi _ d0 (kne b0 as (by decide)) (kne b0 ab (by decide)), wi _ (kne bs a0 (by decide)) d1 (kne bs ab (by decide)), wi _ (kne bb a0 (by decide)) (kne bb as (by decide)) db]
      exact ⟨⟨y5, A' k5⟩, ⟨y0, A' b0⟩, ⟨ys, A' bs⟩, ⟨yb, A' bb⟩, hn, hi', hr, hs, hq⟩
  · rw [nk hA2 (by decide)] at hi hj
    simp only [f', q']
    exact md i j hi hj hn
/-- the rows for rolling are there, each by itself, on both sides -/
def RR (o2 : Nat) (S : wPS) (o : Nat) : Prop := isA S o2 9 ∧ (S.F o2 7 = some (S.f o2 7) ∧ isA S (S.f o2 7) 6) ∧ (∀ j, j ≤ 3 → S.F (S.f o2 7) j = some (S.f (S.f o2 7) j)) ∧ (∀ i j, i < j → j ≤ 3 → ¬ S.f (S.f o2 7) i = S.f (S.f o2 7) j) ∧ (∀ j, 29 ≤ j → j ≤ 32 → S.F o j = some (S.f o j)) ∧ (∀ i j, 29 ≤ i → i < j → j ≤ 32 → ¬ S.f o i = S.f o j)
theorem RR.keep {W : List (Nat × Nat)} {S U : wPS} {o2 o : Nat} (h : stp W [] [] S U) (_ : wtB S []) (hA : isA S o 12) (_ : ∀ p ∈ ([] : List (Nat × Nat)), p ∉ W) (_ : True) (m : RR o2 S o) : RR o2 U o := by
  obtain ⟨hA2, ⟨e7, hr⟩, m3, m4, m5, m6⟩ := m
  have x7 := h.x.F hA2 (Or.inl (by decide)) e7
  have f7 : U.f o2 7 = S.f o2 7 := f_of x7
  have fj : ∀ j, j ≤ 3 → U.F (S.f o2 7) j = some (S.f (S.f o2 7) j) := fun j hj => h.x.F hr (Or.inl (by decide)) (m3 j hj)
  have fk : ∀ j, 29 ≤ j → j ≤ 32 → U.F o j = some (S.f o j) := fun j h1 h2 => h.x.F hA (Or.inl (by decide)) (m5 j h1 h2)
  refine ⟨h.x.A hA2, ⟨by rw [f7]; exact x7, by rw [f7]; exact h.x.A hr⟩, fun j hj => ?_, fun i j hi hj => ?_, fun j h1 h2 => ?_, fun i j h1 h2 h3 => ?_⟩
  · rw [f7, f_of (fj j hj)]; exact fj j hj
  · rw [f7, f_of (fj i (by omega)), f_of (fj j hj)]; exact m4 i j hi hj
  · rw [f_of (fk j h1 h2)]; exact fk j h1 h2
  · rw [f_of (fk i h1 (by omega)), f_of (fk j (by omega) h3)]; exact m6 i j h1 h2 h3
/-- what holds all through the law's body -/
def LC (p : Program) (l : Launch) (s : State) (m : MethodId) (c : Code) (b L : Nat) (xs : Nat → Int32) (D : va_G) (cy : Nat → ClassId) (c8 c9 : ClassId) (e0 mi : Nat) : Prop :=
  p.tables.exec = Jvm.exec ∧ c.code = cL_law ∧ c.maxLocals = 9 ∧ s.vm.findClass RL = some m.cls ∧ (∀ w ∈ wsL_law, w.before #[Value.ref b] s = true) ∧ va_X b L xs s s.heap ∧ b < s.heap.size ∧ NW s ∧ TH (fun q => s.heap.size ≤ q) s ∧ OU e0 mi (fun q => s.heap.size ≤ q) s s.heap ∧ va_K D vwCl (tyX cy c8 c9) s ∧ l.stackTraces = false ∧ NC s
/-- what holds at the head of each round: the shop, the reference, the two rows of answers -/
def LI (D : va_G) (cy : Nat → ClassId) (c8 c9 : ClassId) (e0 : Nat) (A : Nat → Prop) (o1 o2 qo qd : Nat) (fo : Nat → Int64) (fd : Nat → UInt64) (S : wPS) (H : Heap) : Prop :=
  va_P D vwCl (XO c8 c9 qo qd fo fd ++ PL cy S) H ∧ va_D A (XO c8 c9 qo qd fo fd ++ PL cy S) ∧ wtB S [] ∧ isA S o2 9 ∧ isA S o1 12 ∧ S.F o1 77 = some e0 ∧ MV S o1 ∧ IV S o1 ∧ RG o2 S o1 ∧ RC o2 S o1 ∧ RR o2 S o1
theorem lcmp_self (x : Int64) : lg_cmp x x = 0 := by
  unfold lg_cmp
  simp
theorem rng_ok {x a b : Int32} (h : a.toInt ≤ x.toInt ∧ x.toInt ≤ b.toInt) : f_X9_needRange x a b = .ok () := by
  unfold f_X9_needRange
  rw [if_neg (fun q => by have := lt_i q; omega), if_pos (Int32.le_iff_toInt_le.mpr h.2)]
theorem rng_er {x a b : Int32} (h : ¬ (a.toInt ≤ x.toInt ∧ x.toInt ≤ b.toInt)) : f_X9_needRange x a b = .error "java/lang/IllegalArgumentException" := by
  unfold f_X9_needRange
  split
  · rfl
  · rename_i h1
    rw [if_neg (fun q => h ⟨nlt_i h1, le_i q⟩)]
theorem in_ok {x lo hi : Int64} (h : lo.toInt ≤ x.toInt ∧ x.toInt ≤ hi.toInt) : f_X12_in x lo hi = 1 := by
  unfold f_X12_in
  rw [if_neg (fun q => by have := lc_lt q; omega), if_neg (fun q => by have := lc_gt q; omega)]
theorem in_no {x lo hi : Int64} (h : ¬ (lo.toInt ≤ x.toInt ∧ x.toInt ≤ hi.toInt)) : f_X12_in x lo hi = 0 := by
  unfold f_X12_in
  split
  · rfl
  · rename_i h1
    split
    · rfl
    · rename_i h2
      exact absurd ⟨lc_nlt h1, lc_ngt h2⟩ h
theorem eqH {α : Type} {call : Except String α} {cv : α → Int64} {wc : String → Int32} {r3 r20 : Int32} {ans : Int64} {fo f5 : Nat → Int64} (h : (∃ v, call = .ok v ∧ r3 = 0 ∧ f5 = vp_updL fo (0 : Int32).toNatClampNeg (cv v)) ∨ ∃ E, call = .error E ∧ r3 = wc E ∧ f5 = fo) (hc : (∃ v, call = .ok v ∧ r20 = 0 ∧ cv v = ans) ∨ ∃ E, call = .error E ∧ r20 = wc E ∧ ¬ wc E = 0) : r20 = r3 ∧ (r3 = 0 → f5 (0 : Int32).toNatClampNeg = ans) := by
  rcases hc with ⟨v, e1, e2, e3⟩ | ⟨E, e1, e2, e3⟩
  · rcases h with ⟨w, g1, g2, g3⟩ | ⟨E, g1, -, -⟩
    · rw [e1] at g1; cases g1
      exact ⟨e2.trans g2.symm, fun _ => by rw [g3, ← e3]; simp [vp_updL]⟩
    · rw [e1] at g1; cases g1
  · rcases h with ⟨w, g1, -, -⟩ | ⟨E2, g1, g2, -⟩
    · rw [e1] at g1; cases g1
    · rw [e1] at g1; cases g1
      exact ⟨e2.trans g2.symm, fun q => absurd (g2.symm.trans q) e3⟩
theorem nt_ok {x : Int32} (h : 6 ≤ x.toInt ∧ x.toInt ≤ 200) : f_X9_needTeeth x = .ok () := by
  have a1 : (6 : Int32).toInt = 6 := rfl
  have a2 : (200 : Int32).toInt = 200 := rfl
  unfold f_X9_needTeeth
  rw [eB_ok (rng_ok (by rw [a1, a2]; exact h))]
theorem nt_er {x : Int32} (h : ¬ (6 ≤ x.toInt ∧ x.toInt ≤ 200)) : f_X9_needTeeth x = .error "java/lang/IllegalArgumentException" := by
  have a1 : (6 : Int32).toInt = 6 := rfl
  have a2 : (200 : Int32).toInt = 200 := rfl
  unfold f_X9_needTeeth
  exact eB_er (rng_er (by rw [a1, a2]; exact h))
theorem li64 {x : Int32} {a b : Int} {la lb : Int64} (ha : la.toInt = a) (hb : lb.toInt = b) (h : a ≤ x.toInt ∧ x.toInt ≤ b) : f_X12_in x.toInt64 la lb = 1 := in_ok (by rw [i64_i, ha, hb]; exact h)
theorem li64n {x : Int32} {a b : Int} {la lb : Int64} (ha : la.toInt = a) (hb : lb.toInt = b) (h : ¬ (a ≤ x.toInt ∧ x.toInt ≤ b)) : f_X12_in x.toInt64 la lb = 0 := in_no (by rw [i64_i, ha, hb]; exact h)
/-! gear: refused alike on both sides, or one more on both -/
theorem ca_gear {S S4 S16 : wPS} {o1 o2 : Nat} {y1 y2 y3 y4 r12 : Int32} (hc : (S.I o2 1).toInt = (S4.I (S4.f o1 0) 2).toInt) (rr : 0 ≤ (S.I o2 1).toInt ∧ (S.I o2 1).toInt ≤ 20) (h2 : ((((f_X12_in y1.toInt64 (6 : Int64) (200 : Int64)).toInt = 0 ∨ (f_X12_in y2.toInt64 (500 : Int64) (10000 : Int64)).toInt = 0 ∨ (f_X12_in y3.toInt64 (-500 : Int64) (500 : Int64)).toInt = 0 ∨ (f_X12_in y4.toInt64 (1000 : Int64) (99999 : Int64)).toInt = 0) ∧ r12.toInt = 0 ∧ (S16.I o1 15).toInt = 1 ∧ (S16.I (S4.f o1 0) 2).toInt = (S4.I (S4.f o1 0) 2).toInt) ∨ ((¬ (f_X12_in y1.toInt64 (6 : Int64) (200 : Int64)).toInt = 0 ∧ ¬ (f_X12_in y2.toInt64 (500 : Int64) (10000 : Int64)).toInt = 0 ∧ ¬ (f_X12_in y3.toInt64 (-500 : Int64) (500 : Int64)).toInt = 0 ∧ ¬ (f_X12_in y4.toInt64 (1000 : Int64) (99999 : Int64)).toInt = 0) ∧ (S4.I (S4.f o1 0) 2).toInt = 20 ∧ r12.toInt = 0 ∧ (S16.I o1 15).toInt = 2 ∧ (S16.I (S4.f o1 0) 2).toInt = (S4.I (S4.f o1 0) 2).toInt) ∨ ((¬ (f_X12_in y1.toInt64 (6 : Int64) (200 : Int64)).toInt = 0 ∧ ¬ (f_X12_in y2.toInt64 (500 : Int64) (10000 : Int64)).toInt = 0 ∧ ¬ (f_X12_in y3.toInt64 (-500 : Int64) (500 : Int64)).toInt = 0 ∧ ¬ (f_X12_in y4.toInt64 (1000 : Int64) (99999 : Int64)).toInt = 0) ∧ ¬ (S4.I (S4.f o1 0) 2).toInt = 20 ∧ r12.toInt = (S4.I (S4.f o1 0) 2).toInt ∧ (S16.I o1 15).toInt = 0 ∧ (S16.I (S4.f o1 0) 2).toInt = (S4.I (S4.f o1 0) 2).toInt + 1))) : (∃ (E : String) (n : Int32), f_X9_gear S o2 y1 y2 y3 y4 = .error E ∧ wc_gear E = n ∧ ¬ n = 0 ∧ (S16.I o1 15).toInt = n.toInt ∧ (S16.I (S4.f o1 0) 2).toInt = (S4.I (S4.f o1 0) 2).toInt) ∨ (f_X9_gear S o2 y1 y2 y3 y4 = .ok (S.I o2 1) ∧ (S16.I o1 15).toInt = 0 ∧ r12.toInt = (S4.I (S4.f o1 0) 2).toInt ∧ (S16.I (S4.f o1 0) 2).toInt = (S4.I (S4.f o1 0) 2).toInt + 1) := by
  have l20 : (20 : Int32).toInt = 20 := rfl
  have bad : ∀ (E : String) (n : Int32), f_X9_gear S o2 y1 y2 y3 y4 = .error E → wc_gear E = n → ¬ n = 0 → (S16.I o1 15).toInt = n.toInt → (S16.I (S4.f o1 0) 2).toInt = (S4.I (S4.f o1 0) 2).toInt → (∃ (E : String) (n : Int32), f_X9_gear S o2 y1 y2 y3 y4 = .error E ∧ wc_gear E = n ∧ ¬ n = 0 ∧ (S16.I o1 15).toInt = n.toInt ∧ (S16.I (S4.f o1 0) 2).toInt = (S4.I (S4.f o1 0) 2).toInt) ∨ (f_X9_gear S o2 y1 y2 y3 y4 = .ok (S.I o2 1) ∧ (S16.I o1 15).toInt = 0 ∧ r12.toInt = (S4.I (S4.f o1 0) 2).toInt ∧ (S16.I (S4.f o1 0) 2).toInt = (S4.I (S4.f o1 0) 2).toInt + 1) := fun E n e1 e2 e3 e4 e5 => Or.inl ⟨E, n, e1, e2, e3, e4, e5⟩
  have am500 : (-500 : Int32).toInt = -500 := rfl
  have a6 : (6 : Int32).toInt = 6 := rfl
  have a200 : (200 : Int32).toInt = 200 := rfl
  have a500 : (500 : Int32).toInt = 500 := rfl
  have a1000 : (1000 : Int32).toInt = 1000 := rfl
  have a10000 : (10000 : Int32).toInt = 10000 := rfl
  have a99999 : (99999 : Int32).toInt = 99999 := rfl
  by_cases c0 : (6 : Int) ≤ y1.toInt ∧ y1.toInt ≤ 200
  · have z0 : (f_X12_in y1.toInt64 (6 : Int64) (200 : Int64)).toInt = 1 := by rw [li64 (a := 6) (b := 200) rfl rfl c0]; rfl
    by_cases c1 : (500 : Int) ≤ y2.toInt ∧ y2.toInt ≤ 10000
    · have z1 : (f_X12_in y2.toInt64 (500 : Int64) (10000 : Int64)).toInt = 1 := by rw [li64 (a := 500) (b := 10000) rfl rfl c1]; rfl
      by_cases c2 : (-500 : Int) ≤ y3.toInt ∧ y3.toInt ≤ 500
      · have z2 : (f_X12_in y3.toInt64 (-500 : Int64) (500 : Int64)).toInt = 1 := by rw [li64 (a := -500) (b := 500) rfl rfl c2]; rfl
        by_cases c3 : (1000 : Int) ≤ y4.toInt ∧ y4.toInt ≤ 99999
        · have z3 : (f_X12_in y4.toInt64 (1000 : Int64) (99999 : Int64)).toInt = 1 := by rw [li64 (a := 1000) (b := 99999) rfl rfl c3]; rfl
          by_cases c5 : (S.I o2 1).toInt < 20
          · have e1 : f_X9_gear S o2 y1 y2 y3 y4 = .ok (S.I o2 1) := by
              unfold f_X9_gear
              rw [eB_ok (nt_ok c0), eB_ok (rng_ok (by rw [a500, a10000]; exact c1)), eB_ok (rng_ok (by rw [am500, a500]; exact c2)), eB_ok (rng_ok (by rw [a1000, a99999]; exact c3)), if_pos (Int32.lt_iff_toInt_lt.mpr (by rw [l20]; exact c5))]
            exact Or.inr ⟨e1, by omega, by omega, by omega⟩
          · refine bad "java/lang/IllegalStateException" 2 ?_ ((if_neg (by decide)).trans (if_pos rfl)) (by decide) (show _ = (2 : Int) by omega) (by omega)
            unfold f_X9_gear
            rw [eB_ok (nt_ok c0), eB_ok (rng_ok (by rw [a500, a10000]; exact c1)), eB_ok (rng_ok (by rw [am500, a500]; exact c2)), eB_ok (rng_ok (by rw [a1000, a99999]; exact c3)), if_neg (fun q => c5 (by have := Int32.lt_iff_toInt_lt.mp q; rw [l20] at this; exact this))]
        · have z3 : (f_X12_in y4.toInt64 (1000 : Int64) (99999 : Int64)).toInt = 0 := by rw [li64n (a := 1000) (b := 99999) rfl rfl c3]; rfl
          refine bad "java/lang/IllegalArgumentException" 1 ?_ (if_pos rfl) (by decide) (show _ = (1 : Int) by omega) (by omega)
          unfold f_X9_gear
          rw [eB_ok (nt_ok c0), eB_ok (rng_ok (by rw [a500, a10000]; exact c1)), eB_ok (rng_ok (by rw [am500, a500]; exact c2))]
          exact eB_er (rng_er (by rw [a1000, a99999]; exact c3))
      · have z2 : (f_X12_in y3.toInt64 (-500 : Int64) (500 : Int64)).toInt = 0 := by rw [li64n (a := -500) (b := 500) rfl rfl c2]; rfl
        refine bad "java/lang/IllegalArgumentException" 1 ?_ (if_pos rfl) (by decide) (show _ = (1 : Int) by omega) (by omega)
        unfold f_X9_gear
        rw [eB_ok (nt_ok c0), eB_ok (rng_ok (by rw [a500, a10000]; exact c1))]
        exact eB_er (rng_er (by rw [am500, a500]; exact c2))
    · have z1 : (f_X12_in y2.toInt64 (500 : Int64) (10000 : Int64)).toInt = 0 := by rw [li64n (a := 500) (b := 10000) rfl rfl c1]; rfl
      refine bad "java/lang/IllegalArgumentException" 1 ?_ (if_pos rfl) (by decide) (show _ = (1 : Int) by omega) (by omega)
      unfold f_X9_gear
      rw [eB_ok (nt_ok c0)]
      exact eB_er (rng_er (by rw [a500, a10000]; exact c1))
  · have z0 : (f_X12_in y1.toInt64 (6 : Int64) (200 : Int64)).toInt = 0 := by rw [li64n (a := 6) (b := 200) rfl rfl c0]; rfl
    refine bad "java/lang/IllegalArgumentException" 1 ?_ (if_pos rfl) (by decide) (show _ = (1 : Int) by omega) (by omega)
    unfold f_X9_gear
    exact eB_er (nt_er c0)
theorem RG.gear {S S4 S16 : wPS} {o1 o2 : Nat} {y1 y2 y3 y4 r3 r12 : Int32} {fo f5 : Nat → Int64} (m : RG o2 S o1) (hA : isA S o1 12) (hW : wtB S []) (hw : stp [(9, 1), (19, 101)] [] [] S S4) (hm : stp [(12, 15), (14, 0), (14, 1), (14, 2), (22, 101), (110, 10), (114, 10), (122, 10)] [] [] S4 S16) (h : (∃ v, f_X9_gear S o2 y1 y2 y3 y4 = .ok v ∧ r3 = 0 ∧ f5 = vp_updL fo (0 : Int32).toNatClampNeg (v.toInt64) ∧ (S4.I o2 1).toInt = (S.I o2 1).toInt + 1 ∧ (∃ g : Nat, g ∉ S.L ∧ isA S4 g 2 ∧ S4.r (S.f o2 0) (S.I o2 1).toNatClampNeg = some g ∧ (∀ i : Nat, i ≠ (S.I o2 1).toNatClampNeg → S4.r (S.f o2 0) i = S.r (S.f o2 0) i) ∧ S4.I g 0 = S.I o2 1 ∧ S4.I g 1 = y1 ∧ S4.I g 2 = y2 ∧ S4.I g 3 = y3 ∧ S4.I g 4 = y4 ∧ S4.I g 7 = (0 : Int32) ∧ S4.I g 8 = (-1 : Int32) ∧ S4.I g 9 = (0 : Int32) ∧ S4.I g 10 = (0 : Int32) ∧ S4.I g 11 = (0 : Int32) ∧ S4.f g 5 ∉ S.L ∧ S4.f (S4.f g 5) 0 ∉ S.L ∧ S4.n (S4.f (S4.f g 5) 0) = y1.toNatClampNeg ∧ (∀ i : Nat, S4.i (S4.f (S4.f g 5) 0) i = 0) ∧ S4.f (S4.f g 5) 1 ∉ S.L ∧ (∀ i : Nat, S4.i (S4.f (S4.f g 5) 1) i = 0) ∧ S4.I (S4.f g 5) 2 = (0 : Int32))) ∨ (∃ E, f_X9_gear S o2 y1 y2 y3 y4 = .error E ∧ r3 = wc_gear E ∧ f5 = fo ∧ S4 = S)) (h2 : ((((f_X12_in y1.toInt64 (6 : Int64) (200 : Int64)).toInt = 0 ∨ (f_X12_in y2.toInt64 (500 : Int64) (10000 : Int64)).toInt = 0 ∨ (f_X12_in y3.toInt64 (-500 : Int64) (500 : Int64)).toInt = 0 ∨ (f_X12_in y4.toInt64 (1000 : Int64) (99999 : Int64)).toInt = 0) ∧ r12.toInt = 0 ∧ (S16.I o1 15).toInt = 1 ∧ (S16.I (S4.f o1 0) 2).toInt = (S4.I (S4.f o1 0) 2).toInt) ∨ ((¬ (f_X12_in y1.toInt64 (6 : Int64) (200 : Int64)).toInt = 0 ∧ ¬ (f_X12_in y2.toInt64 (500 : Int64) (10000 : Int64)).toInt = 0 ∧ ¬ (f_X12_in y3.toInt64 (-500 : Int64) (500 : Int64)).toInt = 0 ∧ ¬ (f_X12_in y4.toInt64 (1000 : Int64) (99999 : Int64)).toInt = 0) ∧ (S4.I (S4.f o1 0) 2).toInt = 20 ∧ r12.toInt = 0 ∧ (S16.I o1 15).toInt = 2 ∧ (S16.I (S4.f o1 0) 2).toInt = (S4.I (S4.f o1 0) 2).toInt) ∨ ((¬ (f_X12_in y1.toInt64 (6 : Int64) (200 : Int64)).toInt = 0 ∧ ¬ (f_X12_in y2.toInt64 (500 : Int64) (10000 : Int64)).toInt = 0 ∧ ¬ (f_X12_in y3.toInt64 (-500 : Int64) (500 : Int64)).toInt = 0 ∧ ¬ (f_X12_in y4.toInt64 (1000 : Int64) (99999 : Int64)).toInt = 0) ∧ ¬ (S4.I (S4.f o1 0) 2).toInt = 20 ∧ r12.toInt = (S4.I (S4.f o1 0) 2).toInt ∧ (S16.I o1 15).toInt = 0 ∧ (S16.I (S4.f o1 0) 2).toInt = (S4.I (S4.f o1 0) 2).toInt + 1)) ∧ ((S16.I (S4.f o1 0) 2).toInt = (S4.I (S4.f o1 0) 2).toInt → ∃ t : Int32, S16 = S4.sI o1 15 t) ∧ ((S16.I (S4.f o1 0) 2).toInt = (S4.I (S4.f o1 0) 2).toInt + 1 → ∃ g a : Nat, g ∉ S4.L ∧ isA S16 g 10 ∧ S16.F (S4.f o1 0) 1 = some a ∧ isA S16 a 22 ∧ S16.r a (S4.I (S4.f o1 0) 2).toNatClampNeg = some g ∧ (∀ i : Nat, (i : Int) < (S4.I (S4.f o1 0) 2).toInt → S16.r a i = S4.r (S4.f (S4.f o1 0) 1) i) ∧ S16.I g 1 = y1 ∧ S16.I g 2 = y2 ∧ S16.I g 3 = y3 ∧ S16.I g 4 = y4 ∧ S16.I g 7 = (0 : Int32) ∧ S16.I g 8 = (-1 : Int32) ∧ S16.I g 10 = (0 : Int32) ∧ S16.I g 11 = (0 : Int32) ∧ S16.I g 18 = (0 : Int32) ∧ S16.f g 5 ∉ S4.L ∧ ∀ j : Nat, S16.i (S16.f g 5) j = 0)) : RG o2 S16 o1 := by
  obtain ⟨f4, m4, q4, -, -⟩ := RG.st hw hW hA (by decide) m
  have hc : (S.I o2 1).toInt = (S4.I (S4.f o1 0) 2).toInt := by rw [f4, q4]; exact m.2.2.1
  have rr := ((hW.at m.1 List.not_mem_nil).to_9 m.1.2.1).R1
  obtain ⟨hF, h3, h4⟩ := h2
  rcases ca_gear hc rr hF with ⟨E, n, e1, e2, e3, e4, e5⟩ | ⟨e1, e2, e3, e4⟩
  · rcases h with ⟨v, g, -⟩ | ⟨E2, g, -, -, g4⟩
    · rw [e1] at g; cases g
    · obtain ⟨t, ht⟩ := h3 e5
      rw [ht, g4]; exact RG.sI hA m
  · rcases h with ⟨v, g, -, -, c4, N⟩ | ⟨E2, g, -⟩
    · exact RG.add m hA hW hw hm (by decide) (by decide) c4 N e4 (h4 e4)
    · rw [e1] at g; cases g
theorem RK.gear {S S4 S16 : wPS} {o1 o2 : Nat} {y1 y2 y3 y4 r3 r12 : Int32} {fo f5 : Nat → Int64} (m : RK o2 S o1) (hA : isA S o1 12) (hW : wtB S []) (hw : stp [(9, 1), (19, 101)] [] [] S S4) (hm : stp [(12, 15), (14, 0), (14, 1), (14, 2), (22, 101), (110, 10), (114, 10), (122, 10)] [] [] S4 S16) (h : (∃ v, f_X9_gear S o2 y1 y2 y3 y4 = .ok v ∧ r3 = 0 ∧ f5 = vp_updL fo (0 : Int32).toNatClampNeg (v.toInt64) ∧ (S4.I o2 1).toInt = (S.I o2 1).toInt + 1 ∧ (∃ g : Nat, g ∉ S.L ∧ isA S4 g 2 ∧ S4.r (S.f o2 0) (S.I o2 1).toNatClampNeg = some g ∧ (∀ i : Nat, i ≠ (S.I o2 1).toNatClampNeg → S4.r (S.f o2 0) i = S.r (S.f o2 0) i) ∧ S4.I g 0 = S.I o2 1 ∧ S4.I g 1 = y1 ∧ S4.I g 2 = y2 ∧ S4.I g 3 = y3 ∧ S4.I g 4 = y4 ∧ S4.I g 7 = (0 : Int32) ∧ S4.I g 8 = (-1 : Int32) ∧ S4.I g 9 = (0 : Int32) ∧ S4.I g 10 = (0 : Int32) ∧ S4.I g 11 = (0 : Int32) ∧ S4.f g 5 ∉ S.L ∧ S4.f (S4.f g 5) 0 ∉ S.L ∧ S4.n (S4.f (S4.f g 5) 0) = y1.toNatClampNeg ∧ (∀ i : Nat, S4.i (S4.f (S4.f g 5) 0) i = 0) ∧ S4.f (S4.f g 5) 1 ∉ S.L ∧ (∀ i : Nat, S4.i (S4.f (S4.f g 5) 1) i = 0) ∧ S4.I (S4.f g 5) 2 = (0 : Int32))) ∨ (∃ E, f_X9_gear S o2 y1 y2 y3 y4 = .error E ∧ r3 = wc_gear E ∧ f5 = fo ∧ S4 = S)) (h2 : ((((f_X12_in y1.toInt64 (6 : Int64) (200 : Int64)).toInt = 0 ∨ (f_X12_in y2.toInt64 (500 : Int64) (10000 : Int64)).toInt = 0 ∨ (f_X12_in y3.toInt64 (-500 : Int64) (500 : Int64)).toInt = 0 ∨ (f_X12_in y4.toInt64 (1000 : Int64) (99999 : Int64)).toInt = 0) ∧ r12.toInt = 0 ∧ (S16.I o1 15).toInt = 1 ∧ (S16.I (S4.f o1 0) 2).toInt = (S4.I (S4.f o1 0) 2).toInt) ∨ ((¬ (f_X12_in y1.toInt64 (6 : Int64) (200 : Int64)).toInt = 0 ∧ ¬ (f_X12_in y2.toInt64 (500 : Int64) (10000 : Int64)).toInt = 0 ∧ ¬ (f_X12_in y3.toInt64 (-500 : Int64) (500 : Int64)).toInt = 0 ∧ ¬ (f_X12_in y4.toInt64 (1000 : Int64) (99999 : Int64)).toInt = 0) ∧ (S4.I (S4.f o1 0) 2).toInt = 20 ∧ r12.toInt = 0 ∧ (S16.I o1 15).toInt = 2 ∧ (S16.I (S4.f o1 0) 2).toInt = (S4.I (S4.f o1 0) 2).toInt) ∨ ((¬ (f_X12_in y1.toInt64 (6 : Int64) (200 : Int64)).toInt = 0 ∧ ¬ (f_X12_in y2.toInt64 (500 : Int64) (10000 : Int64)).toInt = 0 ∧ ¬ (f_X12_in y3.toInt64 (-500 : Int64) (500 : Int64)).toInt = 0 ∧ ¬ (f_X12_in y4.toInt64 (1000 : Int64) (99999 : Int64)).toInt = 0) ∧ ¬ (S4.I (S4.f o1 0) 2).toInt = 20 ∧ r12.toInt = (S4.I (S4.f o1 0) 2).toInt ∧ (S16.I o1 15).toInt = 0 ∧ (S16.I (S4.f o1 0) 2).toInt = (S4.I (S4.f o1 0) 2).toInt + 1)) ∧ ((S16.I (S4.f o1 0) 2).toInt = (S4.I (S4.f o1 0) 2).toInt → ∃ t : Int32, S16 = S4.sI o1 15 t) ∧ ((S16.I (S4.f o1 0) 2).toInt = (S4.I (S4.f o1 0) 2).toInt + 1 → ∃ g a : Nat, g ∉ S4.L ∧ isA S16 g 10 ∧ S16.F (S4.f o1 0) 1 = some a ∧ isA S16 a 22 ∧ S16.r a (S4.I (S4.f o1 0) 2).toNatClampNeg = some g ∧ (∀ i : Nat, (i : Int) < (S4.I (S4.f o1 0) 2).toInt → S16.r a i = S4.r (S4.f (S4.f o1 0) 1) i) ∧ S16.I g 1 = y1 ∧ S16.I g 2 = y2 ∧ S16.I g 3 = y3 ∧ S16.I g 4 = y4 ∧ S16.I g 7 = (0 : Int32) ∧ S16.I g 8 = (-1 : Int32) ∧ S16.I g 10 = (0 : Int32) ∧ S16.I g 11 = (0 : Int32) ∧ S16.I g 18 = (0 : Int32) ∧ S16.f g 5 ∉ S4.L ∧ ∀ j : Nat, S16.i (S16.f g 5) j = 0)) : RK o2 S16 o1 := by
  obtain ⟨f4, m4, q4, -, -⟩ := RK.st hw hW hA (by decide) m
  have hc : (S.I o2 1).toInt = (S4.I (S4.f o1 0) 2).toInt := by rw [f4, q4]; exact m.2.2.1
  have rr := ((hW.at m.1 List.not_mem_nil).to_9 m.1.2.1).R1
  obtain ⟨hF, h3, h4⟩ := h2
  rcases ca_gear hc rr hF with ⟨E, n, e1, e2, e3, e4, e5⟩ | ⟨e1, e2, e3, e4⟩
  · rcases h with ⟨v, g, -⟩ | ⟨E2, g, -, -, g4⟩
    · rw [e1] at g; cases g
    · obtain ⟨t, ht⟩ := h3 e5
      rw [ht, g4]; exact RK.sI hA m
  · rcases h with ⟨v, g, -, -, c4, N⟩ | ⟨E2, g, -⟩
    · exact RK.add m hA hW hw hm (by decide) (by decide) c4 N e4 (h4 e4)
    · rw [e1] at g; cases g
theorem gear_rng {S : wPS} {o2 : Nat} {y1 y2 y3 y4 v : Int32} (h : f_X9_gear S o2 y1 y2 y3 y4 = .ok v) : 6 ≤ y1.toInt ∧ y1.toInt ≤ 200 := by
  unfold f_X9_gear at h
  by_cases c1 : 6 ≤ y1.toInt ∧ y1.toInt ≤ 200
  · exact c1
  · rw [eB_er (nt_er c1)] at h; cases h
theorem RC.gear {S S4 S16 : wPS} {o1 o2 : Nat} {y1 y2 y3 y4 r3 r12 : Int32} {fo f5 : Nat → Int64} (m : RC o2 S o1) (hA : isA S o1 12) (hW : wtB S []) (hw : stp [(9, 1), (19, 101)] [] [] S S4) (hm : stp [(12, 15), (14, 0), (14, 1), (14, 2), (22, 101), (110, 10), (114, 10), (122, 10)] [] [] S4 S16) (h : (∃ v, f_X9_gear S o2 y1 y2 y3 y4 = .ok v ∧ r3 = 0 ∧ f5 = vp_updL fo (0 : Int32).toNatClampNeg (v.toInt64) ∧ (S4.I o2 1).toInt = (S.I o2 1).toInt + 1 ∧ (∃ g : Nat, g ∉ S.L ∧ isA S4 g 2 ∧ S4.r (S.f o2 0) (S.I o2 1).toNatClampNeg = some g ∧ (∀ i : Nat, i ≠ (S.I o2 1).toNatClampNeg → S4.r (S.f o2 0) i = S.r (S.f o2 0) i) ∧ S4.I g 0 = S.I o2 1 ∧ S4.I g 1 = y1 ∧ S4.I g 2 = y2 ∧ S4.I g 3 = y3 ∧ S4.I g 4 = y4 ∧ S4.I g 7 = (0 : Int32) ∧ S4.I g 8 = (-1 : Int32) ∧ S4.I g 9 = (0 : Int32) ∧ S4.I g 10 = (0 : Int32) ∧ S4.I g 11 = (0 : Int32) ∧ S4.f g 5 ∉ S.L ∧ S4.f (S4.f g 5) 0 ∉ S.L ∧ S4.n (S4.f (S4.f g 5) 0) = y1.toNatClampNeg ∧ (∀ i : Nat, S4.i (S4.f (S4.f g 5) 0) i = 0) ∧ S4.f (S4.f g 5) 1 ∉ S.L ∧ (∀ i : Nat, S4.i (S4.f (S4.f g 5) 1) i = 0) ∧ S4.I (S4.f g 5) 2 = (0 : Int32))) ∨ (∃ E, f_X9_gear S o2 y1 y2 y3 y4 = .error E ∧ r3 = wc_gear E ∧ f5 = fo ∧ S4 = S)) (h2 : ((((f_X12_in y1.toInt64 (6 : Int64) (200 : Int64)).toInt = 0 ∨ (f_X12_in y2.toInt64 (500 : Int64) (10000 : Int64)).toInt = 0 ∨ (f_X12_in y3.toInt64 (-500 : Int64) (500 : Int64)).toInt = 0 ∨ (f_X12_in y4.toInt64 (1000 : Int64) (99999 : Int64)).toInt = 0) ∧ r12.toInt = 0 ∧ (S16.I o1 15).toInt = 1 ∧ (S16.I (S4.f o1 0) 2).toInt = (S4.I (S4.f o1 0) 2).toInt) ∨ ((¬ (f_X12_in y1.toInt64 (6 : Int64) (200 : Int64)).toInt = 0 ∧ ¬ (f_X12_in y2.toInt64 (500 : Int64) (10000 : Int64)).toInt = 0 ∧ ¬ (f_X12_in y3.toInt64 (-500 : Int64) (500 : Int64)).toInt = 0 ∧ ¬ (f_X12_in y4.toInt64 (1000 : Int64) (99999 : Int64)).toInt = 0) ∧ (S4.I (S4.f o1 0) 2).toInt = 20 ∧ r12.toInt = 0 ∧ (S16.I o1 15).toInt = 2 ∧ (S16.I (S4.f o1 0) 2).toInt = (S4.I (S4.f o1 0) 2).toInt) ∨ ((¬ (f_X12_in y1.toInt64 (6 : Int64) (200 : Int64)).toInt = 0 ∧ ¬ (f_X12_in y2.toInt64 (500 : Int64) (10000 : Int64)).toInt = 0 ∧ ¬ (f_X12_in y3.toInt64 (-500 : Int64) (500 : Int64)).toInt = 0 ∧ ¬ (f_X12_in y4.toInt64 (1000 : Int64) (99999 : Int64)).toInt = 0) ∧ ¬ (S4.I (S4.f o1 0) 2).toInt = 20 ∧ r12.toInt = (S4.I (S4.f o1 0) 2).toInt ∧ (S16.I o1 15).toInt = 0 ∧ (S16.I (S4.f o1 0) 2).toInt = (S4.I (S4.f o1 0) 2).toInt + 1)) ∧ ((S16.I (S4.f o1 0) 2).toInt = (S4.I (S4.f o1 0) 2).toInt → ∃ t : Int32, S16 = S4.sI o1 15 t) ∧ ((S16.I (S4.f o1 0) 2).toInt = (S4.I (S4.f o1 0) 2).toInt + 1 → ∃ g a : Nat, g ∉ S4.L ∧ isA S16 g 10 ∧ S16.F (S4.f o1 0) 1 = some a ∧ isA S16 a 22 ∧ S16.r a (S4.I (S4.f o1 0) 2).toNatClampNeg = some g ∧ (∀ i : Nat, (i : Int) < (S4.I (S4.f o1 0) 2).toInt → S16.r a i = S4.r (S4.f (S4.f o1 0) 1) i) ∧ S16.I g 1 = y1 ∧ S16.I g 2 = y2 ∧ S16.I g 3 = y3 ∧ S16.I g 4 = y4 ∧ S16.I g 7 = (0 : Int32) ∧ S16.I g 8 = (-1 : Int32) ∧ S16.I g 10 = (0 : Int32) ∧ S16.I g 11 = (0 : Int32) ∧ S16.I g 18 = (0 : Int32) ∧ S16.f g 5 ∉ S4.L ∧ ∀ j : Nat, S16.i (S16.f g 5) j = 0)) : RC o2 S16 o1 := by
  have RK' := RK.gear m.1 hA hW hw hm h h2
  obtain ⟨f4, m4, q4, -, -⟩ := RK.st hw hW hA (by decide) m.1
  have hc : (S.I o2 1).toInt = (S4.I (S4.f o1 0) 2).toInt := by rw [f4, q4]; exact m.1.2.2.1
  have k9 := (hW.at m.1.1 List.not_mem_nil).to_9 m.1.1.2.1
  have rr := k9.R1
  have z0 : (0 : Int32).toInt = 0 := rfl
  obtain ⟨hF, h3, h4⟩ := h2
  rcases ca_gear hc rr hF with ⟨E, n, e1, e2, e3, e4, e5⟩ | ⟨e1, e2, e3, e4⟩
  · rcases h with ⟨v, g, -⟩ | ⟨E2, g, -, -, g4⟩
    · rw [e1] at g; cases g
    · obtain ⟨t, ht⟩ := h3 e5
      rw [ht, g4]; exact RC.sI hA m
  · have ry := gear_rng e1
    rcases h with ⟨v, g, -, -, c4, N⟩ | ⟨E2, g, -⟩
    · obtain ⟨cI, g, b, ng, nb, gA, bA, pa, pb, qg, qb, qo⟩ := RK.qadd (PA := fun g => S4.I g 0 = S.I o2 1 ∧ S4.I g 1 = y1 ∧ S4.I g 2 = y2 ∧ S4.I g 3 = y3 ∧ S4.I g 4 = y4 ∧ S4.I g 7 = (0 : Int32) ∧ S4.I g 8 = (-1 : Int32) ∧ S4.I g 9 = (0 : Int32) ∧ S4.I g 10 = (0 : Int32) ∧ S4.I g 11 = (0 : Int32) ∧ S4.f g 5 ∉ S.L ∧ S4.f (S4.f g 5) 0 ∉ S.L ∧ S4.n (S4.f (S4.f g 5) 0) = y1.toNatClampNeg ∧ (∀ i : Nat, S4.i (S4.f (S4.f g 5) 0) i = 0) ∧ S4.f (S4.f g 5) 1 ∉ S.L ∧ (∀ i : Nat, S4.i (S4.f (S4.f g 5) 1) i = 0) ∧ S4.I (S4.f g 5) 2 = (0 : Int32)) (PB := fun g => S16.I g 1 = y1 ∧ S16.I g 2 = y2 ∧ S16.I g 3 = y3 ∧ S16.I g 4 = y4 ∧ S16.I g 7 = (0 : Int32) ∧ S16.I g 8 = (-1 : Int32) ∧ S16.I g 10 = (0 : Int32) ∧ S16.I g 11 = (0 : Int32) ∧ S16.I g 18 = (0 : Int32) ∧ S16.f g 5 ∉ S4.L ∧ ∀ j : Nat, S16.i (S16.f g 5) j = 0) m.1 hA hW hw hm (by decide) (by decide) c4 N (h4 e4)
      obtain ⟨a0, a1, a2, a3, a4, a7, a8, a9, a10, a11, nc, n0, nn, z0', n1, z1, sp⟩ := pa
      obtain ⟨-, -, -, -, -, -, -, -, -, nb5, zb⟩ := pb
      obtain ⟨m1, my, md⟩ := m
      have kg := (hw.1.at gA List.not_mem_nil).to_2 gA.2.1
      have cA := kg.F5.2
      have kc := (hw.1.at cA List.not_mem_nil).to_1 cA.2.1
      have kb := (hm.1.at bA List.not_mem_nil).to_10 bA.2.1
      have x5 := hm.x.F gA (Or.inl (by decide)) kg.F5.1
      have x0 := hm.x.F cA (Or.inl (by decide)) kc.F0.1
      have x1 := hm.x.F cA (Or.inl (by decide)) kc.F1.1
      have f5' : S16.f g 5 = S4.f g 5 := f_of x5
      have f0' : S16.f (S4.f g 5) 0 = S4.f (S4.f g 5) 0 := f_of x0
      have f1' : S16.f (S4.f g 5) 1 = S4.f (S4.f g 5) 1 := f_of x1
      have a0A := kc.F0.2.1
      have a1A := kc.F1.2.1
      have i0 : S16.i (S4.f (S4.f g 5) 0) = S4.i (S4.f (S4.f g 5) 0) := (hm.fR _ a0A.1 List.not_mem_nil).2.1 (by rw [a0A.2.1]; decide)
      have i1 : S16.i (S4.f (S4.f g 5) 1) = S4.i (S4.f (S4.f g 5) 1) := (hm.fR _ a1A.1 List.not_mem_nil).2.1 (by rw [a1A.2.1]; decide)
      have nn16 : S16.n (S4.f (S4.f g 5) 0) = y1.toNatClampNeg := (hm.x.n a0A).trans nn
      have Ig1 : S16.I g 1 = S4.I g 1 := ((hm.fR g gA.1 List.not_mem_nil).1 1 (by rw [gA.2.1]; decide)).1
      have Ic2 : S16.I (S4.f g 5) 2 = S4.I (S4.f g 5) 2 := ((hm.fR _ cA.1 List.not_mem_nil).1 2 (by rw [cA.2.1]; decide)).1
      have cy1 := cl_int (i := y1) (by omega)
      have yN : CY S16 g b := by
        unfold CY
        rw [f5', f0', f1', nn16, Ig1, Ic2, i0, i1, a1, sp]
        refine ⟨⟨x5, hm.x.A cA⟩, ⟨x0, hm.x.A a0A⟩, ⟨x1, hm.x.A a1A⟩, ⟨kb.F5.1, kb.F5.2.1⟩, ⟨cy1, ry⟩, ?_, fun k => by rw [zb, z0]; decide, ?_, fun k _ => ?_⟩
        · funext k; rw [z0', zb]
        · rw [c_zFF zb]; rfl
        · rw [z1, c_zQQ zb]; rfl
      have ck := cl_int (i := S.I o2 1) rr.1
      have old : ∀ i : Nat, (i : Int) < (S.I o2 1).toInt → CY S16 (S.q (S.f o2 0) i) (S.q (S.f (S.f o1 0) 1) i) ∧ S16.f (S.q (S.f o2 0) i) 5 = S.f (S.q (S.f o2 0) i) 5 ∧ S16.f (S.f (S.q (S.f o2 0) i) 5) 0 = S.f (S.f (S.q (S.f o2 0) i) 5) 0 ∧ S16.f (S.f (S.q (S.f o2 0) i) 5) 1 = S.f (S.f (S.q (S.f o2 0) i) 5) 1 ∧ S16.f (S.q (S.f (S.f o1 0) 1) i) 5 = S.f (S.q (S.f (S.f o1 0) 1) i) 5 := fun i hi => by
        obtain ⟨ga, gb, -⟩ := m1.2.2.2.1 i hi
        have y := my i hi
        have y1' := y.fr hw ga gb (by decide)
        have y2' := y1'.fr hm (hw.x.A ga) (hw.x.A gb) (by decide)
        have tx := hw.x.tr hm.x
        exact ⟨y2', f_of (tx.F ga (Or.inl (by decide)) y.1.1), f_of (tx.F y.1.2 (Or.inl (by decide)) y.2.1.1), f_of (tx.F y.1.2 (Or.inl (by decide)) y.2.2.1.1), f_of (tx.F gb (Or.inl (by decide)) y.2.2.2.1.1)⟩
      have new : ∀ i : Nat, (i : Int) < (S.I o2 1).toInt → ¬ S4.f g 5 = S.f (S.q (S.f o2 0) i) 5 ∧ ¬ S4.f (S4.f g 5) 0 = S.f (S.f (S.q (S.f o2 0) i) 5) 0 ∧ ¬ S4.f (S4.f g 5) 1 = S.f (S.f (S.q (S.f o2 0) i) 5) 1 ∧ ¬ S16.f b 5 = S.f (S.q (S.f (S.f o1 0) 1) i) 5 := fun i hi => by
        have y := my i hi
        exact ⟨fun q => nc (by rw [q]; exact y.1.2.1), fun q => n0 (by rw [q]; exact y.2.1.2.1), fun q => n1 (by rw [q]; exact y.2.2.1.2.1), fun q => nb5 (by rw [q]; exact (hw.x.A y.2.2.2.1.2).1)⟩
      refine ⟨RK', fun i hi => ?_, fun i j hi hj hn => ?_⟩
      · rw [cI, c4] at hi
        by_cases hik : i = (S.I o2 1).toNatClampNeg
        · rw [hik, qg, qb]; exact yN
        · have hi' : (i : Int) < (S.I o2 1).toInt := by omega
          rw [(qo i hi').1, (qo i hi').2]
          exact (old i hi').1
      · rw [cI, c4] at hi hj
        by_cases hik : i = (S.I o2 1).toNatClampNeg
        · have hj' : (j : Int) < (S.I o2 1).toInt := by omega
          obtain ⟨-, b1, b2, b3, b4⟩ := old j hj'
          rw [hik, qg, qb, (qo j hj').1, (qo j hj').2, f5', f0', f1', b1, b2, b3, b4]
          exact new j hj'
        · have hi' : (i : Int) < (S.I o2 1).toInt := by omega
          obtain ⟨-, d1, d2, d3, d4⟩ := old i hi'
          by_cases hjk : j = (S.I o2 1).toNatClampNeg
          · rw [hjk, qg, qb, (qo i hi').1, (qo i hi').2, f5', f0', f1', d1, d2, d3, d4]
            obtain ⟨r1, r2, r3', r4⟩ := new i hi'
            exact ⟨fun q => r1 q.symm, fun q => r2 q.symm, fun q => r3' q.symm, fun q => r4 q.symm⟩
          · have hj' : (j : Int) < (S.I o2 1).toInt := by omega
            obtain ⟨-, b1, b2, b3, b4⟩ := old j hj'
            rw [(qo i hi').1, (qo i hi').2, (qo j hj').1, (qo j hj').2, d1, d2, d3, d4, b1, b2, b3, b4]
            exact md i j hi' hj' hn
    · rw [e1] at g; cases g
/-! what both loops reckon -/
theorem nI_s {k : Nat} (h : k < 1000000) : nI k + (1 : Int32) = nI (k + 1) := by
  have e1 : (nI k).toInt = (k : Int) := nI_toInt (by omega)
  have e2 : (nI (k + 1)).toInt = ((k + 1 : Nat) : Int) := nI_toInt (by omega)
  exact Int32.toInt_inj.mp (by rw [t_addr (n := 1) rfl (by omega), e1, e2]; omega)
theorem nI_cN {k : Nat} (h : k < 1000000) : (nI k).toNatClampNeg = k := by
  have e1 : (nI k).toInt = (k : Int) := nI_toInt (by omega)
  have := cl_int (i := nI k) (by omega)
  omega
theorem c_max {w X : Int32} {a b : Int} (h1 : w.toInt = a) (h2 : X.toInt = b) : (if w < X then X else w).toInt = if a < b then b else a := by
  by_cases c : w < X
  · rw [if_pos c, if_pos (by rw [← h1, ← h2]; exact Int32.lt_iff_toInt_lt.mp c)]; exact h2
  · rw [if_neg c, if_neg (fun q => c (Int32.lt_iff_toInt_lt.mpr (by rw [h1, h2]; exact q)))]; exact h1
theorem c_min {w X : Int32} {a b : Int} (h1 : w.toInt = a) (h2 : X.toInt = b) : (if X < w then X else w).toInt = if b < a then b else a := by
  by_cases c : X < w
  · rw [if_pos c, if_pos (by rw [← h1, ← h2]; exact Int32.lt_iff_toInt_lt.mp c)]; exact h2
  · rw [if_neg c, if_neg (fun q => c (Int32.lt_iff_toInt_lt.mpr (by rw [h1, h2]; exact q)))]; exact h1
theorem c_max64 {w X : Int64} {a b : Int} (h1 : w.toInt = a) (h2 : X.toInt = b) : (if X < w then w else X).toInt = if a < b then b else a := by
  by_cases c : X < w
  · have c' := Int64.lt_iff_toInt_lt.mp c
    rw [if_pos c, if_neg (by omega)]; exact h1
  · have c' : ¬ X.toInt < w.toInt := fun q => c (Int64.lt_iff_toInt_lt.mpr q)
    rw [if_neg c]
    split <;> omega
theorem c_min64 {w X : Int64} {a b : Int} (h1 : w.toInt = a) (h2 : X.toInt = b) : (if X < w then X else w).toInt = if b < a then b else a := by
  by_cases c : X < w
  · have c' := Int64.lt_iff_toInt_lt.mp c
    rw [if_pos c, if_pos (by omega)]; exact h2
  · have c' : ¬ X.toInt < w.toInt := fun q => c (Int64.lt_iff_toInt_lt.mpr q)
    rw [if_neg c, if_neg (by omega)]; exact h1
theorem td_b {a b B : Int} (hb : 0 < b) (h : -B ≤ a ∧ a ≤ B) : -B ≤ a.tdiv b ∧ a.tdiv b ≤ B := by
  rcases Int.le_total 0 a with c | c
  · rw [Int.tdiv_eq_ediv_of_nonneg c]
    have h1 : 0 ≤ a / b := Int.ediv_nonneg c (Int.le_of_lt hb)
    have h2 : a / b ≤ a := Int.ediv_le_self b c
    omega
  · have e : a.tdiv b = -((-a).tdiv b) := by rw [Int.neg_tdiv]; omega
    rw [e, Int.tdiv_eq_ediv_of_nonneg (by omega)]
    have h1 : 0 ≤ (-a) / b := Int.ediv_nonneg (by omega) (Int.le_of_lt hb)
    have h2 : (-a) / b ≤ -a := Int.ediv_le_self b (by omega)
    omega
theorem t_tdiv {x y : Int32} (hy : 0 < y.toInt) (h : -1000000000 ≤ x.toInt ∧ x.toInt ≤ 1000000000) : (x / y).toInt = x.toInt.tdiv y.toInt := by
  have h1 := td_b hy h
  rw [Int32.toInt_div]
  exact Int.bmod_eq_of_le (by omega) (by omega)
theorem t64_tdiv {x y : Int64} (hy : 0 < y.toInt) (h : -1000000000 ≤ x.toInt ∧ x.toInt ≤ 1000000000) : (x / y).toInt = x.toInt.tdiv y.toInt := by
  have h1 := td_b hy h
  rw [Int64.toInt_div]
  exact Int.bmod_eq_of_le (by omega) (by omega)
theorem c_l2i {x : Int64} (h : -1000000000 ≤ x.toInt ∧ x.toInt ≤ 1000000000) : x.toInt32.toInt = x.toInt := by
  rw [Int64.toInt_toInt32]
  exact Int.bmod_eq_of_le (by omega) (by omega)
theorem soc_loop {S : wPS} {c N : Nat} (hN : S.n (S.f c 0) = N) (h200 : N ≤ 200) (hb : cBD (S.i (S.f c 0))) : ∀ (n k : Nat) (w : Int32), k ≤ N → N - k < n → w.toInt = cPS (S.i (S.f c 0)) k → (f_X1_sumOfClass_L5 S c (0 : Int32) (1 : Int32) n w (nI k)).1.toInt = cPS (S.i (S.f c 0)) N := by
  intro n
  induction n with
  | zero => intro k w _ h; omega
  | succ n ih =>
    intro k w hk hn hw
    have eN : (nI N).toInt = (N : Int) := nI_toInt (by omega)
    have ek : (nI k).toInt = (k : Int) := nI_toInt (by omega)
    rw [f_X1_sumOfClass_L5_s, if_neg (by decide), hN]
    by_cases c9 : k = N
    · rw [if_pos (Int32.le_iff_toInt_le.mpr (by omega)), ← c9]; exact hw
    · rw [if_neg (fun q => by have := Int32.le_iff_toInt_le.mp q; omega), nI_s (by omega), nI_cN (by omega)]
      have b1 := hb k
      have b2 := cPS_B hb (k := k) (by omega)
      refine ih (k + 1) _ (by omega) (by omega) ?_
      rw [t_add (by omega), hw]; rfl
theorem soc_all {S : wPS} {c N : Nat} (hN : S.n (S.f c 0) = N) (h200 : N ≤ 200) (hb : cBD (S.i (S.f c 0))) : (f_X1_sumOfClass S c (0 : Int32) (1 : Int32)).toInt = cPS (S.i (S.f c 0)) N := soc_loop hN h200 hb 100001 0 0 (by omega) (by omega) rfl
theorem ga_cases {S : wPS} {o2 o : Nat} (y : Int32) (m : RG o2 S o) (hW : wtB S []) (hA : isA S o 12) : (∃ (i a b : Nat), y = nI i ∧ (i : Int) < (S.I o2 1).toInt ∧ f_X9_gearAt S o2 y = .ok a ∧ ¬ f_X12_isGear S o y = 0 ∧ f_X12_gearAt S o y = b ∧ S.q (S.f o2 0) i = a ∧ S.q (S.f (S.f o 0) 1) i = b ∧ GRG S i a b) ∨ (f_X9_gearAt S o2 y = .error "java/lang/IndexOutOfBoundsException" ∧ f_X12_isGear S o y = 0) := by
  obtain ⟨hA2, ⟨e0, l0, n0⟩, mc, mg, -⟩ := m
  have R1 := ((hW.at hA2 List.not_mem_nil).to_9 hA2.2.1).R1
  have z0 : (0 : Int32).toInt = 0 := rfl
  have b0 : (0 : Int64).toInt = 0 := rfl
  have e6 : (S.I (S.f o 0) 2 - (1 : Int32)).toInt = (S.I (S.f o 0) 2).toInt - 1 := t_subr (n := 1) rfl (by omega)
  have hin : f_X12_isGear S o y = f_X12_in y.toInt64 0 ((S.I (S.f o 0) 2 - (1 : Int32)).toInt64) := rfl
  by_cases c : 0 ≤ y.toInt ∧ y.toInt < (S.I o2 1).toInt
  · have hc := cl_int (i := y) c.1
    refine Or.inl ⟨y.toNatClampNeg, S.q (S.f o2 0) y.toNatClampNeg, S.q (S.f (S.f o 0) 1) y.toNatClampNeg, nI_cl c.1, by omega, ?_, ?_, rfl, rfl, rfl, mg _ (by omega)⟩
    · unfold f_X9_gearAt
      rw [if_neg (fun q => by have := Int32.lt_iff_toInt_lt.mp q; omega), if_pos (Int32.lt_iff_toInt_lt.mpr c.2)]
    · rw [hin, in_ok (by rw [i64_i, i64_i, b0, e6]; omega)]; decide
  · refine Or.inr ⟨?_, ?_⟩
    · unfold f_X9_gearAt
      split
      · rfl
      · rename_i h1
        rw [if_neg (fun q => by have h2 := Int32.lt_iff_toInt_lt.mp q; have h3 : ¬ y.toInt < (0 : Int32).toInt := fun q => h1 (Int32.lt_iff_toInt_lt.mpr q); omega)]
    · rw [hin, in_no (by rw [i64_i, i64_i, b0, e6]; omega)]
theorem nI_inj {i j : Nat} {n : Int} (hi : (i : Int) < n) (hj : (j : Int) < n) (hn : n ≤ 100) (e : nI i = nI j) : i = j := by
  have h1 : (nI i).toInt = (i : Int) := nI_toInt (by omega)
  have h2 : (nI j).toInt = (j : Int) := nI_toInt (by omega)
  rw [e] at h1
  omega
theorem neg_add0 {x y : Int32} : x = -y ↔ x + y = 0 := by
  refine ⟨fun h => by rw [h]; exact Int32.add_left_neg y, fun h => ?_⟩
  have h1 : x + y + -y = 0 + -y := by rw [h]
  rw [Int32.add_assoc, Int32.add_right_neg, Int32.add_zero, Int32.zero_add] at h1
  exact h1
theorem np_cases {S : wPS} {a a' : Nat} : (f_X9_needPair S a a' = .ok () ∧ ¬ a = a' ∧ S.I a 2 = S.I a' 2 ∧ S.I a 3 = -(S.I a' 3)) ∨ (f_X9_needPair S a a' = .error "java/lang/UnsupportedOperationException" ∧ ¬ (¬ a = a' ∧ S.I a 2 = S.I a' 2 ∧ S.I a 3 = -(S.I a' 3))) := by
  have o1 : f_X9_allowOnly (1 : Int32) = .ok () := rfl
  have o0 : f_X9_allowOnly (0 : Int32) = .error "java/lang/UnsupportedOperationException" := rfl
  unfold f_X9_needPair f_X2_pairsWith
  by_cases e : a = a'
  · exact Or.inr ⟨by rw [if_pos (by rw [e])]; exact eB_er o0, fun q => q.1 e⟩
  · rw [if_neg (fun q => e (Option.some.inj q))]
    by_cases q1 : S.I a 2 = S.I a' 2
    · by_cases q2 : S.I a 3 = -(S.I a' 3)
      · exact Or.inl ⟨by rw [if_pos q1, if_pos q2, if_neg (by decide), eB_ok o1], e, q1, q2⟩
      · exact Or.inr ⟨by rw [if_pos q1, if_neg q2, if_pos rfl]; exact eB_er o0, fun q => q2 q.2.2⟩
    · exact Or.inr ⟨by rw [if_neg q1, if_pos rfl]; exact eB_er o0, fun q => q1 q.2.1⟩
theorem th15 {S : wPS} {o : Nat} {t : Int32} (ht : ¬ t = 0) : l1 (S.sI o 15 t) (fun U => if (U.I o 15) = (0 : Int32) then ((1 : Int32), U) else ((0 : Int32), U)) = ((0 : Int32), S.sI o 15 t) := by
  show (if (S.sI o 15 t).I o 15 = (0 : Int32) then ((1 : Int32), S.sI o 15 t) else ((0 : Int32), S.sI o 15 t)) = _
  rw [sI_eq, if_neg ht]
theorem th15z {S : wPS} {o : Nat} : l1 (S.sI o 15 (0 : Int32)) (fun U => if (U.I o 15) = (0 : Int32) then ((1 : Int32), U) else ((0 : Int32), U)) = ((1 : Int32), S.sI o 15 0) := by
  show (if (S.sI o 15 0).I o 15 = (0 : Int32) then ((1 : Int32), S.sI o 15 0) else ((0 : Int32), S.sI o 15 0)) = _
  rw [sI_eq, if_pos rfl]
theorem pr_cases {S : wPS} {o2 o : Nat} (y1 y2 : Int32) (m : RG o2 S o) (hW : wtB S []) (hA : isA S o 12) :
    (∃ (i a b i' a' b' : Nat), y1 = nI i ∧ y2 = nI i' ∧ f_X9_gearAt S o2 y1 = .ok a ∧ f_X9_gearAt S o2 y2 = .ok a' ∧ f_X12_gearAt S o y1 = b ∧ f_X12_gearAt S o y2 = b' ∧ GRG S i a b ∧ GRG S i' a' b' ∧ ¬ f_X12_isGear S o y1 = 0 ∧ ¬ f_X12_isGear S o y2 = 0 ∧
      ((f_X9_needPair S a a' = .ok () ∧ ¬ f_X12_isPair S o y1 y2 = 0 ∧ f_X12_isAsked S o y1 y2 = (1, S.sI o 15 0)) ∨ (f_X9_needPair S a a' = .error "java/lang/UnsupportedOperationException" ∧ f_X12_isPair S o y1 y2 = 0 ∧ f_X12_isAsked S o y1 y2 = (0, S.sI o 15 2)))) ∨
    ((∀ (α : Type) (k : Nat → Nat → Except String α), eB (f_X9_gearAt S o2 y1) (fun a => eB (f_X9_gearAt S o2 y2) (fun a' => k a a')) = .error "java/lang/IndexOutOfBoundsException") ∧ (f_X12_isGear S o y1 = 0 ∨ (¬ f_X12_isGear S o y1 = 0 ∧ f_X12_isGear S o y2 = 0)) ∧ f_X12_isAsked S o y1 y2 = (0, S.sI o 15 1)) := by
  rcases ga_cases y1 m hW hA with ⟨i, a, b, hy, hi, c1, c2, c3, ea, eb, g⟩ | ⟨c1, c2⟩
  · rcases ga_cases y2 m hW hA with ⟨i', a', b', hy', hi', c1', c2', c3', ea', eb', g'⟩ | ⟨c1', c2'⟩
    · have gg := g
      have gg' := g'
      obtain ⟨ga, gb, g0, p1, p2, p3⟩ := gg
      obtain ⟨ga', gb', g0', p1', p2', p3'⟩ := gg'
      have ip : f_X12_isPair S o y1 y2 = if y1 = y2 then (0 : Int32) else if S.I b 2 = S.I b' 2 then if S.I b 3 + S.I b' 3 = 0 then (1 : Int32) else 0 else 0 := by
        unfold f_X12_isPair; rw [c3, c3']; rfl
      have ne : a = a' ↔ y1 = y2 := ⟨fun q => by rw [hy, hy', ← g0, ← g0', q], fun q => by rw [q] at c1; rw [c1] at c1'; exact Except.ok.inj c1'⟩
      refine Or.inl ⟨i, a, b, i', a', b', hy, hy', c1, c1', c3, c3', g, g', c2, c2', ?_⟩
      rcases np_cases (S := S) (a := a) (a' := a') with ⟨n1, n2, n3, n4⟩ | ⟨n1, n2⟩
      · have e : ¬ f_X12_isPair S o y1 y2 = 0 := by
          rw [ip, if_neg (fun q => n2 (ne.mpr q)), if_pos (by rw [← p2, ← p2']; exact n3), if_pos (by rw [← p3, ← p3']; exact neg_add0.mp n4)]; decide
        refine Or.inl ⟨n1, e, ?_⟩
        unfold f_X12_isAsked
        rw [if_neg c2, if_neg c2', if_neg e]; exact th15z
      · have e : f_X12_isPair S o y1 y2 = 0 := by
          rw [ip]
          by_cases q0 : y1 = y2
          · rw [if_pos q0]
          · rw [if_neg q0]
            by_cases q1 : S.I b 2 = S.I b' 2
            · rw [if_pos q1, if_neg (fun q2 => n2 ⟨fun z => q0 (ne.mp z), by rw [p2, p2']; exact q1, by rw [p3, p3']; exact neg_add0.mpr q2⟩)]
            · rw [if_neg q1]
        refine Or.inr ⟨n1, e, ?_⟩
        unfold f_X12_isAsked
        rw [if_neg c2, if_neg c2', if_pos e]; exact th15 (by decide)
    · refine Or.inr ⟨fun α k => by rw [eB_ok c1]; exact eB_er c1', Or.inr ⟨c2, c2'⟩, ?_⟩
      unfold f_X12_isAsked
      rw [if_neg c2, if_pos c2']; exact th15 (by decide)
  · refine Or.inr ⟨fun α k => eB_er c1, Or.inl c2, ?_⟩
    unfold f_X12_isAsked
    rw [if_pos c2]; exact th15 (by decide)
theorem sI15 {S : wPS} {o b k : Nat} {t : Int32} (hA : isA S o 12) (hb : isA S b k) (hk : k ≠ 12) : (S.sI o 15 t).I b = S.I b := sI_no (fun e => hk (by rw [← hb.2.1, e]; exact hA.2.1))
theorem ga15 {S : wPS} {o : Nat} {t y : Int32} : f_X12_gearAt (S.sI o 15 t) o y = f_X12_gearAt S o y := rfl
/-! common divisors: both are the greatest common divisor -/
def gN (x y : Int32) : Nat := Nat.gcd x.toInt.toNat y.toInt.toNat
theorem gN_step {x y : Int32} (hx : 0 ≤ x.toInt) (hy : 0 < y.toInt) : gN x y = gN y (x - x / y * y) := by
  obtain ⟨h1, h2, h3⟩ := rem_rng (x := x) (y := y) hx hy
  unfold gN
  have e : (x - x / y * y).toInt.toNat = x.toInt.toNat % y.toInt.toNat := by rw [h3]; exact Int.toNat_emod hx (by omega)
  rw [e, Nat.gcd_comm x.toInt.toNat, Nat.gcd_rec, Nat.gcd_comm]
theorem gN_zero {x y : Int32} (hx : 0 ≤ x.toInt) (hy : y = 0) : x.toInt = (gN x y : Int) := by
  unfold gN
  have e : y.toInt.toNat = 0 := by rw [hy]; rfl
  rw [e, Nat.gcd_zero_right]; omega
theorem gN_comm (x y : Int32) : gN x y = gN y x := Nat.gcd_comm _ _
theorem z32 {y : Int32} : y = 0 ↔ y.toInt = 0 := ⟨fun h => by rw [h]; rfl, fun h => Int32.toInt_inj.mp h⟩
theorem cd_loop (x1 x2 : Int32) : ∀ (k n : Nat) (g s t : Int32), 0 ≤ g.toInt → 0 ≤ s.toInt → s.toInt < 2 ^ k → 0 ≤ t.toInt → t.toInt + 2 * k + 1 ≤ 64 → 2 * k + 2 ≤ n → (f_X9_commonDivisor_L7 x1 x2 n g s t).1.toInt = (gN g s : Int) := by
  have l64 : (64 : Int32).toInt = 64 := rfl
  intro k
  induction k with
  | zero =>
    intro n g s t hg hs h2 ht h64 hn
    obtain ⟨m, rfl⟩ : ∃ m, n = m + 1 := ⟨n - 1, by omega⟩
    have hs0 : s = 0 := z32.mpr (by have : (2 : Int) ^ 0 = 1 := rfl; omega)
    rw [f_X9_commonDivisor_L7_s, if_neg (fun q => by have := Int32.le_iff_toInt_le.mp q; omega), if_pos hs0]
    exact gN_zero hg hs0
  | succ k ih =>
    intro n g s t hg hs h2 ht h64 hn
    obtain ⟨m, rfl⟩ : ∃ m, n = m + 1 + 1 := ⟨n - 2, by omega⟩
    have hp : (2 : Int) ^ (k + 1) = 2 ^ k * 2 := Int.pow_succ 2 k
    obtain ⟨u, hu⟩ : ∃ z : Int32, t + (1 : Int32) = z := ⟨_, rfl⟩
    have t1 : u.toInt = t.toInt + 1 := by rw [← hu]; exact t_addr (n := 1) rfl (by omega)
    obtain ⟨w, hw⟩ : ∃ z : Int32, u + (1 : Int32) = z := ⟨_, rfl⟩
    have t2 : w.toInt = t.toInt + 2 := by rw [← hw, t_addr (n := 1) rfl (by omega), t1]; omega
    rw [f_X9_commonDivisor_L7_s, if_neg (fun q => by have := Int32.le_iff_toInt_le.mp q; omega), hu]
    by_cases hs0 : s = 0
    · rw [if_pos hs0]; exact gN_zero hg hs0
    · have hsp : 0 < s.toInt := by have := mt z32.mpr hs0; omega
      rw [if_neg hs0]
      obtain ⟨r1, r2, r3⟩ := rem_rng (x := g) (y := s) hg hsp
      rw [gN_step hg hsp, f_X9_commonDivisor_L7_s, if_neg (fun q => by have := Int32.le_iff_toInt_le.mp q; omega), hw]
      obtain ⟨r, hr⟩ : ∃ r, g - g / s * s = r := ⟨_, rfl⟩
      rw [hr] at r1 r2 ⊢
      by_cases hr0 : r = 0
      · rw [if_pos hr0]; exact gN_zero hs hr0
      · have hrp : 0 < r.toInt := by have := mt z32.mpr hr0; omega
        rw [if_neg hr0, gN_step hs hrp]
        obtain ⟨q1, q2, q3⟩ := rem_rng (x := s) (y := r) hs hrp
        exact ih m r _ w r1 q1 (half_rem hrp r2 (by omega)) (by omega) (by omega) (by omega)
theorem cd_gcd {x y : Int32} (hx : 0 ≤ x.toInt) (hy : 0 ≤ y.toInt ∧ y.toInt < 65536) (h1 : 0 < x.toInt ∨ 0 < y.toInt) : (f_X9_commonDivisor x y).toInt = (gN x y : Int) := by
  have l1 : (1 : Int32).toInt = 1 := rfl
  have h := cd_loop x y 16 65 x y 0 hx hy.1 (by have : (2 : Int) ^ 16 = 65536 := rfl; omega) (by decide) (by decide) (by decide)
  have hg : 0 < gN x y := by
    unfold gN
    rcases h1 with h1 | h1
    · exact Nat.gcd_pos_of_pos_left _ (by omega)
    · exact Nat.gcd_pos_of_pos_right _ (by omega)
  have e : f_X9_commonDivisor x y = if (f_X9_commonDivisor_L7 x y 65 x y 0).1 < (1 : Int32) then (1 : Int32) else (f_X9_commonDivisor_L7 x y 65 x y 0).1 := rfl
  rw [e, if_neg (fun q => by have := Int32.lt_iff_toInt_lt.mp q; omega)]
  exact h
theorem dv_e0 {x y : Int32} (hx : 0 ≤ x.toInt) (hy : 0 ≤ y.toInt ∧ y.toInt < 1) : (f_X12_divisor_e0 x y).toInt = (gN x y : Int) := by
  have hy0 : y = 0 := z32.mpr (by omega)
  unfold f_X12_divisor_e0
  rw [if_pos hy0]; exact gN_zero hx hy0
theorem dv_o1 {x y : Int32} (hx : x.toInt < 2) (hy : 0 ≤ y.toInt ∧ y.toInt < x.toInt) : (f_X12_divisor_o1 x y).toInt = (gN x y : Int) := by
  unfold f_X12_divisor_o1
  by_cases h0 : y = 0
  · rw [if_pos h0]; exact gN_zero (by omega) h0
  · have hp : 0 < y.toInt := by have := mt z32.mpr h0; omega
    obtain ⟨q1, q2, q3⟩ := rem_rng (x := x) (y := y) (by omega) hp
    rw [if_neg h0, gN_step (by omega) hp]
    exact dv_e0 (by omega) ⟨q1, half_rem (m := 1) hp hy.2 (by omega)⟩
theorem dv_e1 {x y : Int32} (hx : 0 ≤ x.toInt) (hy : 0 ≤ y.toInt ∧ y.toInt < 2) : (f_X12_divisor_e1 x y).toInt = (gN x y : Int) := by
  unfold f_X12_divisor_e1
  by_cases h0 : y = 0
  · rw [if_pos h0]; exact gN_zero hx h0
  · have hp : 0 < y.toInt := by have := mt z32.mpr h0; omega
    obtain ⟨q1, q2, q3⟩ := rem_rng (x := x) (y := y) hx hp
    rw [if_neg h0, gN_step hx hp]
    exact dv_o1 (by omega) ⟨q1, q2⟩
theorem dv_o2 {x y : Int32} (hx : x.toInt < 4) (hy : 0 ≤ y.toInt ∧ y.toInt < x.toInt) : (f_X12_divisor_o2 x y).toInt = (gN x y : Int) := by
  unfold f_X12_divisor_o2
  by_cases h0 : y = 0
  · rw [if_pos h0]; exact gN_zero (by omega) h0
  · have hp : 0 < y.toInt := by have := mt z32.mpr h0; omega
    obtain ⟨q1, q2, q3⟩ := rem_rng (x := x) (y := y) (by omega) hp
    rw [if_neg h0, gN_step (by omega) hp]
    exact dv_e1 (by omega) ⟨q1, half_rem (m := 2) hp hy.2 (by omega)⟩
theorem dv_e2 {x y : Int32} (hx : 0 ≤ x.toInt) (hy : 0 ≤ y.toInt ∧ y.toInt < 4) : (f_X12_divisor_e2 x y).toInt = (gN x y : Int) := by
  unfold f_X12_divisor_e2
  by_cases h0 : y = 0
  · rw [if_pos h0]; exact gN_zero hx h0
  · have hp : 0 < y.toInt := by have := mt z32.mpr h0; omega
    obtain ⟨q1, q2, q3⟩ := rem_rng (x := x) (y := y) hx hp
    rw [if_neg h0, gN_step hx hp]
    exact dv_o2 (by omega) ⟨q1, q2⟩
theorem dv_o3 {x y : Int32} (hx : x.toInt < 8) (hy : 0 ≤ y.toInt ∧ y.toInt < x.toInt) : (f_X12_divisor_o3 x y).toInt = (gN x y : Int) := by
  unfold f_X12_divisor_o3
  by_cases h0 : y = 0
  · rw [if_pos h0]; exact gN_zero (by omega) h0
  · have hp : 0 < y.toInt := by have := mt z32.mpr h0; omega
    obtain ⟨q1, q2, q3⟩ := rem_rng (x := x) (y := y) (by omega) hp
    rw [if_neg h0, gN_step (by omega) hp]
    exact dv_e2 (by omega) ⟨q1, half_rem (m := 4) hp hy.2 (by omega)⟩
theorem dv_e3 {x y : Int32} (hx : 0 ≤ x.toInt) (hy : 0 ≤ y.toInt ∧ y.toInt < 8) : (f_X12_divisor_e3 x y).toInt = (gN x y : Int) := by
  unfold f_X12_divisor_e3
  by_cases h0 : y = 0
  · rw [if_pos h0]; exact gN_zero hx h0
  · have hp : 0 < y.toInt := by have := mt z32.mpr h0; omega
    obtain ⟨q1, q2, q3⟩ := rem_rng (x := x) (y := y) hx hp
    rw [if_neg h0, gN_step hx hp]
    exact dv_o3 (by omega) ⟨q1, q2⟩
theorem dv_o4 {x y : Int32} (hx : x.toInt < 16) (hy : 0 ≤ y.toInt ∧ y.toInt < x.toInt) : (f_X12_divisor_o4 x y).toInt = (gN x y : Int) := by
  unfold f_X12_divisor_o4
  by_cases h0 : y = 0
  · rw [if_pos h0]; exact gN_zero (by omega) h0
  · have hp : 0 < y.toInt := by have := mt z32.mpr h0; omega
    obtain ⟨q1, q2, q3⟩ := rem_rng (x := x) (y := y) (by omega) hp
    rw [if_neg h0, gN_step (by omega) hp]
    exact dv_e3 (by omega) ⟨q1, half_rem (m := 8) hp hy.2 (by omega)⟩
theorem dv_e4 {x y : Int32} (hx : 0 ≤ x.toInt) (hy : 0 ≤ y.toInt ∧ y.toInt < 16) : (f_X12_divisor_e4 x y).toInt = (gN x y : Int) := by
  unfold f_X12_divisor_e4
  by_cases h0 : y = 0
  · rw [if_pos h0]; exact gN_zero hx h0
  · have hp : 0 < y.toInt := by have := mt z32.mpr h0; omega
    obtain ⟨q1, q2, q3⟩ := rem_rng (x := x) (y := y) hx hp
    rw [if_neg h0, gN_step hx hp]
    exact dv_o4 (by omega) ⟨q1, q2⟩
theorem dv_o5 {x y : Int32} (hx : x.toInt < 32) (hy : 0 ≤ y.toInt ∧ y.toInt < x.toInt) : (f_X12_divisor_o5 x y).toInt = (gN x y : Int) := by
  unfold f_X12_divisor_o5
  by_cases h0 : y = 0
  · rw [if_pos h0]; exact gN_zero (by omega) h0
  · have hp : 0 < y.toInt := by have := mt z32.mpr h0; omega
    obtain ⟨q1, q2, q3⟩ := rem_rng (x := x) (y := y) (by omega) hp
    rw [if_neg h0, gN_step (by omega) hp]
    exact dv_e4 (by omega) ⟨q1, half_rem (m := 16) hp hy.2 (by omega)⟩
theorem dv_e5 {x y : Int32} (hx : 0 ≤ x.toInt) (hy : 0 ≤ y.toInt ∧ y.toInt < 32) : (f_X12_divisor_e5 x y).toInt = (gN x y : Int) := by
  unfold f_X12_divisor_e5
  by_cases h0 : y = 0
  · rw [if_pos h0]; exact gN_zero hx h0
  · have hp : 0 < y.toInt := by have := mt z32.mpr h0; omega
    obtain ⟨q1, q2, q3⟩ := rem_rng (x := x) (y := y) hx hp
    rw [if_neg h0, gN_step hx hp]
    exact dv_o5 (by omega) ⟨q1, q2⟩
theorem dv_o6 {x y : Int32} (hx : x.toInt < 64) (hy : 0 ≤ y.toInt ∧ y.toInt < x.toInt) : (f_X12_divisor_o6 x y).toInt = (gN x y : Int) := by
  unfold f_X12_divisor_o6
  by_cases h0 : y = 0
  · rw [if_pos h0]; exact gN_zero (by omega) h0
  · have hp : 0 < y.toInt := by have := mt z32.mpr h0; omega
    obtain ⟨q1, q2, q3⟩ := rem_rng (x := x) (y := y) (by omega) hp
    rw [if_neg h0, gN_step (by omega) hp]
    exact dv_e5 (by omega) ⟨q1, half_rem (m := 32) hp hy.2 (by omega)⟩
theorem dv_e6 {x y : Int32} (hx : 0 ≤ x.toInt) (hy : 0 ≤ y.toInt ∧ y.toInt < 64) : (f_X12_divisor_e6 x y).toInt = (gN x y : Int) := by
  unfold f_X12_divisor_e6
  by_cases h0 : y = 0
  · rw [if_pos h0]; exact gN_zero hx h0
  · have hp : 0 < y.toInt := by have := mt z32.mpr h0; omega
    obtain ⟨q1, q2, q3⟩ := rem_rng (x := x) (y := y) hx hp
    rw [if_neg h0, gN_step hx hp]
    exact dv_o6 (by omega) ⟨q1, q2⟩
theorem dv_o7 {x y : Int32} (hx : x.toInt < 128) (hy : 0 ≤ y.toInt ∧ y.toInt < x.toInt) : (f_X12_divisor_o7 x y).toInt = (gN x y : Int) := by
  unfold f_X12_divisor_o7
  by_cases h0 : y = 0
  · rw [if_pos h0]; exact gN_zero (by omega) h0
  · have hp : 0 < y.toInt := by have := mt z32.mpr h0; omega
    obtain ⟨q1, q2, q3⟩ := rem_rng (x := x) (y := y) (by omega) hp
    rw [if_neg h0, gN_step (by omega) hp]
    exact dv_e6 (by omega) ⟨q1, half_rem (m := 64) hp hy.2 (by omega)⟩
theorem dv_e7 {x y : Int32} (hx : 0 ≤ x.toInt) (hy : 0 ≤ y.toInt ∧ y.toInt < 128) : (f_X12_divisor_e7 x y).toInt = (gN x y : Int) := by
  unfold f_X12_divisor_e7
  by_cases h0 : y = 0
  · rw [if_pos h0]; exact gN_zero hx h0
  · have hp : 0 < y.toInt := by have := mt z32.mpr h0; omega
    obtain ⟨q1, q2, q3⟩ := rem_rng (x := x) (y := y) hx hp
    rw [if_neg h0, gN_step hx hp]
    exact dv_o7 (by omega) ⟨q1, q2⟩
theorem dv_o8 {x y : Int32} (hx : x.toInt < 256) (hy : 0 ≤ y.toInt ∧ y.toInt < x.toInt) : (f_X12_divisor_o8 x y).toInt = (gN x y : Int) := by
  unfold f_X12_divisor_o8
  by_cases h0 : y = 0
  · rw [if_pos h0]; exact gN_zero (by omega) h0
  · have hp : 0 < y.toInt := by have := mt z32.mpr h0; omega
    obtain ⟨q1, q2, q3⟩ := rem_rng (x := x) (y := y) (by omega) hp
    rw [if_neg h0, gN_step (by omega) hp]
    exact dv_e7 (by omega) ⟨q1, half_rem (m := 128) hp hy.2 (by omega)⟩
theorem dv_e8 {x y : Int32} (hx : 0 ≤ x.toInt) (hy : 0 ≤ y.toInt ∧ y.toInt < 256) : (f_X12_divisor_e8 x y).toInt = (gN x y : Int) := by
  unfold f_X12_divisor_e8
  by_cases h0 : y = 0
  · rw [if_pos h0]; exact gN_zero hx h0
  · have hp : 0 < y.toInt := by have := mt z32.mpr h0; omega
    obtain ⟨q1, q2, q3⟩ := rem_rng (x := x) (y := y) hx hp
    rw [if_neg h0, gN_step hx hp]
    exact dv_o8 (by omega) ⟨q1, q2⟩
theorem cd_dv {x y : Int32} (hx : 6 ≤ x.toInt ∧ x.toInt ≤ 200) (hy : 0 ≤ y.toInt ∧ y.toInt ≤ 200) : f_X9_commonDivisor x y = f_X12_divisor_e8 x y :=
  Int32.toInt_inj.mp ((cd_gcd (by omega) (by omega) (Or.inl (by omega))).trans (dv_e8 (by omega) (by omega)).symm)
/-! clock: both are what is left of the same product -/
theorem fm_val {x y : Int32} (hy : 0 < y.toInt) : (f_J9_floorMod_7cf53 x y).toInt = x.toInt % y.toInt := by
  have h0 := fm_rng (x := x) hy
  have h1 : (f_J9_floorMod_7cf53 x y).toInt % y.toInt = x.toInt % y.toInt := by
    have hr := rem_eq (x := x) hy
    have hd := Int.tmod_def x.toInt y.toInt
    have h2 := tm_bds (a := x.toInt) hy
    have hyr := t_rng y
    have k0 : (x.toInt.tmod y.toInt) % y.toInt = x.toInt % y.toInt := by
      rw [hd, Int.sub_eq_add_neg, ← Int.mul_neg, Int.add_mul_emod_self_left]
    have k1 : ∀ z : Int32, z = x - x / y * y → z.toInt % y.toInt = x.toInt % y.toInt := fun z e => by rw [e, hr, k0]
    unfold f_J9_floorMod_7cf53
    split
    · exact k1 _ rfl
    · split
      · exact k1 _ rfl
      · rename_i h3 h4
        have h5 : x.toInt.tmod y.toInt ≤ 0 := by
          have h6 : ¬ 0 ≤ x := fun q => h3 ((xor_nn (Int32.le_iff_toInt_le.mpr (by show (0 : Int) ≤ _; omega))).mpr q)
          have h7 := nle_v rfl rfl h6
          have h8 := Int.tmod_nonneg (a := -x.toInt) y.toInt (by have l0 : (0 : Int32).toInt = 0 := rfl; omega)
          rw [Int.neg_tmod] at h8
          omega
        rw [t_add (by rw [hr]; omega), hr, Int.add_emod_right, k0]
  rw [← h1]
  exact (Int.emod_eq_of_lt h0.1 h0.2).symm
theorem cy_at {S : wPS} {o2 o1 a b : Nat} {y : Int32} (mRC : RC o2 S o1) (mRG : RG o2 S o1) (hW : wtB S []) (hA : isA S o1 12) (c1 : f_X9_gearAt S o2 y = .ok a) (c3 : f_X12_gearAt S o1 y = b) (c2 : ¬ f_X12_isGear S o1 y = 0) : CY S a b ∧ S.I a 1 = S.I b 1 := by
  rcases ga_cases y mRG hW hA with ⟨i, a9, b9, hy, hi, d1, d2, d3, ea, eb, g⟩ | ⟨d1, d2⟩
  · have h1 := mRC.2.1 i hi
    have p1 := (mRC.1.2.2.2.1 i hi).2.2
    rw [ea, eb] at h1 p1
    rw [d1] at c1
    rw [← Except.ok.inj c1, ← c3, d3]
    exact ⟨h1, p1⟩
  · exact absurd d2 c2
/-! rolling: the greatest and the least of each class -/
def cH (m : Nat) (q h : Nat → Int32) : Nat → Nat → Int32
  | 0 => h
  | k + 1 => upd (cH m q h k) (k % m) (if k < m then q k else if cH m q h k (k % m) < q k then q k else cH m q h k (k % m))
def cL (m : Nat) (q h : Nat → Int32) : Nat → Nat → Int32
  | 0 => h
  | k + 1 => upd (cL m q h k) (k % m) (if k < m then q k else if q k < cL m q h k (k % m) then q k else cL m q h k (k % m))
theorem cH_s (m : Nat) (q h : Nat → Int32) (k : Nat) : cH m q h (k + 1) = upd (cH m q h k) (k % m) (if k < m then q k else if cH m q h k (k % m) < q k then q k else cH m q h k (k % m)) := rfl
theorem cL_s (m : Nat) (q h : Nat → Int32) (k : Nat) : cL m q h (k + 1) = upd (cL m q h k) (k % m) (if k < m then q k else if q k < cL m q h k (k % m) then q k else cL m q h k (k % m)) := rfl
theorem cH_ag {m : Nat} (q h h' : Nat → Int32) (hm : 1 ≤ m) : ∀ k j, j < m → j < k → cH m q h k j = cH m q h' k j ∧ cL m q h k j = cL m q h' k j := by
  intro k
  induction k with
  | zero => intro j _ hj; omega
  | succ k ih =>
    intro j h1 h2
    have hk := Nat.mod_lt k (show 0 < m by omega)
    rw [cH_s, cH_s, cL_s, cL_s]
    unfold upd
    by_cases e : j = k % m
    · rw [if_pos e, if_pos e, if_pos e, if_pos e]
      by_cases c : k < m
      · rw [if_pos c, if_pos c, if_pos c, if_pos c]; exact ⟨rfl, rfl⟩
      · obtain ⟨i1, i2⟩ := ih (k % m) hk (by omega)
        rw [if_neg c, if_neg c, if_neg c, if_neg c, i1, i2]; exact ⟨rfl, rfl⟩
    · rw [if_neg e, if_neg e, if_neg e, if_neg e]
      have hne : ¬ j = k := fun q => e (by rw [q, Nat.mod_eq_of_lt (by omega)])
      exact ih j h1 (by omega)
theorem cH_bd {m : Nat} {B : Int} (q h : Nat → Int32) (hm : 1 ≤ m) (N : Nat) (hq : ∀ k, k < N → -B ≤ (q k).toInt ∧ (q k).toInt ≤ B) : ∀ k j, k ≤ N → j < m → j < k → (-B ≤ (cH m q h k j).toInt ∧ (cH m q h k j).toInt ≤ B) ∧ -B ≤ (cL m q h k j).toInt ∧ (cL m q h k j).toInt ≤ B := by
  intro k
  induction k with
  | zero => intro j _ _ hj; omega
  | succ k ih =>
    intro j h0 h1 h2
    have hk := Nat.mod_lt k (show 0 < m by omega)
    have b := hq k (by omega)
    rw [cH_s, cL_s]
    unfold upd
    by_cases e : j = k % m
    · rw [if_pos e, if_pos e]
      by_cases c : k < m
      · rw [if_pos c, if_pos c]; exact ⟨b, b⟩
      · obtain ⟨i1, i2⟩ := ih (k % m) (by omega) hk (by omega)
        rw [if_neg c, if_neg c]
        constructor
        · split
          · exact b
          · exact i1
        · split
          · exact b
          · exact i2
    · rw [if_neg e, if_neg e]
      have hne : ¬ j = k := fun q => e (by rw [q, Nat.mod_eq_of_lt (by omega)])
      exact ih j (by omega) h1 (by omega)
def rMF (S U : wPS) (p q : Nat) : Prop := U.L = S.L ∧ U.K = S.K ∧ U.n = S.n ∧ U.F = S.F ∧ U.r = S.r ∧ U.I = S.I ∧ ∀ x, ¬ x = p → ¬ x = q → U.i x = S.i x
theorem rMF.step {S U : wPS} {p q : Nat} {f g : Nat → Int32} (h : rMF S U p q) : rMF S ((U.si p f).si q g) p q := by
  obtain ⟨h1, h2, h3, h4, h5, h6, h7⟩ := h
  refine ⟨h1, h2, h3, h4, h5, h6, fun x h8 h9 => ?_⟩
  show va_up (va_up U.i p f) q g x = S.i x
  rw [up_nq h9, up_nq h8]; exact h7 x h8 h9
theorem si2_p {U : wPS} {p q : Nat} {f g : Nat → Int32} (h : ¬ p = q) : ((U.si p f).si q g).i p = f := by
  show va_up (va_up U.i p f) q g p = f
  rw [up_nq h, up_qq]
theorem si2_q {U : wPS} {p q : Nat} {f g : Nat → Int32} : ((U.si p f).si q g).i q = g := by
  show va_up (va_up U.i p f) q g q = g
  rw [up_qq]
theorem si1_q {U : wPS} {p q : Nat} {f : Nat → Int32} (h : ¬ q = p) : (U.si p f).i q = U.i q := by
  show va_up U.i p f q = U.i q
  rw [up_nq h]
theorem nI_mod {k m : Nat} (hk : k < 100000) (hm : 1 ≤ m) (h2 : m ≤ 200) : (nI k - nI k / nI m * nI m).toNatClampNeg = k % m ∧ (nI k - nI k / nI m * nI m).toInt = ((k % m : Nat) : Int) := by
  have e1 : (nI k).toInt = (k : Int) := nI_toInt (by omega)
  have e2 : (nI m).toInt = (m : Int) := nI_toInt (by omega)
  obtain ⟨r1, r2, r3⟩ := rem_rng (x := nI k) (y := nI m) (by omega) (by omega)
  rw [e1, e2] at r3
  have e3 : (k : Int) % (m : Int) = ((k % m : Nat) : Int) := rfl
  have c := cl_int (i := nI k - nI k / nI m * nI m) r1
  exact ⟨by omega, by omega⟩
theorem so_loop {S : wPS} {r0 o2 p q m N : Nat} (hm : S.I r0 4 = nI m) (h1 : 1 ≤ m ∧ m ≤ 200) (hN : S.n o2 = N) (h200 : N ≤ 200) (hpq : ¬ p = q) (h2p : ¬ o2 = p) (h2q : ¬ o2 = q) : ∀ (n k : Nat) (U : wPS), k ≤ N → N - k < n → rMF S U p q → U.i p = cH m (S.i o2) (S.i p) k → U.i q = cL m (S.i o2) (S.i q) k → rMF S (f_X6_sortOut_L3 S r0 o2 p q n U (nI k)).1 p q ∧ (f_X6_sortOut_L3 S r0 o2 p q n U (nI k)).1.i p = cH m (S.i o2) (S.i p) N ∧ (f_X6_sortOut_L3 S r0 o2 p q n U (nI k)).1.i q = cL m (S.i o2) (S.i q) N := by
  have eN : (nI N).toInt = (N : Int) := nI_toInt (by omega)
  have em : (nI m).toInt = (m : Int) := nI_toInt (by omega)
  intro n
  induction n with
  | zero => intro k U _ h; omega
  | succ n ih =>
    intro k U hk hn hM hp hq
    have ek : (nI k).toInt = (k : Int) := nI_toInt (by omega)
    rw [f_X6_sortOut_L3_s, hN]
    by_cases c9 : k = N
    · rw [if_pos (Int32.le_iff_toInt_le.mpr (by omega)), ← c9]; exact ⟨hM, hp, hq⟩
    · rw [if_neg (fun z => by have := Int32.le_iff_toInt_le.mp z; omega)]
      have uI : U.I r0 4 = nI m := by rw [hM.2.2.2.2.2.1]; exact hm
      have u2 : U.i o2 = S.i o2 := hM.2.2.2.2.2.2 _ h2p h2q
      rw [uI]
      obtain ⟨i1, -⟩ := nI_mod (k := k) (m := m) (by omega) h1.1 h1.2
      by_cases c : k < m
      · rw [if_neg (fun z => by have := Int32.le_iff_toInt_le.mp z; omega), if_neg (by decide)]
        dsimp only [l1]
        rw [if_neg (by decide), i1, nI_cN (by omega), si1_q (fun e => hpq e.symm), si1_q h2p, u2, nI_s (by omega)]
        refine ih (k + 1) _ (by omega) (by omega) hM.step ?_ ?_
        · rw [si2_p hpq, hp, cH_s, if_pos c]
        · rw [si2_q, hq, cL_s, if_pos c]
      · rw [if_pos (Int32.le_iff_toInt_le.mpr (by omega)), if_pos rfl]
        dsimp only [l1]
        rw [if_pos rfl, i1, nI_cN (by omega), si1_q (fun e => hpq e.symm), si1_q h2p, u2, nI_s (by omega)]
        refine ih (k + 1) _ (by omega) (by omega) hM.step ?_ ?_
        · rw [si2_p hpq, hp, cH_s, if_neg c]
        · rw [si2_q, hq, cL_s, if_neg c]
theorem so_all {S : wPS} {r0 o2 p q m N : Nat} (hm : S.I r0 4 = nI m) (h1 : 1 ≤ m ∧ m ≤ 200) (hN : S.n o2 = N) (h200 : N ≤ 200) (hpq : ¬ p = q) (h2p : ¬ o2 = p) (h2q : ¬ o2 = q) : rMF S (f_X6_sortOut S r0 o2 p q) p q ∧ (f_X6_sortOut S r0 o2 p q).i p = cH m (S.i o2) (S.i p) N ∧ (f_X6_sortOut S r0 o2 p q).i q = cL m (S.i o2) (S.i q) N :=
  so_loop hm h1 hN h200 hpq h2p h2q 201 0 S (by omega) (by omega) ⟨rfl, rfl, rfl, rfl, rfl, rfl, fun _ _ _ => rfl⟩ rfl rfl
theorem all_loop {S : wPS} {b N : Nat} (hN : (S.I b 1).toInt = (N : Int)) (h200 : N ≤ 200) (hb : cBD (S.i (S.f b 5))) : ∀ (n k : Nat) (w : Int32), k ≤ N → N - k < n → w.toInt = cPS (S.i (S.f b 5)) k → (f_X10_all_L4 S b n w (nI k)).1.toInt = cPS (S.i (S.f b 5)) N := by
  intro n
  induction n with
  | zero => intro k w _ h; omega
  | succ n ih =>
    intro k w hk hn hw
    have ek : (nI k).toInt = (k : Int) := nI_toInt (by omega)
    rw [f_X10_all_L4_s]
    by_cases c9 : k = N
    · rw [if_pos (Int32.le_iff_toInt_le.mpr (by omega)), ← c9]; exact hw
    · rw [if_neg (fun q => by have := Int32.le_iff_toInt_le.mp q; omega), nI_s (by omega), nI_cN (by omega)]
      have b1 := hb k
      have b2 := cPS_B hb (k := k) (by omega)
      refine ih (k + 1) _ (by omega) (by omega) ?_
      rw [t_add (by omega), hw]; rfl
theorem all_all {S : wPS} {b N : Nat} (hN : (S.I b 1).toInt = (N : Int)) (h200 : N ≤ 200) (hb : cBD (S.i (S.f b 5))) : (f_X10_all S b).toInt = cPS (S.i (S.f b 5)) N := all_loop hN h200 hb 201 0 0 (by omega) (by omega) rfl
theorem pl_loop {S : wPS} {b p q m N : Nat} {st : Nat → Int32} (hN : (S.I b 1).toInt = (N : Int)) (h200 : 1 ≤ N ∧ N ≤ 200) (hb : cBD (S.i (S.f b 5))) (hst : ∀ k, k < N → (st k).toInt = cQQ (S.i (S.f b 5)) N k) (h1 : 1 ≤ m ∧ m ≤ 200) (hpq : ¬ p = q) (h2p : ¬ S.f b 5 = p) (h2q : ¬ S.f b 5 = q) : ∀ (n k : Nat) (U : wPS) (w : Int32), k ≤ N → N - k < n → rMF S U p q → w.toInt = cPS (S.i (S.f b 5)) k → U.i p = cH m st (S.i p) k → U.i q = cL m st (S.i q) k → rMF S (f_X10_places_L12 S b (nI m) p q n U w (nI k)).1 p q ∧ (f_X10_places_L12 S b (nI m) p q n U w (nI k)).1.i p = cH m st (S.i p) N ∧ (f_X10_places_L12 S b (nI m) p q n U w (nI k)).1.i q = cL m st (S.i q) N := by
  have em : (nI m).toInt = (m : Int) := nI_toInt (by omega)
  obtain ⟨e, he⟩ : ∃ z, S.i (S.f b 5) = z := ⟨_, rfl⟩
  have hA := all_all hN h200.2 hb
  rw [he] at hb hA hst ⊢
  obtain ⟨A, hA1⟩ : ∃ z, f_X10_all S b = z := ⟨_, rfl⟩
  rw [hA1] at hA
  intro n
  induction n with
  | zero => intro k U w _ h; omega
  | succ n ih =>
    intro k U w hk hn hM hw hp hq
    have ek : (nI k).toInt = (k : Int) := nI_toInt (by omega)
    have uI : U.I b 1 = S.I b 1 := by rw [hM.2.2.2.2.2.1]
    have u5 : U.i (S.f b 5) = e := (hM.2.2.2.2.2.2 _ h2p h2q).trans he
    rw [f_X10_places_L12_s, uI, u5]
    by_cases c9 : k = N
    · rw [if_pos (Int32.le_iff_toInt_le.mpr (by omega)), ← c9]; exact ⟨hM, hp, hq⟩
    · rw [if_neg (fun z => by have := Int32.le_iff_toInt_le.mp z; omega), hA1]
      have b1 := hb k
      have b2 := cPS_B hb (k := k) (by omega)
      have b3 := cPS_B hb (k := N) h200.2
      have m1 := c_mb (n := (N : Int)) (p := cPS e k) (by omega) b2
      have m2 := c_mb (n := (k : Int)) (p := cPS e N) (by omega) b3
      have x1 : (S.I b 1 * w).toInt = (N : Int) * cPS e k := by rw [t_mulx (by rw [hN, hw]; omega), hN, hw]
      have x2 : (nI k * A).toInt = (k : Int) * cPS e N := by rw [t_mulx (by rw [ek, hA]; omega), ek, hA]
      have x3 : (S.I b 1 * w - nI k * A).toInt = cST e N k := by rw [t_sub (by rw [x1, x2]; omega), x1, x2]; rfl
      have bs := cST_b hb h200.2 (k := k) hk
      have x4 : (S.I b 1 * w - nI k * A) / S.I b 1 = st k := Int32.toInt_inj.mp (by rw [t_tdiv (by omega) (by omega), x3, hN, hst k (by omega)]; rfl)
      have w1 : (w + e k).toInt = cPS e (k + 1) := by rw [t_add (by omega), hw]; rfl
      obtain ⟨i1, -⟩ := nI_mod (k := k) (m := m) (by omega) h1.1 h1.2
      rw [x4, i1, nI_cN (by omega), nI_s (by omega)]
      by_cases c : k < m
      · rw [if_neg (fun z => by have := Int32.le_iff_toInt_le.mp z; omega)]
        dsimp only [l1]
        rw [if_neg (fun z => by have := Int32.le_iff_toInt_le.mp z; omega), si1_q (fun e => hpq e.symm)]
        refine ih (k + 1) _ _ (by omega) (by omega) hM.step w1 ?_ ?_
        · rw [si2_p hpq, hp, cH_s, if_pos c]
        · rw [si2_q, hq, cL_s, if_pos c]
      · rw [if_pos (Int32.le_iff_toInt_le.mpr (by omega))]
        dsimp only [l1]
        rw [if_pos (Int32.le_iff_toInt_le.mpr (by omega)), si1_q (fun e => hpq e.symm)]
        refine ih (k + 1) _ _ (by omega) (by omega) hM.step w1 ?_ ?_
        · rw [si2_p hpq, hp, cH_s, if_neg c]
        · rw [si2_q, hq, cL_s, if_neg c]
theorem pl_all {S : wPS} {b p q m N : Nat} {st : Nat → Int32} (hN : (S.I b 1).toInt = (N : Int)) (h200 : 1 ≤ N ∧ N ≤ 200) (hb : cBD (S.i (S.f b 5))) (hst : ∀ k, k < N → (st k).toInt = cQQ (S.i (S.f b 5)) N k) (h1 : 1 ≤ m ∧ m ≤ 200) (hpq : ¬ p = q) (h2p : ¬ S.f b 5 = p) (h2q : ¬ S.f b 5 = q) : rMF S (f_X10_places S b (nI m) p q) p q ∧ (f_X10_places S b (nI m) p q).i p = cH m st (S.i p) N ∧ (f_X10_places S b (nI m) p q).i q = cL m st (S.i q) N :=
  pl_loop hN h200 hb hst h1 hpq h2p h2q 201 0 S 0 (by omega) (by omega) ⟨rfl, rfl, rfl, rfl, rfl, rfl, fun _ _ _ => rfl⟩ rfl rfl rfl
/-- both have laid out the same for g classes -/
def rOK (U V : wPS) (r o g : Nat) : Prop := U.I r 4 = nI g ∧ (1 ≤ g ∧ g ≤ 200) ∧ (∀ j, j < g → U.i (U.f r 0) j = V.i (V.f o 29) j ∧ U.i (U.f r 1) j = V.i (V.f o 30) j ∧ U.i (U.f r 2) j = V.i (V.f o 31) j ∧ U.i (U.f r 3) j = V.i (V.f o 32) j) ∧ ∀ j, j < g → (-400000000 ≤ (V.i (V.f o 29) j).toInt ∧ (V.i (V.f o 29) j).toInt ≤ 400000000) ∧ (-400000000 ≤ (V.i (V.f o 30) j).toInt ∧ (V.i (V.f o 30) j).toInt ≤ 400000000) ∧ (-400000000 ≤ (V.i (V.f o 31) j).toInt ∧ (V.i (V.f o 31) j).toInt ≤ 400000000) ∧ -400000000 ≤ (V.i (V.f o 32) j).toInt ∧ (V.i (V.f o 32) j).toInt ≤ 400000000
theorem md_s (t g : Nat) (hg : 1 ≤ g) : (t + 1) % g = if t % g + 1 < g then t % g + 1 else 0 := by
  have h1 := Nat.mod_lt t (show 0 < g by omega)
  have h2 : (t + 1) % g = (t % g + 1) % g := (Nat.mod_add_mod t g 1).symm
  rw [h2]
  by_cases c : t % g + 1 < g
  · rw [if_pos c, Nat.mod_eq_of_lt c]
  · rw [if_neg c, show t % g + 1 = g by omega, Nat.mod_self]
theorem rk_loop {U V : wPS} {r o g x : Nat} (h : rOK U V r o g) (hx : x ≤ 200) : ∀ (m f f' i : Nat) (a b : Int32), i ≤ g → g - i ≤ m → m < f → m < f' → (f_X6_peakFrom_L19 U r (nI x) f a b (nI ((i + x) % g)) (nI i)).1 = (f_X12_peakBy_L36 V o (nI g) (nI x) f' a b (nI i)).1 ∧ (f_X6_peakFrom_L19 U r (nI x) f a b (nI ((i + x) % g)) (nI i)).2.1 = (f_X12_peakBy_L36 V o (nI g) (nI x) f' a b (nI i)).2.1 := by
  obtain ⟨h4, h1, hj, -⟩ := h
  have eg : (nI g).toInt = (g : Int) := nI_toInt (by omega)
  have ex : (nI x).toInt = (x : Int) := nI_toInt (by omega)
  intro m
  induction m with
  | zero =>
    intro f f' i a b hi hm hf hf'
    obtain ⟨f1, rfl⟩ : ∃ z, f = z + 1 := ⟨f - 1, by omega⟩
    obtain ⟨f2, rfl⟩ : ∃ z, f' = z + 1 := ⟨f' - 1, by omega⟩
    have ei : (nI i).toInt = (i : Int) := nI_toInt (by omega)
    rw [f_X6_peakFrom_L19_s, f_X12_peakBy_L36_s, h4, if_pos (Int32.le_iff_toInt_le.mpr (by omega)), if_pos (Int32.le_iff_toInt_le.mpr (by omega))]
    exact ⟨rfl, rfl⟩
  | succ m ih =>
    intro f f' i a b hi hm hf hf'
    obtain ⟨f1, rfl⟩ : ∃ z, f = z + 1 := ⟨f - 1, by omega⟩
    obtain ⟨f2, rfl⟩ : ∃ z, f' = z + 1 := ⟨f' - 1, by omega⟩
    have ei : (nI i).toInt = (i : Int) := nI_toInt (by omega)
    rw [f_X6_peakFrom_L19_s, f_X12_peakBy_L36_s, h4]
    by_cases c : i = g
    · rw [if_pos (Int32.le_iff_toInt_le.mpr (by omega)), if_pos (Int32.le_iff_toInt_le.mpr (by omega))]
      exact ⟨rfl, rfl⟩
    · have hc : ¬ nI g ≤ nI i := fun z => by have := Int32.le_iff_toInt_le.mp z; omega
      rw [if_neg hc, if_neg hc]
      have ot := Nat.mod_lt (i + x) (show 0 < g by omega)
      obtain ⟨j1, j2, -, -⟩ := hj i (by omega)
      obtain ⟨-, -, j3, j4⟩ := hj ((i + x) % g) ot
      have es : nI i + nI x = nI (i + x) := Int32.toInt_inj.mp (by rw [t_add (by omega), ei, ex, nI_toInt (by omega)]; omega)
      obtain ⟨k1, -⟩ := nI_mod (k := i + x) (m := g) (by omega) h1.1 h1.2
      have eo : (nI ((i + x) % g)).toInt = (((i + x) % g : Nat) : Int) := nI_toInt (by omega)
      rw [es, k1, nI_cN (by omega), nI_cN (by omega), j1, j2, j3, j4, nI_s (by omega), nI_s (by omega)]
      have eo1 : (nI ((i + x) % g + 1)).toInt = (((i + x) % g + 1 : Nat) : Int) := nI_toInt (by omega)
      have sm := md_s (i + x) g h1.1
      rw [show i + x + 1 = i + 1 + x by omega] at sm
      by_cases d : (i + x) % g + 1 < g
      · have hd : ¬ nI g ≤ nI ((i + x) % g + 1) := fun z => by have := Int32.le_iff_toInt_le.mp z; omega
        rw [if_neg hd]
        rw [if_pos d] at sm
        rw [← sm]
        exact ih f1 f2 (i + 1) _ _ (by omega) (by omega) (by omega) (by omega)
      · have hd : nI g ≤ nI ((i + x) % g + 1) := Int32.le_iff_toInt_le.mpr (by omega)
        rw [if_pos hd]
        rw [if_neg d] at sm
        have h9 := ih f1 f2 (i + 1) (if a < V.i (V.f o 29) i + V.i (V.f o 31) ((i + x) % g) then V.i (V.f o 29) i + V.i (V.f o 31) ((i + x) % g) else a) (if V.i (V.f o 30) i + V.i (V.f o 32) ((i + x) % g) < b then V.i (V.f o 30) i + V.i (V.f o 32) ((i + x) % g) else b) (by omega) (by omega) (by omega) (by omega)
        rw [sm] at h9
        exact h9
theorem rk_eq {U V : wPS} {r o g x : Nat} (h : rOK U V r o g) (hx : x ≤ 200) : f_X6_peakFrom U r (nI x) = f_X12_peakBy V o (nI g) (nI x) := by
  have h' := h
  obtain ⟨h4, h1, hj, hb⟩ := h
  have eg : (nI g).toInt = (g : Int) := nI_toInt (by omega)
  have ex : (nI x).toInt = (x : Int) := nI_toInt (by omega)
  have ot := Nat.mod_lt x (show 0 < g by omega)
  have eo : (nI (x % g)).toInt = ((x % g : Nat) : Int) := nI_toInt (by omega)
  have fm : f_J9_floorMod_7cf53 (nI x) (nI g) = nI (x % g) := Int32.toInt_inj.mp (by rw [fm_val (by omega), ex, eg, eo]; rfl)
  obtain ⟨k1, -⟩ := nI_mod (k := x) (m := g) (by omega) h1.1 h1.2
  obtain ⟨j1, j2, -, -⟩ := hj 0 (by omega)
  obtain ⟨-, -, j3, j4⟩ := hj (x % g) ot
  obtain ⟨b1, b2, -, -⟩ := hb 0 (by omega)
  obtain ⟨-, -, b3, b4⟩ := hb (x % g) ot
  have z0 : (0 : Int32).toNatClampNeg = 0 := rfl
  have lM : (-2147483647 : Int32).toInt = -2147483647 := rfl
  have lP : (2147483647 : Int32).toInt = 2147483647 := rfl
  have s1 : (V.i (V.f o 29) 0 + V.i (V.f o 31) (x % g)).toInt = (V.i (V.f o 29) 0).toInt + (V.i (V.f o 31) (x % g)).toInt := t_add (by omega)
  have s2 : (V.i (V.f o 30) 0 + V.i (V.f o 32) (x % g)).toInt = (V.i (V.f o 30) 0).toInt + (V.i (V.f o 32) (x % g)).toInt := t_add (by omega)
  obtain ⟨H, hH⟩ : ∃ z, V.i (V.f o 29) 0 + V.i (V.f o 31) (x % g) = z := ⟨_, rfl⟩
  obtain ⟨L, hL⟩ : ∃ z, V.i (V.f o 30) 0 + V.i (V.f o 32) (x % g) = z := ⟨_, rfl⟩
  rw [hH] at s1
  rw [hL] at s2
  have P := rk_loop h' hx 199 200 202 1 H L (by omega) (by omega) (by omega) (by omega)
  have sm := md_s x g h1.1
  rw [show x + 1 = 1 + x by omega] at sm
  have c1 : f_X6_peakFrom_L19 U r (nI x) 201 (-2147483647 : Int32) (2147483647 : Int32) (nI (x % g)) (0 : Int32) = f_X6_peakFrom_L19 U r (nI x) 200 H L (nI ((1 + x) % g)) (nI 1) := by
    rw [f_X6_peakFrom_L19_s, h4, if_neg (fun z => by have := Int32.le_iff_toInt_le.mp z; have z9 : (0 : Int32).toInt = 0 := rfl; omega), z0, nI_cN (by omega), j1, j2, j3, j4, hH, hL, if_pos (Int32.lt_iff_toInt_lt.mpr (by omega)), if_pos (Int32.lt_iff_toInt_lt.mpr (by omega)), nI_s (by omega)]
    have eo1 : (nI (x % g + 1)).toInt = ((x % g + 1 : Nat) : Int) := nI_toInt (by omega)
    by_cases d : x % g + 1 < g
    · rw [if_neg (fun z => by have := Int32.le_iff_toInt_le.mp z; omega), sm, if_pos d]; rfl
    · rw [if_pos (Int32.le_iff_toInt_le.mpr (by omega)), sm, if_neg d]; rfl
  show (f_X6_peakFrom_L19 U r (nI x) 201 (-2147483647 : Int32) (2147483647 : Int32) (f_J9_floorMod_7cf53 (nI x) (U.I r 4)) (0 : Int32)).1 - (f_X6_peakFrom_L19 U r (nI x) 201 (-2147483647 : Int32) (2147483647 : Int32) (f_J9_floorMod_7cf53 (nI x) (U.I r 4)) (0 : Int32)).2.1 = (f_X12_peakBy_L36 V o (nI g) (nI x) 202 (V.i (V.f o 29) (0 : Int32).toNatClampNeg + V.i (V.f o 31) (nI x - nI x / nI g * nI g).toNatClampNeg) (V.i (V.f o 30) (0 : Int32).toNatClampNeg + V.i (V.f o 32) (nI x - nI x / nI g * nI g).toNatClampNeg) (nI 1)).1 - (f_X12_peakBy_L36 V o (nI g) (nI x) 202 (V.i (V.f o 29) (0 : Int32).toNatClampNeg + V.i (V.f o 31) (nI x - nI x / nI g * nI g).toNatClampNeg) (V.i (V.f o 30) (0 : Int32).toNatClampNeg + V.i (V.f o 32) (nI x - nI x / nI g * nI g).toNatClampNeg) (nI 1)).2.1
  rw [h4, fm, c1, z0, k1, hH, hL, P.1, P.2]
theorem qs_loop {U V : wPS} {r o g : Nat} (h : rOK U V r o g) (S : wPS) (b b' : Nat) : ∀ (m f f' i j : Nat), i ≤ g → j ≤ 200 → g - i ≤ m → m < f → m < f' → (f_X6_quietStart_L10 U r f (nI j) (f_X6_peakFrom U r (nI j)) (nI i)).1 = (f_X12_quietestOf_L13 S o b b' (nI g) V f' (nI j) (nI i)).1 := by
  have h' := h
  obtain ⟨h4, h1, -, -⟩ := h
  have eg : (nI g).toInt = (g : Int) := nI_toInt (by omega)
  intro m
  induction m with
  | zero =>
    intro f f' i j hi hj hm hf hf'
    obtain ⟨f1, rfl⟩ : ∃ z, f = z + 1 := ⟨f - 1, by omega⟩
    obtain ⟨f2, rfl⟩ : ∃ z, f' = z + 1 := ⟨f' - 1, by omega⟩
    have ei : (nI i).toInt = (i : Int) := nI_toInt (by omega)
    rw [f_X6_quietStart_L10_s, f_X12_quietestOf_L13_s, h4, if_pos (Int32.le_iff_toInt_le.mpr (by omega)), if_pos (Int32.le_iff_toInt_le.mpr (by omega))]
  | succ m ih =>
    intro f f' i j hi hj hm hf hf'
    obtain ⟨f1, rfl⟩ : ∃ z, f = z + 1 := ⟨f - 1, by omega⟩
    obtain ⟨f2, rfl⟩ : ∃ z, f' = z + 1 := ⟨f' - 1, by omega⟩
    have ei : (nI i).toInt = (i : Int) := nI_toInt (by omega)
    rw [f_X6_quietStart_L10_s, f_X12_quietestOf_L13_s, h4]
    by_cases c : i = g
    · rw [if_pos (Int32.le_iff_toInt_le.mpr (by omega)), if_pos (Int32.le_iff_toInt_le.mpr (by omega))]
    · have hc : ¬ nI g ≤ nI i := fun z => by have := Int32.le_iff_toInt_le.mp z; omega
      rw [if_neg hc, if_neg hc, nI_s (by omega), ← rk_eq h' hj, ← rk_eq h' (x := i) (by omega)]
      by_cases d : f_X6_peakFrom U r (nI j) ≤ f_X6_peakFrom U r (nI i)
      · rw [if_pos d, if_pos d]
        exact ih f1 f2 (i + 1) j (by omega) hj (by omega) (by omega) (by omega)
      · rw [if_neg d, if_neg d]
        exact ih f1 f2 (i + 1) i (by omega) (by omega) (by omega) (by omega) (by omega)
theorem qs_eq {U V : wPS} {r o g : Nat} (h : rOK U V r o g) (S : wPS) (b b' : Nat) : f_X6_quietStart U r = (f_X12_quietestOf_L13 S o b b' (nI g) V 202 (0 : Int32) (1 : Int32)).1 := by
  have h1 := h.2.1
  exact qs_loop h S b b' 200 202 202 1 0 (by omega) (by omega) (by omega) (by omega) (by omega)
/-- what the class lays out and what the reference then lays out beside it -/
theorem rl_eq {S : wPS} {o2 o a b a' b' : Nat} (mR : RR o2 S o) (hW : wtB S []) (hA : isA S o 12) (ga : isA S a 2) (gb : isA S b 10) (gb' : isA S b' 10) (y : CY S a b) (y' : CY S a' b') (p1 : S.I a 1 = S.I b 1) (p1' : S.I a' 1 = S.I b' 1) (Z : wPS → wPS) (Z1 : ∀ U x, ¬ x = o → (Z U).I x = U.I x) (Z2 : ∀ U, (Z U).i = U.i ∧ (Z U).F = U.F ∧ (Z U).r = U.r) : ∃ (g : Nat) (V : wPS), f_X12_laysPlaces (Z (f_X6_take S (S.f o2 7) (S.f a 5) (S.f a' 5))) o b b' = (nI g, V) ∧ rOK (f_X6_take S (S.f o2 7) (S.f a 5) (S.f a' 5)) V (S.f o2 7) o g ∧ (f_X6_take S (S.f o2 7) (S.f a 5) (S.f a' 5)).I = (S.sI (S.f o2 7) 4 (nI g)).I ∧ V.I = (Z (f_X6_take S (S.f o2 7) (S.f a 5) (S.f a' 5))).I ∧ (f_X6_take S (S.f o2 7) (S.f a 5) (S.f a' 5)).F = S.F ∧ (f_X6_take S (S.f o2 7) (S.f a 5) (S.f a' 5)).r = S.r := by
  obtain ⟨r, hr⟩ : ∃ z, S.f o2 7 = z := ⟨_, rfl⟩
  obtain ⟨hA2, ⟨e7, r6⟩, m3, m4, m5, m6⟩ := mR
  rw [hr] at e7 r6 m3 m4 ⊢
  obtain ⟨⟨e5, c5⟩, ⟨e0, h0⟩, ⟨es, hs0⟩, ⟨ebb, hb5⟩, hn, hii, hbd, hs, hq⟩ := y
  obtain ⟨⟨e5', c5'⟩, ⟨e0', h0'⟩, ⟨es', hs0'⟩, ⟨ebb', hb5'⟩, hn', hii', hbd', hs', hq'⟩ := y'
  have k6 := (hW.at r6 List.not_mem_nil).to_6 r6.2.1
  have k12 := (hW.at hA List.not_mem_nil).to_12 hA.2.1
  have n1 : S.n (S.f (S.f a 5) 1) = S.n (S.f (S.f a 5) 0) := ((hW.at c5 List.not_mem_nil).to_1 c5.2.1).F1.2.2
  have n1' : S.n (S.f (S.f a' 5) 1) = S.n (S.f (S.f a' 5) 0) := ((hW.at c5' List.not_mem_nil).to_1 c5'.2.1).F1.2.2
  obtain ⟨N, hN⟩ : ∃ z, S.n (S.f (S.f a 5) 0) = z := ⟨_, rfl⟩
  obtain ⟨N', hN'⟩ : ∃ z, S.n (S.f (S.f a' 5) 0) = z := ⟨_, rfl⟩
  rw [hN] at hn hs hq n1
  rw [hN'] at hn' hs' hq' n1'
  have hN2 : (S.I b 1).toInt = (N : Int) := by rw [← p1]; exact hn.1.symm
  have hN2' : (S.I b' 1).toInt = (N' : Int) := by rw [← p1']; exact hn'.1.symm
  have eN : (nI N).toInt = (N : Int) := nI_toInt (by omega)
  have eN' : (nI N').toInt = (N' : Int) := nI_toInt (by omega)
  have nb : nI N = S.I b 1 := Int32.toInt_inj.mp (by rw [eN, hN2])
  have nb' : nI N' = S.I b' 1 := Int32.toInt_inj.mp (by rw [eN', hN2'])
  have kne : ∀ {x y k l : Nat}, isA S x k → isA S y l → k ≠ l → ¬ x = y := fun hx hy hk q => hk (by rw [← hx.2.1, q]; exact hy.2.1)
  have cd := cd_dv (x := S.I b 1) (y := S.I b' 1) (by omega) (by omega)
  have dv : (f_X12_divisor_e8 (S.I b 1) (S.I b' 1)).toInt = (gN (S.I b 1) (S.I b' 1) : Int) := dv_e8 (by omega) (by omega)
  obtain ⟨g, hg⟩ : ∃ z, gN (S.I b 1) (S.I b' 1) = z := ⟨_, rfl⟩
  rw [hg] at dv
  have gp : 0 < gN (S.I b 1) (S.I b' 1) := Nat.gcd_pos_of_pos_left _ (by omega)
  have gl : gN (S.I b 1) (S.I b' 1) ≤ (S.I b 1).toInt.toNat := Nat.le_of_dvd (by omega) (Nat.gcd_dvd_left _ _)
  have gl' : gN (S.I b 1) (S.I b' 1) ≤ (S.I b' 1).toInt.toNat := Nat.le_of_dvd (by omega) (Nat.gcd_dvd_right _ _)
  rw [hg] at gp gl gl'
  have eg : (nI g).toInt = (g : Int) := nI_toInt (by omega)
  have dg : f_X12_divisor_e8 (S.I b 1) (S.I b' 1) = nI g := Int32.toInt_inj.mp (by rw [dv, eg])
  rw [dg] at cd
  have l2' : (200 : Int32).toInt = 200 := rfl
  have l1' : (1 : Int32).toInt = 1 := rfl
  -- the class
  obtain ⟨S1, hS1⟩ : ∃ z, S.sI r 4 (nI g) = z := ⟨_, rfl⟩
  have a0 := k6.F0.2.1
  have a1 := k6.F1.2.1
  have a2 := k6.F2.2.1
  have a3 := k6.F3.2.1
  have S1f : ∀ x j, S1.f x j = S.f x j := fun x j => by rw [← hS1]; rfl
  have S1i : S1.i = S.i := by rw [← hS1]; rfl
  have S1n : S1.n = S.n := by rw [← hS1]; rfl
  obtain ⟨P, pP, qP⟩ := so_all (S := S1) (r0 := r) (o2 := S.f (S.f a 5) 1) (p := S.f r 0) (q := S.f r 1) (m := g) (N := N) (by rw [← hS1, sI_eq]) (by omega) (by rw [S1n]; exact n1) (by omega) (m4 0 1 (by omega) (by omega)) (kne hs0 a0 (by decide)) (kne hs0 a1 (by decide))
  obtain ⟨S2, hS2⟩ : ∃ z, f_X6_sortOut S1 r (S.f (S.f a 5) 1) (S.f r 0) (S.f r 1) = z := ⟨_, rfl⟩
  rw [hS2] at P pP qP
  obtain ⟨P1, P2, P3, P4, P5, P6, P7⟩ := P
  obtain ⟨Q, pQ, qQ⟩ := so_all (S := S2) (r0 := r) (o2 := S.f (S.f a' 5) 1) (p := S.f r 2) (q := S.f r 3) (m := g) (N := N') (by rw [P6, ← hS1, sI_eq]) (by omega) (by rw [P3, S1n]; exact n1') (by omega) (m4 2 3 (by omega) (by omega)) (kne hs0' a2 (by decide)) (kne hs0' a3 (by decide))
  obtain ⟨U, hU⟩ : ∃ z, f_X6_sortOut S2 r (S.f (S.f a' 5) 1) (S.f r 2) (S.f r 3) = z := ⟨_, rfl⟩
  rw [hU] at Q pQ qQ
  obtain ⟨Q1, Q2, Q3, Q4, Q5, Q6, Q7⟩ := Q
  have take : f_X6_take S r (S.f a 5) (S.f a' 5) = U := by
    unfold f_X6_take
    have e8 : (if (200 : Int32) < nI g then (200 : Int32) else nI g) = nI g := if_neg (fun z => by have := Int32.lt_iff_toInt_lt.mp z; omega)
    rw [n1, n1', nb, nb', cd, e8]
    have e9 : (if (1 : Int32) < nI g then nI g else (1 : Int32)) = nI g := by
      by_cases c : (1 : Int32) < nI g
      · rw [if_pos c]
      · rw [if_neg c]
        have := nlt_i c
        exact Int32.toInt_inj.mp (by omega)
    rw [e9, hS1]
    dsimp only [l1]
    rw [hS2, hU]
  rw [take]
  have UI : U.I = S1.I := Q6.trans P6
  have UF : U.F = S.F := Q4.trans (P4.trans (by rw [← hS1]; rfl))
  have Ur : U.r = S.r := Q5.trans (P5.trans (by rw [← hS1]; rfl))
  have Uf : ∀ x j, U.f x j = S.f x j := fun x j => by unfold wPS.f; rw [UF]
  have i29 : ∀ {x k : Nat}, isA S x k → ¬ k = 17 → U.i x = S.i x := fun hx hk => by
    rw [Q7 _ (kne hx a2 hk) (kne hx a3 hk), P7 _ (kne hx a0 hk) (kne hx a1 hk), S1i]
  have u0 : U.i (S.f r 0) = cH g (S.i (S.f (S.f a 5) 1)) (S.i (S.f r 0)) N := by
    rw [Q7 _ (m4 0 2 (by omega) (by omega)) (m4 0 3 (by omega) (by omega)), pP, S1i]
  have u1 : U.i (S.f r 1) = cL g (S.i (S.f (S.f a 5) 1)) (S.i (S.f r 1)) N := by
    rw [Q7 _ (m4 1 2 (by omega) (by omega)) (m4 1 3 (by omega) (by omega)), qP, S1i]
  have s2 : S2.i (S.f (S.f a' 5) 1) = S.i (S.f (S.f a' 5) 1) := by rw [P7 _ (kne hs0' a0 (by decide)) (kne hs0' a1 (by decide)), S1i]
  rw [s2] at pQ qQ
  -- the reference
  obtain ⟨W, hWe⟩ : ∃ z, Z U = z := ⟨_, rfl⟩
  have W1 : ∀ x, ¬ x = o → W.I x = U.I x := fun x hx => by rw [← hWe]; exact Z1 U x hx
  obtain ⟨W2, W3, W4⟩ := Z2 U
  rw [hWe] at W2 W3 W4 ⊢
  have Wf : ∀ x j, W.f x j = S.f x j := fun x j => by unfold wPS.f; rw [W3, UF]
  have c0 := k12.F29.2.1
  have c1 := k12.F30.2.1
  have c2 := k12.F31.2.1
  have c3 := k12.F32.2.1
  have rI : ∀ {x k : Nat}, isA S x k → k ≠ 6 → k ≠ 12 → W.I x = S.I x := fun hx hk hk2 => by rw [W1 _ (fun e => hk2 (by rw [← hx.2.1, e]; exact hA.2.1)), UI, ← hS1]; exact sI_no (fun e => hk (by rw [← hx.2.1, e]; exact r6.2.1))
  have UB : W.I b 1 = S.I b 1 := by rw [rI gb (by decide) (by decide)]
  have UB' : W.I b' 1 = S.I b' 1 := by rw [rI gb' (by decide) (by decide)]
  have Ue : W.i (W.f b 5) = S.i (S.f b 5) := by rw [Wf, W2]; exact i29 hb5 (by decide)
  have Ue' : U.i (S.f b' 5) = S.i (S.f b' 5) := i29 hb5' (by decide)
  obtain ⟨R, pR, qR⟩ := pl_all (S := W) (b := b) (p := S.f o 29) (q := S.f o 30) (m := g) (N := N) (st := S.i (S.f (S.f a 5) 1)) (by rw [UB]; exact hN2) (by omega) (by rw [Ue]; exact hbd) (by rw [Ue]; exact hq) (by omega) (m6 29 30 (by omega) (by omega) (by omega)) (by rw [Wf]; exact kne hb5 c0 (by decide)) (by rw [Wf]; exact kne hb5 c1 (by decide))
  obtain ⟨V1, hV1⟩ : ∃ z, f_X10_places W b (nI g) (S.f o 29) (S.f o 30) = z := ⟨_, rfl⟩
  rw [hV1] at R pR qR
  obtain ⟨R1, R2, R3, R4, R5, R6, R7⟩ := R
  have V1f : ∀ x j, V1.f x j = S.f x j := fun x j => by unfold wPS.f; rw [R4, W3, UF]
  have Ve' : V1.i (V1.f b' 5) = S.i (S.f b' 5) := by rw [V1f, R7 _ (kne hb5' c0 (by decide)) (kne hb5' c1 (by decide)), W2]; exact Ue'
  obtain ⟨T, pT, qT⟩ := pl_all (S := V1) (b := b') (p := S.f o 31) (q := S.f o 32) (m := g) (N := N') (st := S.i (S.f (S.f a' 5) 1)) (by rw [R6, UB']; exact hN2') (by omega) (by rw [Ve']; exact hbd') (by rw [Ve']; exact hq') (by omega) (m6 31 32 (by omega) (by omega) (by omega)) (by rw [V1f]; exact kne hb5' c2 (by decide)) (by rw [V1f]; exact kne hb5' c3 (by decide))
  obtain ⟨V, hV⟩ : ∃ z, f_X10_places V1 b' (nI g) (S.f o 31) (S.f o 32) = z := ⟨_, rfl⟩
  rw [hV] at T pT qT
  obtain ⟨T1, T2, T3, T4, T5, T6, T7⟩ := T
  have VF : V.F = S.F := T4.trans (R4.trans (W3.trans UF))
  have Vf : ∀ x j, V.f x j = S.f x j := fun x j => by unfold wPS.f; rw [VF]
  have lays : f_X12_laysPlaces W o b b' = (nI g, V) := by
    unfold f_X12_laysPlaces
    rw [UB, UB', dg, Wf, Wf, Wf, Wf]
    dsimp only [l1]
    rw [hV1, hV]
  have bq : ∀ k, k < N → -40000000 ≤ (S.i (S.f (S.f a 5) 1) k).toInt ∧ (S.i (S.f (S.f a 5) 1) k).toInt ≤ 40000000 := fun k hk => by
    rw [hq k hk]; exact td_b (by omega) (cST_b hbd (by omega) (by omega))
  have bq' : ∀ k, k < N' → -40000000 ≤ (S.i (S.f (S.f a' 5) 1) k).toInt ∧ (S.i (S.f (S.f a' 5) 1) k).toInt ≤ 40000000 := fun k hk => by
    rw [hq' k hk]; exact td_b (by omega) (cST_b hbd' (by omega) (by omega))
  refine ⟨g, V, lays, ⟨by rw [UI, ← hS1, sI_eq], by omega, fun j hj => ?_, fun j hj => ?_⟩, by rw [UI, hS1], T6.trans R6, UF, Ur⟩
  · rw [Uf, Uf, Uf, Uf, Vf, Vf, Vf, Vf, u0, u1, pQ, qQ, pT, qT, T7 _ (m6 29 31 (by omega) (by omega) (by omega)) (m6 29 32 (by omega) (by omega) (by omega)), T7 _ (m6 30 31 (by omega) (by omega) (by omega)) (m6 30 32 (by omega) (by omega) (by omega)), pR, qR]
    exact ⟨(cH_ag _ _ _ (by omega) N j hj (by omega)).1, (cH_ag _ _ _ (by omega) N j hj (by omega)).2, (cH_ag _ _ _ (by omega) N' j hj (by omega)).1, (cH_ag _ _ _ (by omega) N' j hj (by omega)).2⟩
  · rw [Vf, Vf, Vf, Vf, pT, qT, T7 _ (m6 29 31 (by omega) (by omega) (by omega)) (m6 29 32 (by omega) (by omega) (by omega)), T7 _ (m6 30 31 (by omega) (by omega) (by omega)) (m6 30 32 (by omega) (by omega) (by omega)), pR, qR]
    obtain ⟨x1, x2⟩ := cH_bd (S.i (S.f (S.f a 5) 1)) (W.i (S.f o 29)) (show 1 ≤ g by omega) N bq N j (Nat.le_refl _) hj (by omega)
    obtain ⟨x3, x4⟩ := cH_bd (S.i (S.f (S.f a 5) 1)) (W.i (S.f o 30)) (show 1 ≤ g by omega) N bq N j (Nat.le_refl _) hj (by omega)
    obtain ⟨x5, x6⟩ := cH_bd (S.i (S.f (S.f a' 5) 1)) (V1.i (S.f o 31)) (show 1 ≤ g by omega) N' bq' N' j (Nat.le_refl _) hj (by omega)
    obtain ⟨x7, x8⟩ := cH_bd (S.i (S.f (S.f a' 5) 1)) (V1.i (S.f o 32)) (show 1 ≤ g by omega) N' bq' N' j (Nat.le_refl _) hj (by omega)
    exact ⟨by omega, by omega, by omega, by omega⟩
theorem is_U {S U : wPS} {o2 o1 : Nat} {y : Int32} (mRG : RG o2 S o1) (F : U.F = S.F) (r : U.r = S.r) (hI : ∀ x k, isA S x k → k ≠ 6 → U.I x = S.I x) : f_X12_isGear U o1 y = f_X12_isGear S o1 y ∧ f_X12_gearAt U o1 y = f_X12_gearAt S o1 y := by
  have uf : ∀ x j, U.f x j = S.f x j := fun x j => by unfold wPS.f; rw [F]
  refine ⟨?_, ?_⟩
  · show f_X12_in y.toInt64 0 ((U.I (U.f o1 0) 2 - (1 : Int32)).toInt64) = f_X12_in y.toInt64 0 ((S.I (S.f o1 0) 2 - (1 : Int32)).toInt64)
    rw [uf, hI _ 14 mRG.2.1.2.1 (by decide)]
  · show ((U.r ((U.F ((U.F o1 0).getD 0) 1).getD 0) y.toNatClampNeg).getD 0) = ((S.r ((S.F ((S.F o1 0).getD 0) 1).getD 0) y.toNatClampNeg).getD 0)
    rw [F, r]
theorem eq_peak {S S4 S16 : wPS} {o1 o2 : Nat} {y1 y2 y3 r3 r20 r12 : Int32} {fo f5 : Nat → Int64} (mRG : RG o2 S o1) (mRC : RC o2 S o1) (mRR : RR o2 S o1) (hA : isA S o1 12) (hW : wtB S []) (hw : stp [(6, 4), (17, 100)] [] [] S S4) (hm : stp [(12, 15), (17, 100)] [] [] S4 S16) (h : (∃ v, f_X9_peak S o2 y1 y2 y3 = .ok (v, S4) ∧ r3 = 0 ∧ f5 = vp_updL fo (0 : Int32).toNatClampNeg (v.toInt64)) ∨ (∃ E, f_X9_peak S o2 y1 y2 y3 = .error E ∧ r3 = wc_peak E ∧ f5 = fo ∧ S4 = S)) (h2 : (r12, S16) = f_X12_peak S4 o1 y1 y2 y3) (h3 : r20 = f_X12_thrown S16 o1) : r20 = r3 ∧ (r3 = 0 → f5 (0 : Int32).toNatClampNeg = r12.toInt64) := by
  have ok : ∀ v z U T, f_X9_peak S o2 y1 y2 y3 = .ok (v, U) → f_X12_peak U o1 y1 y2 y3 = (z, T) → T.I o1 15 = 0 → v.toInt64 = z.toInt64 → r20 = r3 ∧ (r3 = 0 → f5 (0 : Int32).toNatClampNeg = r12.toInt64) := fun v z U T e1 e2 e3 e4 => by
    rcases h with ⟨w, g, g2, g3⟩ | ⟨E, g, -⟩
    · rw [e1] at g
      obtain ⟨rfl, rfl⟩ := Prod.mk.inj (Except.ok.inj g)
      rw [e2] at h2
      obtain ⟨rfl, rfl⟩ := Prod.mk.inj h2
      exact ⟨(h3.trans e3).trans g2.symm, fun _ => by rw [g3, ← e4]; simp [vp_updL]⟩
    · rw [e1] at g; cases g
  have er : ∀ E n z, f_X9_peak S o2 y1 y2 y3 = .error E → wc_peak E = n → ¬ n = 0 → f_X12_peak S o1 y1 y2 y3 = (z, S.sI o1 15 n) → r20 = r3 ∧ (r3 = 0 → f5 (0 : Int32).toNatClampNeg = r12.toInt64) := fun E n z e1 e2 e3 e4 => by
    rcases h with ⟨w, g, -⟩ | ⟨E2, g, g2, g3, g4⟩
    · rw [e1] at g; cases g
    · rw [e1] at g; cases g
      rw [g4, e4] at h2
      obtain ⟨rfl, rfl⟩ := Prod.mk.inj h2
      have t20 : r20 = n := h3.trans sI_eq
      have t3 : r3 = n := g2.trans e2
      exact ⟨t20.trans t3.symm, fun q => absurd (t3.symm.trans q) e3⟩
  have a0 : (0 : Int32).toInt = 0 := rfl
  have b0 : (0 : Int64).toInt = 0 := rfl
  rcases pr_cases y1 y2 mRG hW hA with ⟨i, a, b, i', a', b', hy, hy', c1, c1', c3, c3', g, g', c2, c2', q⟩ | ⟨c1, c2, c3⟩
  · obtain ⟨y, p1⟩ := cy_at mRC mRG hW hA c1 c3 c2
    obtain ⟨y', p1'⟩ := cy_at mRC mRG hW hA c1' c3' c2'
    obtain ⟨ga, gb, -⟩ := g
    obtain ⟨ga', gb', -⟩ := g'
    have hn' := y'.2.2.2.2.1
    have t1 : (S.I a' 1 - (1 : Int32)).toInt = (S.I a' 1).toInt - 1 := t_subr (n := 1) rfl (by omega)
    by_cases k3 : 0 ≤ y3.toInt ∧ y3.toInt ≤ (S.I a' 1).toInt - 1
    · rcases q with ⟨n1, n2, n3⟩ | ⟨n1, n2, n3⟩
      · obtain ⟨G, V, lp, ok', uI, vI, uF, ur⟩ := rl_eq mRR hW hA ga gb gb' y y' p1 p1' (fun U => U) (fun _ _ _ => rfl) (fun _ => ⟨rfl, rfl, rfl⟩)
        obtain ⟨U, eU⟩ : ∃ z, f_X6_take S (S.f o2 7) (S.f a 5) (S.f a' 5) = z := ⟨_, rfl⟩
        rw [eU] at lp ok' uI vI uF ur
        have hx : ∀ x k, isA S x k → k ≠ 6 → U.I x = S.I x := fun x k h1 h2 => by rw [uI]; exact sI_no (fun e => h2 (by rw [← h1.2.1, e]; exact mRR.2.1.2.2.1))
        obtain ⟨u2, u3⟩ := is_U (y := y1) mRG uF ur hx
        obtain ⟨u2', u3'⟩ := is_U (y := y2) mRG uF ur hx
        rw [c3] at u3
        rw [c3'] at u3'
        have ub : U.I b = S.I b := hx b 10 gb (by decide)
        have ub' : U.I b' = S.I b' := hx b' 10 gb' (by decide)
        have ipU : f_X12_isPair U o1 y1 y2 = f_X12_isPair S o1 y1 y2 := by
          unfold f_X12_isPair
          rw [u3, u3', c3, c3']
          dsimp only [l1]
          rw [ub, ub']
        have cy := cl_int (i := y3) k3.1
        have e3 : nI y3.toNatClampNeg = y3 := Int32.toInt_inj.mp (by rw [nI_toInt (by omega)]; omega)
        have pk := rk_eq ok' (x := y3.toNatClampNeg) (by omega)
        rw [e3] at pk
        have po : f_X12_peakOf U o1 b b' y3 = (f_X12_peakBy V o1 (nI G) y3, V) := by
          unfold f_X12_peakOf
          rw [lp]; rfl
        refine ok (f_X6_peakFrom U (S.f o2 7) y3) (f_X12_peakBy V o1 (nI G) y3) U (V.sI o1 15 0) ?_ ?_ sI_eq (by rw [pk])
        · unfold f_X9_peak
          rw [eB_ok c1, eB_ok c1', eB_ok (rng_ok (by rw [a0, t1]; exact k3)), eB_ok n1, eU]; rfl
        · unfold f_X12_peak
          rw [u2, if_neg c2, u2', if_neg c2', u3', u3]
          dsimp only [l1]
          rw [ub', ← p1', in_ok (by rw [i64_i, i64_i, b0, t1]; exact k3), if_neg (by decide), ipU, if_neg n2, po]
          rfl
      · refine er "java/lang/UnsupportedOperationException" 3 0 ?_ (by decide +kernel) (by decide) ?_
        · unfold f_X9_peak; rw [eB_ok c1, eB_ok c1', eB_ok (rng_ok (by rw [a0, t1]; exact k3))]; exact eB_er n1
        · unfold f_X12_peak
          rw [if_neg c2, if_neg c2', c3']
          dsimp only [l1]
          rw [← p1', in_ok (by rw [i64_i, i64_i, b0, t1]; exact k3), if_neg (by decide), if_pos n2]; rfl
    · refine er "java/lang/IllegalArgumentException" 2 0 ?_ (by decide +kernel) (by decide) ?_
      · unfold f_X9_peak; rw [eB_ok c1, eB_ok c1']; exact eB_er (rng_er (by rw [a0, t1]; exact k3))
      · unfold f_X12_peak
        rw [if_neg c2, if_neg c2', c3']
        dsimp only [l1]
        rw [← p1', in_no (by rw [i64_i, i64_i, b0, t1]; exact k3), if_pos rfl]; rfl
  · refine er "java/lang/IndexOutOfBoundsException" 1 0 ?_ (by decide +kernel) (by decide) ?_
    · unfold f_X9_peak; exact c1 _ _
    · unfold f_X12_peak
      rcases c2 with c2 | ⟨c2, c2'⟩
      · rw [if_pos c2]; rfl
      · rw [if_neg c2, if_pos c2']; rfl
/-! what is measured of a chart -/
def cMF (S U : wPS) (c s0 : Nat) : Prop := U.L = S.L ∧ U.K = S.K ∧ U.n = S.n ∧ U.F = S.F ∧ U.r = S.r ∧ (∀ x, ¬ x = c → U.I x = S.I x) ∧ ∀ x, ¬ x = s0 → U.i x = S.i x
theorem cMF.step {S U : wPS} {c s0 : Nat} {f : Nat → Int32} {v : Int32} (h : cMF S U c s0) : cMF S ((U.si s0 f).sI c 2 v) c s0 := by
  obtain ⟨h1, h2, h3, h4, h5, h6, h7⟩ := h
  refine ⟨h1, h2, h3, h4, h5, fun x hx => ?_, fun x hx => ?_⟩
  · rw [sI_no hx]; exact h6 x hx
  · show va_up U.i s0 f x = S.i x
    rw [up_nq hx]; exact h7 x hx
theorem meas_loop {S : wPS} {c N : Nat} (hN : S.n (S.f c 0) = N) (h6 : 1 ≤ N ∧ N ≤ 200) (hb : cBD (S.i (S.f c 0))) (hne : ¬ S.f c 0 = S.f c 1) : ∀ (n k : Nat) (U : wPS) (w3 w5 w7 : Int64), k ≤ N → N - k < n → cMF S U c (S.f c 1) → w3.toInt = cPS (S.i (S.f c 0)) k → w5.toInt = cHI (S.i (S.f c 0)) N k → w7.toInt = cLO (S.i (S.f c 0)) N k → (∀ j, j < k → (U.i (S.f c 1) j).toInt = cQQ (S.i (S.f c 0)) N j) → (k = 0 ∨ (U.I c 2).toInt = (cHI (S.i (S.f c 0)) N k - cLO (S.i (S.f c 0)) N k) / (N : Int)) → cMF S (f_X1_measure_L19 S c n U w3 w5 w7 (nI k)).1 c (S.f c 1) ∧ (∀ j, j < N → ((f_X1_measure_L19 S c n U w3 w5 w7 (nI k)).1.i (S.f c 1) j).toInt = cQQ (S.i (S.f c 0)) N j) ∧ ((f_X1_measure_L19 S c n U w3 w5 w7 (nI k)).1.I c 2).toInt = cFF (S.i (S.f c 0)) N := by
  obtain ⟨e, he⟩ : ∃ z, S.i (S.f c 0) = z := ⟨_, rfl⟩
  have hA := soc_all hN h6.2 hb
  rw [he] at hb hA ⊢
  obtain ⟨A, hA1⟩ : ∃ z, f_X1_sumOfClass S c (0 : Int32) (1 : Int32) = z := ⟨_, rfl⟩
  rw [hA1] at hA
  have eN : (nI N).toInt = (N : Int) := nI_toInt (by omega)
  have eN64 : (nI N).toInt64.toInt = (N : Int) := by rw [i64_i]; exact eN
  have A64 : A.toInt64.toInt = cPS e N := by rw [i64_i]; exact hA
  intro n
  induction n with
  | zero => intro k U w3 w5 w7 _ h; omega
  | succ n ih =>
    intro k U w3 w5 w7 hk hn hM h3 h5 h7 hq hf
    have ek : (nI k).toInt = (k : Int) := nI_toInt (by omega)
    have ek64 : (nI k).toInt64.toInt = (k : Int) := by rw [i64_i]; exact ek
    rw [f_X1_measure_L19_s, hN]
    by_cases c9 : k = N
    · rw [if_pos (Int32.le_iff_toInt_le.mpr (by omega))]
      subst c9
      exact ⟨hM, hq, hf.resolve_left (by omega)⟩
    · rw [if_neg (fun q => by have := Int32.le_iff_toInt_le.mp q; omega), hA1]
      have b1 := hb k
      have b2 := cPS_B hb (k := k) (by omega)
      have b3 := cPS_B hb (k := N) h6.2
      have m1 := c_mb (n := (N : Int)) (p := cPS e k) (by omega) b2
      have m2 := c_mb (n := (k : Int)) (p := cPS e N) (by omega) b3
      have x1 : ((nI N).toInt64 * w3).toInt = (N : Int) * cPS e k := by rw [t64_mul (by rw [eN64, h3]; omega), eN64, h3]
      have x2 : ((nI k).toInt64 * A.toInt64).toInt = (k : Int) * cPS e N := by rw [t64_mul (by rw [ek64, A64]; omega), ek64, A64]
      have x3 : ((nI N).toInt64 * w3 - (nI k).toInt64 * A.toInt64).toInt = cST e N k := by rw [t64_sub (by rw [x1, x2]; omega), x1, x2]; rfl
      obtain ⟨X, hX⟩ : ∃ z, (nI N).toInt64 * w3 - (nI k).toInt64 * A.toInt64 = z := ⟨_, rfl⟩
      rw [hX] at x3 ⊢
      have bs := cST_b hb h6.2 (k := k) hk
      have xm := c_max64 h5 x3
      have xn := c_min64 h7 x3
      have bH := cHI_b hb h6.2 (k + 1) (by omega)
      have bL := cLO_b hb h6.2 (k + 1) (by omega)
      obtain ⟨H, hH⟩ : ∃ z, (if X < w5 then w5 else X) = z := ⟨_, rfl⟩
      obtain ⟨L, hL⟩ : ∃ z, (if X < w7 then X else w7) = z := ⟨_, rfl⟩
      rw [hH] at xm ⊢
      rw [hL] at xn ⊢
      have xH : H.toInt = cHI e N (k + 1) := xm
      have xL : L.toInt = cLO e N (k + 1) := xn
      have d1 : (H - L).toInt = cHI e N (k + 1) - cLO e N (k + 1) := by rw [t64_sub (by rw [xH, xL]; omega), xH, xL]
      have d2 : ((H - L) / (nI N).toInt64).toInt = (cHI e N (k + 1) - cLO e N (k + 1)) / (N : Int) := by rw [t64_divl (n := (N : Int)) eN64 (by rw [d1]; omega) (by omega), d1]
      have d3 : (cHI e N (k + 1) - cLO e N (k + 1)) / (N : Int) ≤ cHI e N (k + 1) - cLO e N (k + 1) := Int.ediv_le_self _ (by omega)
      have d4 : 0 ≤ (cHI e N (k + 1) - cLO e N (k + 1)) / (N : Int) := Int.ediv_nonneg (by omega) (by omega)
      have q1 : (X / (nI N).toInt64).toInt = cQQ e N k := by rw [t64_tdiv (by omega) (by omega), x3, eN64]; rfl
      have q2 := td_b (a := cST e N k) (b := (N : Int)) (B := 40000000) (by omega) (by omega)
      dsimp only [l1]
      rw [nI_s (by omega), nI_cN (by omega)]
      have iE : ((U.si (S.f c 1) (upd (U.i (S.f c 1)) k (X / (nI N).toInt64).toInt32)).sI c 2 ((H - L) / (nI N).toInt64).toInt32).i (S.f c 0) = e := by
        show va_up U.i (S.f c 1) _ (S.f c 0) = e
        rw [up_nq hne, hM.2.2.2.2.2.2 _ hne]; exact he
      have iQ : ((U.si (S.f c 1) (upd (U.i (S.f c 1)) k (X / (nI N).toInt64).toInt32)).sI c 2 ((H - L) / (nI N).toInt64).toInt32).i (S.f c 1) = upd (U.i (S.f c 1)) k (X / (nI N).toInt64).toInt32 := by
        show va_up U.i (S.f c 1) _ (S.f c 1) = _
        rw [up_qq]
      rw [iE]
      refine ih (k + 1) _ _ _ _ (by omega) (by omega) hM.step ?_ xH xL (fun j hj => ?_) (Or.inr ?_)
      · rw [t64_add (by rw [i64_i]; omega), i64_i, h3]; rfl
      · rw [iQ]
        unfold upd
        by_cases hjk : j = k
        · rw [if_pos hjk, c_l2i (by rw [q1]; unfold cQQ; omega), q1, hjk]
        · rw [if_neg hjk]; exact hq j (by omega)
      · rw [sI_eq, c_l2i (by rw [d2]; omega), d2]
theorem meas {S : wPS} {c N : Nat} (hN : S.n (S.f c 0) = N) (h6 : 1 ≤ N ∧ N ≤ 200) (hb : cBD (S.i (S.f c 0))) (hne : ¬ S.f c 0 = S.f c 1) : cMF S (f_X1_measure S c) c (S.f c 1) ∧ (∀ j, j < N → ((f_X1_measure S c).i (S.f c 1) j).toInt = cQQ (S.i (S.f c 0)) N j) ∧ ((f_X1_measure S c).I c 2).toInt = cFF (S.i (S.f c 0)) N :=
  meas_loop hN h6 hb hne 201 0 S 0 0 0 (by omega) (by omega) ⟨rfl, rfl, rfl, rfl, rfl, fun _ _ => rfl, fun _ _ => rfl⟩ rfl rfl rfl (fun j hj => absurd hj (Nat.not_lt_zero j)) (Or.inl rfl)
theorem eq_chart {S S4 S16 : wPS} {o1 o2 : Nat} {y1 y2 y3 r3 r20 : Int32} {r12 : Int32} {fo f5 : Nat → Int64} (mRG : RG o2 S o1) (mRC : RC o2 S o1) (hA : isA S o1 12) (hW : wtB S []) (hw : stp [(1, 2), (25, 100), (26, 100)] [] [] S S4) (hm : stp [(12, 15), (29, 100)] [] [] S4 S16) (h : (∃ v, f_X9_chart S o2 y1 y2 y3 = .ok (v, S4) ∧ r3 = 0 ∧ f5 = vp_updL fo (0 : Int32).toNatClampNeg (v.toInt64)) ∨ (∃ E, f_X9_chart S o2 y1 y2 y3 = .error E ∧ r3 = wc_chart E ∧ f5 = fo ∧ S4 = S)) (h2 : (r12, S16) = f_X12_chart S4 o1 y1 y2 y3) (h3 : r20 = f_X12_thrown S16 o1) : (r20 = r3 ∧ (r3 = 0 → f5 (0 : Int32).toNatClampNeg = r12.toInt64)) ∧ RC o2 S16 o1 := by
  have ok : ∀ v z U T, f_X9_chart S o2 y1 y2 y3 = .ok (v, U) → f_X12_chart U o1 y1 y2 y3 = (z, T) → T.I o1 15 = 0 → ((v.toInt64) : Int64) = z.toInt64 → (RC o2 T o1) → (r20 = r3 ∧ (r3 = 0 → f5 (0 : Int32).toNatClampNeg = r12.toInt64)) ∧ RC o2 S16 o1 := fun v z U T e1 e2 e3 e4 e5 => by
    rcases h with ⟨w, g, g2, g3⟩ | ⟨E, g, -⟩
    · rw [e1] at g
      obtain ⟨rfl, rfl⟩ := Prod.mk.inj (Except.ok.inj g)
      rw [e2] at h2
      obtain ⟨rfl, rfl⟩ := Prod.mk.inj h2
      exact ⟨⟨(h3.trans e3).trans g2.symm, fun _ => by rw [g3, ← e4]; simp [vp_updL]⟩, e5⟩
    · rw [e1] at g; cases g
  have er : ∀ E n z, f_X9_chart S o2 y1 y2 y3 = .error E → wc_chart E = n → ¬ n = 0 → f_X12_chart S o1 y1 y2 y3 = (z, S.sI o1 15 n) → (r20 = r3 ∧ (r3 = 0 → f5 (0 : Int32).toNatClampNeg = r12.toInt64)) ∧ RC o2 S16 o1 := fun E n z e1 e2 e3 e4 => by
    rcases h with ⟨w, g, -⟩ | ⟨E2, g, g2, g3, g4⟩
    · rw [e1] at g; cases g
    · rw [e1] at g; cases g
      rw [g4, e4] at h2
      obtain ⟨rfl, rfl⟩ := Prod.mk.inj h2
      have t20 : r20 = n := h3.trans sI_eq
      have t3 : r3 = n := g2.trans e2
      exact ⟨⟨t20.trans t3.symm, fun q => absurd (t3.symm.trans q) e3⟩, RC.sI hA mRC⟩
  have am : (-500 : Int32).toInt = -500 := rfl
  have a5 : (500 : Int32).toInt = 500 := rfl
  have a0 : (0 : Int32).toInt = 0 := rfl
  have b0 : (0 : Int64).toInt = 0 := rfl
  rcases ga_cases y1 mRG hW hA with ⟨i, a, b, hy, hi, c1, c2, c3, ea, eb, g⟩ | ⟨c1, c2⟩
  · have y := mRC.2.1 i hi
    have p1 := (mRC.1.2.2.2.1 i hi).2.2
    rw [ea, eb] at y p1
    obtain ⟨ga, gb, -⟩ := g
    obtain ⟨⟨e5, c5⟩, ⟨e0, h0⟩, ⟨es, hs0⟩, ⟨ebb, hb5⟩, hn, hii, hr, hs, hq⟩ := y
    have t1 : (S.I a 1 - (1 : Int32)).toInt = (S.I a 1).toInt - 1 := t_subr (n := 1) rfl (by omega)
    by_cases k2 : 0 ≤ y2.toInt ∧ y2.toInt ≤ (S.I a 1).toInt - 1
    · by_cases k3 : -500 ≤ y3.toInt ∧ y3.toInt ≤ 500
      · obtain ⟨N, hN⟩ : ∃ z, S.n (S.f (S.f a 5) 0) = z := ⟨_, rfl⟩
        rw [hN] at hn
        have cy := cl_int (i := y2) k2.1
        have eN : (nI N).toInt = (N : Int) := nI_toInt (by omega)
        have kne : ∀ {x y k l : Nat}, isA S x k → isA S y l → k ≠ l → ¬ x = y := fun hx hy hk q => hk (by rw [← hx.2.1, q]; exact hy.2.1)
        have n01 := kne h0 hs0 (by decide)
        obtain ⟨T0, eT0⟩ : ∃ z, S.si (S.f (S.f a 5) 0) (upd (S.i (S.f (S.f a 5) 0)) y2.toNatClampNeg y3) = z := ⟨_, rfl⟩
        have T0f : ∀ x j, T0.f x j = S.f x j := fun x j => by rw [← eT0]; rfl
        have T0i : T0.i (S.f (S.f a 5) 0) = upd (S.i (S.f b 5)) y2.toNatClampNeg y3 := by
          rw [← eT0]
          show va_up S.i _ _ _ = _
          rw [up_qq, hii]
        have T0o : ∀ x, ¬ x = S.f (S.f a 5) 0 → T0.i x = S.i x := fun x hx => by
          rw [← eT0]
          show va_up S.i _ _ x = _
          rw [up_nq hx]
        have T0n : T0.n (T0.f (S.f a 5) 0) = N := by rw [T0f, ← eT0]; exact hN
        have hb' : cBD (upd (S.i (S.f b 5)) y2.toNatClampNeg y3) := fun k => by
          unfold upd
          by_cases q : k = y2.toNatClampNeg
          · rw [if_pos q]; exact k3
          · rw [if_neg q]; exact hr k
        obtain ⟨M, Q, G2⟩ := meas (S := T0) (c := S.f a 5) T0n (by omega) (by rw [T0f, T0i]; exact hb') (by rw [T0f, T0f]; exact n01)
        rw [T0f, T0f, T0i] at Q
        rw [T0f] at M
        rw [T0f, T0i] at G2
        obtain ⟨U, eU⟩ : ∃ z, f_X1_measure T0 (S.f a 5) = z := ⟨_, rfl⟩
        rw [eU] at M Q G2
        obtain ⟨u1, u2, u3, u4, u5, u6, u7⟩ := M
        have uL : U.L = S.L := u1.trans (by rw [← eT0]; rfl)
        have uK : U.K = S.K := u2.trans (by rw [← eT0]; rfl)
        have un : U.n = S.n := u3.trans (by rw [← eT0]; rfl)
        have uF : U.F = S.F := u4.trans (by rw [← eT0]; rfl)
        have ur : U.r = S.r := u5.trans (by rw [← eT0]; rfl)
        have uf : ∀ x j, U.f x j = S.f x j := fun x j => by unfold wPS.f; rw [uF]
        have uI : ∀ x, ¬ x = S.f a 5 → U.I x = S.I x := fun x hx => (u6 x hx).trans (by rw [← eT0]; rfl)
        have ui : ∀ x, ¬ x = S.f (S.f a 5) 0 → ¬ x = S.f (S.f a 5) 1 → U.i x = S.i x := fun x h1 h2 => (u7 x h2).trans (T0o x h1)
        have ui0 : U.i (S.f (S.f a 5) 0) = upd (S.i (S.f b 5)) y2.toNatClampNeg y3 := (u7 _ n01).trans T0i
        have uib : U.i (S.f b 5) = S.i (S.f b 5) := ui _ (kne hb5 h0 (by decide)) (kne hb5 hs0 (by decide))
        have b10 : U.I b = S.I b := uI _ (kne gb c5 (by decide))
        have g1 : f_X12_isGear U o1 y1 = f_X12_isGear S o1 y1 := by
          show f_X12_in y1.toInt64 0 ((U.I (U.f o1 0) 2 - (1 : Int32)).toInt64) = f_X12_in y1.toInt64 0 ((S.I (S.f o1 0) 2 - (1 : Int32)).toInt64)
          rw [uf, uI (S.f o1 0) (kne mRC.1.2.1.2.1 c5 (by decide))]
        have g2 : f_X12_gearAt U o1 y1 = b := by
          rw [← c3]
          show ((U.r ((U.F ((U.F o1 0).getD 0) 1).getD 0) y1.toNatClampNeg).getD 0) = ((S.r ((S.F ((S.F o1 0).getD 0) 1).getD 0) y1.toNatClampNeg).getD 0)
          rw [uF, ur]
        obtain ⟨V, eV⟩ : ∃ z, U.si (S.f b 5) (upd (U.i (S.f b 5)) y2.toNatClampNeg y3) = z := ⟨_, rfl⟩
        have vI : V.I = U.I := by rw [← eV]; rfl
        have vib : V.i (S.f b 5) = upd (S.i (S.f b 5)) y2.toNatClampNeg y3 := by
          rw [← eV]
          show va_up U.i _ _ _ = _
          rw [up_qq, uib]
        have vio : ∀ x, ¬ x = S.f b 5 → V.i x = U.i x := fun x hx => by
          rw [← eV]
          show va_up U.i _ _ x = _
          rw [up_nq hx]
        have vL : V.L = S.L := by rw [← eV]; exact uL
        have vK : V.K = S.K := by rw [← eV]; exact uK
        have vn : V.n = S.n := by rw [← eV]; exact un
        have vF : V.F = S.F := by rw [← eV]; exact uF
        have vr : V.r = S.r := by rw [← eV]; exact ur
        have vf : ∀ x j, V.f x j = S.f x j := fun x j => by unfold wPS.f; rw [vF]
        have vA : ∀ {x k : Nat}, isA S x k → isA V x k := fun h => by unfold isA at h ⊢; rw [vL, vK, vn]; exact h
        have yV : CY V a b := by
          unfold CY
          simp only [vf, vF, vn]
          rw [vI, uI a (kne ga c5 (by decide)), hN, vib, vio _ (kne h0 hb5 (by decide)), ui0, vio _ (kne hs0 hb5 (by decide))]
          exact ⟨⟨e5, vA c5⟩, ⟨e0, vA h0⟩, ⟨es, vA hs0⟩, ⟨ebb, vA hb5⟩, hn, rfl, hb', G2, Q⟩
        have mV : RC o2 V o1 := RC.upd vL vK vn vF vr hi ea eb yV (fun x hx => by rw [vI]; exact uI x hx) (fun x q1 q2 q3 => by rw [vio x q3]; exact ui x q1 q2) mRC
        have hAV : isA V o1 12 := vA hA
        refine ok (S.i (S.f (S.f a 5) 0) y2.toNatClampNeg) (U.i (S.f b 5) y2.toNatClampNeg) U (V.sI o1 15 0) ?_ ?_ sI_eq (by rw [uib, hii]) (RC.sI hAV mV)
        · unfold f_X9_chart
          rw [eB_ok c1, eB_ok (rng_ok (by rw [a0, t1]; exact k2)), eB_ok (rng_ok (by rw [am, a5]; exact k3))]
          have ht : f_X1_tell S (S.f a 5) y2 y3 = (S.i (S.f (S.f a 5) 0) y2.toNatClampNeg, U) := by
            unfold f_X1_tell
            rw [if_neg (fun q => by have := Int32.lt_iff_toInt_lt.mp q; omega), hN, if_pos (Int32.lt_iff_toInt_lt.mpr (by omega)), eT0]
            show (_, f_X1_measure T0 (S.f a 5)) = _
            rw [eU]
          rw [ht]; rfl
        · unfold f_X12_chart
          rw [g1, if_neg c2, g2]
          show (if f_X12_in y2.toInt64 (0 : Int64) ((U.I b 1 - (1 : Int32)).toInt64) = (0 : Int32) then _ else _) = _
          rw [b10, ← p1, in_ok (by rw [i64_i, i64_i, b0, t1]; exact k2), if_neg (by decide), li64 (a := -500) (b := 500) rfl rfl k3, if_neg (by decide)]
          show ((U.i (U.f b 5) y2.toNatClampNeg), (U.si (U.f b 5) (upd (U.i (U.f b 5)) y2.toNatClampNeg y3)).sI o1 15 0) = _
          rw [uf, eV]
      · refine er "java/lang/IllegalArgumentException" 2 0 ?_ (by decide +kernel) (by decide) ?_
        · unfold f_X9_chart; rw [eB_ok c1, eB_ok (rng_ok (by rw [a0, t1]; exact k2))]; exact eB_er (rng_er (by rw [am, a5]; exact k3))
        · unfold f_X12_chart
          rw [if_neg c2, c3]
          show (if f_X12_in y2.toInt64 (0 : Int64) ((S.I b 1 - (1 : Int32)).toInt64) = (0 : Int32) then _ else _) = _
          rw [← p1, in_ok (by rw [i64_i, i64_i, b0, t1]; exact k2), if_neg (by decide), li64n (a := -500) (b := 500) rfl rfl k3, if_pos rfl]; rfl
    · refine er "java/lang/IllegalArgumentException" 2 0 ?_ (by decide +kernel) (by decide) ?_
      · unfold f_X9_chart; rw [eB_ok c1]; exact eB_er (rng_er (by rw [a0, t1]; exact k2))
      · unfold f_X12_chart
        rw [if_neg c2, c3]
        show (if f_X12_in y2.toInt64 (0 : Int64) ((S.I b 1 - (1 : Int32)).toInt64) = (0 : Int32) then _ else _) = _
        rw [← p1, in_no (by rw [i64_i, i64_i, b0, t1]; exact k2), if_pos rfl]; rfl
  · refine er "java/lang/IndexOutOfBoundsException" 1 0 ?_ (by decide +kernel) (by decide) ?_
    · unfold f_X9_chart; exact eB_er c1
    · unfold f_X12_chart; rw [if_pos c2]; rfl
