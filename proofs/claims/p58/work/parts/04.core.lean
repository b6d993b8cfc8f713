/-! THE POOL'S OWN RULES: what a thing of each kind holds; what a step may change -/
def isA (S : wPS) (a k : Nat) : Prop := a ∈ S.L ∧ S.K a = k ∧ S.n a < 2147483648
def wPS.f (S : wPS) (a j : Nat) : Nat := (S.F a j).getD 0
def wPS.q (S : wPS) (a j : Nat) : Nat := (S.r a j).getD 0
theorem f_of {S : wPS} {a j x : Nat} (h : S.F a j = some x) : S.f a j = x := by unfold wPS.f; rw [h]; rfl
theorem elq {S : wPS} {a i k : Nat} (h : ∃ g, S.r a i = some g ∧ isA S g k) : S.r a i = some (S.q a i) ∧ isA S (S.q a i) k := by
  obtain ⟨g, e, hg⟩ := h
  have h2 : S.q a i = g := by unfold wPS.q; rw [e]; rfl
  rw [h2]; exact ⟨e, hg⟩
theorem q_of {S : wPS} {a j x : Nat} (h : S.r a j = some x) : S.q a j = x := by unfold wPS.q; rw [h]; rfl
def ext (S S' : wPS) : Prop := ∀ a, a ∈ S.L → a ∈ S'.L ∧ S'.K a = S.K a ∧ S'.n a = S.n a ∧ ∀ j x, (S.K a ≠ 14 ∨ j ≠ 1) → S.F a j = some x → S'.F a j = some x
theorem ext.rf (S : wPS) : ext S S := fun _ h => ⟨h, rfl, rfl, fun _ _ _ e => e⟩
theorem ext.tr {S T U : wPS} (h : ext S T) (g : ext T U) : ext S U := fun a ha => by
  obtain ⟨h1, h2, h3, h4⟩ := h a ha
  obtain ⟨g1, g2, g3, g4⟩ := g a h1
  exact ⟨g1, g2.trans h2, g3.trans h3, fun j x hj e => g4 j x (by rw [h2]; exact hj) (h4 j x hj e)⟩
theorem ext.A {S T : wPS} (h : ext S T) {a k : Nat} (g : isA S a k) : isA T a k := by
  obtain ⟨h1, h2, h3, -⟩ := h a g.1
  exact ⟨h1, h2.trans g.2.1, by rw [h3]; exact g.2.2⟩
theorem ext.F {S T : wPS} (h : ext S T) {a k j x : Nat} (g : isA S a k) (hk : k ≠ 14 ∨ j ≠ 1) (e : S.F a j = some x) : T.F a j = some x := (h a g.1).2.2.2 j x (by rw [g.2.1]; exact hk) e
theorem ext.n {S T : wPS} (h : ext S T) {a k : Nat} (g : isA S a k) : T.n a = S.n a := (h a g.1).2.2.1
theorem ext.sI (S : wPS) (a j : Nat) (v : Int32) : ext S (S.sI a j v) := fun _ h => ⟨h, rfl, rfl, fun _ _ _ e => e⟩
theorem ext.sJ (S : wPS) (a j : Nat) (v : Int64) : ext S (S.sJ a j v) := fun _ h => ⟨h, rfl, rfl, fun _ _ _ e => e⟩
theorem ext.si (S : wPS) (a : Nat) (f : Nat → Int32) : ext S (S.si a f) := fun _ h => ⟨h, rfl, rfl, fun _ _ _ e => e⟩
theorem ext.sr (S : wPS) (a : Nat) (f : Nat → Option Nat) : ext S (S.sr a f) := fun _ h => ⟨h, rfl, rfl, fun _ _ _ e => e⟩
theorem sF_ne {S : wPS} {a j b i : Nat} {v : Option Nat} (h : ¬ (b = a ∧ i = j)) : (S.sF a j v).F b i = S.F b i := by
  show va_up S.F a (va_up (S.F a) j v) b i = _
  unfold va_up
  split
  · rename_i e; subst e
    show (if i = j then v else S.F b i) = S.F b i
    rw [if_neg (fun e2 => h ⟨rfl, e2⟩)]
  · rfl
theorem sF_eq {S : wPS} {a j : Nat} {v : Option Nat} : (S.sF a j v).F a j = v := by
  show va_up S.F a (va_up (S.F a) j v) a j = _
  simp [va_up]
theorem ext.sF {S : wPS} {a j : Nat} {v : Option Nat} (h : S.F a j = none) : ext S (S.sF a j v) := fun b hb => ⟨hb, rfl, rfl, fun i x _ e => by
  rw [sF_ne]; · exact e
  rintro ⟨rfl, rfl⟩; rw [h] at e; cases e⟩
theorem ext.sL {S : wPS} {a : Nat} {v : Option Nat} (h : isA S a 14) : ext S (S.sF a 1 v) := fun b hb => ⟨hb, rfl, rfl, fun i x hi e => by
  rw [sF_ne]; · exact e
  rintro ⟨rfl, rfl⟩; rcases hi with g | g
  · exact g h.2.1
  · exact g rfl⟩
theorem up_nq {α : Type} {f : Nat → α} {q b : Nat} {v : α} (h : b ≠ q) : va_up f q v b = f b := by unfold va_up; rw [if_neg h]
theorem up_qq {α : Type} {f : Nat → α} {q : Nat} {v : α} : va_up f q v q = v := by unfold va_up; rw [if_pos rfl]
theorem sr_up_ne {S : wPS} {a k i : Nat} {v : Option Nat} (h : i ≠ k) : (S.sr a (va_up (S.r a) k v)).r a i = S.r a i := by
  show va_up S.r a (va_up (S.r a) k v) a i = _
  rw [up_qq, up_nq h]
theorem ext.nw {S : wPS} {q k z : Nat} {f : Nat → Int32} {g : Nat → Option Nat} (hq : q ∉ S.L) : ext S (S.nw q k z f g) := fun b hb => by
  have h : b ≠ q := fun e => hq (e ▸ hb)
  exact ⟨List.mem_append_left _ hb, up_nq h, up_nq h, fun j x _ e => (congrFun (up_nq h) j).trans e⟩
theorem nw_A {S : wPS} {q k z : Nat} {f : Nat → Int32} {g : Nat → Option Nat} (hz : z < 2147483648) : isA (S.nw q k z f g) q k :=
  ⟨List.mem_append_right _ (List.mem_singleton.mpr rfl), up_qq, by show va_up S.n q z q < _; rw [up_qq]; exact hz⟩
theorem nw_n {S : wPS} {q k z : Nat} {f : Nat → Int32} {g : Nat → Option Nat} : (S.nw q k z f g).n q = z := up_qq
theorem nw_F {S : wPS} {q k z : Nat} {f : Nat → Int32} {g : Nat → Option Nat} (j : Nat) : (S.nw q k z f g).F q j = none := congrFun (up_qq (f := S.F)) j
theorem nw_I {S : wPS} {q k z : Nat} {f : Nat → Int32} {g : Nat → Option Nat} (j : Nat) : (S.nw q k z f g).I q j = 0 := congrFun (up_qq (f := S.I)) j
theorem nw_Fo {S : wPS} {q k z a j : Nat} {f : Nat → Int32} {g : Nat → Option Nat} (hq : q ∉ S.L) (ha : a ∈ S.L) : (S.nw q k z f g).F a j = S.F a j := congrFun (up_nq (f := S.F) (fun e : a = q => hq (e ▸ ha))) j
theorem nw_Io {S : wPS} {q k z a j : Nat} {f : Nat → Int32} {g : Nat → Option Nat} (hq : q ∉ S.L) (ha : a ∈ S.L) : (S.nw q k z f g).I a j = S.I a j := congrFun (up_nq (f := S.I) (fun e : a = q => hq (e ▸ ha))) j
theorem nw_q {A : Nat → Prop} {cy : Nat → ClassId} {X : va_W} {S : wPS} {q : Nat} {e : va_E} (hD : va_D A ((X ++ PL cy S) ++ [(q, e)])) : q ∉ S.L := by
  intro hq
  obtain ⟨i, hi⟩ := va_pl_get (X := X) (f := wPF cy S) hq
  have hl : i < (X ++ PL cy S).length := (List.getElem?_eq_some_iff.mp hi).1
  have h1 : ((X ++ PL cy S) ++ [(q, e)])[i]? = some (q, wPF cy S q) := by rw [List.getElem?_append_left hl]; exact hi
  have h2 : ((X ++ PL cy S) ++ [(q, e)])[(X ++ PL cy S).length]? = some (q, e) := by rw [List.getElem?_append_right (Nat.le_refl _)]; simp
  have := hD.1 _ _ _ _ h1 h2 rfl
  omega
def rr (S S' : wPS) : Prop := ∀ a, a ∈ S.L → ∀ i g, S.r a i = some g → ∃ g', S'.r a i = some g' ∧ ∀ k, isA S g k → isA S' g' k
theorem rr.rf (S : wPS) : rr S S := fun _ _ _ g e => ⟨g, e, fun _ h => h⟩
theorem rr.tr {S T U : wPS} (x : ext S T) (h : rr S T) (g : rr T U) : rr S U := fun a ha i y e => by
  obtain ⟨y1, e1, k1⟩ := h a ha i y e
  obtain ⟨y2, e2, k2⟩ := g a (x a ha).1 i y1 e1
  exact ⟨y2, e2, fun k hk => k2 k (k1 k hk)⟩
theorem rr.of {S T : wPS} (x : ext S T) (h : ∀ a, a ∈ S.L → T.r a = S.r a) : rr S T := fun a ha i g e => ⟨g, by rw [h a ha]; exact e, fun _ hk => x.A hk⟩
def fr (W : List (Nat × Nat)) (R : List Nat) (S S' : wPS) : Prop := ∀ a, a ∈ S.L → a ∉ R → (∀ j, (S.K a, j) ∉ W → S'.I a j = S.I a j ∧ S'.J a j = S.J a j) ∧ ((S.K a, 100) ∉ W → S'.i a = S.i a) ∧ ((S.K a, 101) ∉ W → S'.r a = S.r a) ∧ ((S.K a = 14 ∧ (14, 1) ∈ W) ∨ S'.F a = S.F a)
theorem fr.rf {W : List (Nat × Nat)} {R : List Nat} (S : wPS) : fr W R S S := fun _ _ _ => ⟨fun _ _ => ⟨rfl, rfl⟩, fun _ => rfl, fun _ => rfl, Or.inr rfl⟩
/-- what a thing of each kind holds -/
def ok_0 (S : wPS) (a : Nat) : Prop := (S.F a 0 = some (S.f a 0) ∧ isA S (S.f a 0) 27 ∧ S.n (S.f a 0) = 16) ∧ (S.F a 1 = some (S.f a 1) ∧ isA S (S.f a 1) 17 ∧ S.n (S.f a 1) = 4) ∧ (0 ≤ (S.I a 2).toInt ∧ (S.I a 2).toInt ≤ 16)
def ok_1 (S : wPS) (a : Nat) : Prop := (S.F a 0 = some (S.f a 0) ∧ isA S (S.f a 0) 25 ∧ S.n (S.f a 0) ≤ 200) ∧ (S.F a 1 = some (S.f a 1) ∧ isA S (S.f a 1) 26 ∧ S.n (S.f a 1) = S.n (S.f a 0))
def ok_2 (S : wPS) (a : Nat) : Prop := (S.F a 5 = some (S.f a 5) ∧ isA S (S.f a 5) 1) ∧ (S.F a 6 = some (S.f a 6) ∧ isA S (S.f a 6) 13) ∧ (6 ≤ (S.I a 1).toInt ∧ (S.I a 1).toInt ≤ 200) ∧ (500 ≤ (S.I a 2).toInt ∧ (S.I a 2).toInt ≤ 10000) ∧ (-500 ≤ (S.I a 3).toInt ∧ (S.I a 3).toInt ≤ 500) ∧ (1000 ≤ (S.I a 4).toInt ∧ (S.I a 4).toInt ≤ 99999) ∧ (0 ≤ (S.I a 9).toInt ∧ (S.I a 9).toInt ≤ 1) ∧ (0 ≤ (S.I a 13).toInt ∧ (S.I a 13).toInt ≤ 1) ∧ (0 ≤ (S.I a 14).toInt ∧ (S.I a 14).toInt ≤ 1) ∧ (0 ≤ (S.I a 16).toInt ∧ (S.I a 16).toInt ≤ 1) ∧ (0 ≤ (S.I a 17).toInt ∧ (S.I a 17).toInt ≤ 1)
def ok_3 (S : wPS) (a : Nat) : Prop := (S.F a 2 = some (S.f a 2) ∧ isA S (S.f a 2) 28 ∧ S.n (S.f a 2) ≤ 20) ∧ (0 ≤ (S.I a 5).toInt ∧ (S.I a 5).toInt ≤ 20)
def ok_4 (S : wPS) (a : Nat) : Prop := (S.F a 0 = some (S.f a 0) ∧ isA S (S.f a 0) 24 ∧ S.n (S.f a 0) = 5) ∧ (S.F a 1 = some (S.f a 1) ∧ isA S (S.f a 1) 24 ∧ S.n (S.f a 1) = 5) ∧ (S.F a 2 = some (S.f a 2) ∧ isA S (S.f a 2) 17 ∧ S.n (S.f a 2) = 25) ∧ (S.F a 3 = some (S.f a 3) ∧ isA S (S.f a 3) 18 ∧ S.n (S.f a 3) = 5) ∧ (S.F a 4 = some (S.f a 4) ∧ isA S (S.f a 4) 17 ∧ S.n (S.f a 4) = 5) ∧ (S.F a 5 = some (S.f a 5) ∧ isA S (S.f a 5) 17 ∧ S.n (S.f a 5) = 5) ∧ (0 ≤ (S.I a 6).toInt ∧ (S.I a 6).toInt ≤ 5) ∧ (0 ≤ (S.I a 7).toInt ∧ (S.I a 7).toInt ≤ 5) ∧ (∀ i : Nat, (i : Int) < (S.I a 6).toInt → ∃ g, S.r (S.f a 0) i = some g ∧ isA S g 2) ∧ (∀ i : Nat, (i : Int) < (S.I a 7).toInt → ∃ g, S.r (S.f a 1) i = some g ∧ isA S g 2)
def ok_6 (S : wPS) (a : Nat) : Prop := (S.F a 0 = some (S.f a 0) ∧ isA S (S.f a 0) 17 ∧ S.n (S.f a 0) = 200) ∧ (S.F a 1 = some (S.f a 1) ∧ isA S (S.f a 1) 17 ∧ S.n (S.f a 1) = 200) ∧ (S.F a 2 = some (S.f a 2) ∧ isA S (S.f a 2) 17 ∧ S.n (S.f a 2) = 200) ∧ (S.F a 3 = some (S.f a 3) ∧ isA S (S.f a 3) 17 ∧ S.n (S.f a 3) = 200) ∧ (1 ≤ (S.I a 4).toInt ∧ (S.I a 4).toInt ≤ 200)
def ok_9 (S : wPS) (a : Nat) : Prop := (S.F a 0 = some (S.f a 0) ∧ isA S (S.f a 0) 19 ∧ S.n (S.f a 0) = 20) ∧ (S.F a 2 = some (S.f a 2) ∧ isA S (S.f a 2) 20 ∧ S.n (S.f a 2) = 8) ∧ (S.F a 4 = some (S.f a 4) ∧ isA S (S.f a 4) 21 ∧ S.n (S.f a 4) = 6) ∧ (S.F a 6 = some (S.f a 6) ∧ isA S (S.f a 6) 0) ∧ (S.F a 7 = some (S.f a 7) ∧ isA S (S.f a 7) 6) ∧ (S.F a 8 = some (S.f a 8) ∧ isA S (S.f a 8) 4) ∧ (0 ≤ (S.I a 1).toInt ∧ (S.I a 1).toInt ≤ 20) ∧ (0 ≤ (S.I a 3).toInt ∧ (S.I a 3).toInt ≤ 8) ∧ (0 ≤ (S.I a 5).toInt ∧ (S.I a 5).toInt ≤ 6) ∧ (∀ i : Nat, (i : Int) < (S.I a 1).toInt → ∃ g, S.r (S.f a 0) i = some g ∧ isA S g 2) ∧ (∀ i : Nat, (i : Int) < (S.I a 3).toInt → ∃ g, S.r (S.f a 2) i = some g ∧ isA S g 3) ∧ (∀ i : Nat, (i : Int) < (S.I a 5).toInt → ∃ g, S.r (S.f a 4) i = some g ∧ isA S g 7)
def ok_10 (S : wPS) (a : Nat) : Prop := (S.F a 5 = some (S.f a 5) ∧ isA S (S.f a 5) 29 ∧ S.n (S.f a 5) = 200) ∧ (S.F a 6 = some (S.f a 6) ∧ isA S (S.f a 6) 37 ∧ S.n (S.f a 6) = 8) ∧ (6 ≤ (S.I a 1).toInt ∧ (S.I a 1).toInt ≤ 200) ∧ (500 ≤ (S.I a 2).toInt ∧ (S.I a 2).toInt ≤ 10000) ∧ (-500 ≤ (S.I a 3).toInt ∧ (S.I a 3).toInt ≤ 500) ∧ (1000 ≤ (S.I a 4).toInt ∧ (S.I a 4).toInt ≤ 99999) ∧ (0 ≤ (S.I a 17).toInt ∧ (S.I a 17).toInt ≤ 8) ∧ (0 ≤ (S.I a 18).toInt ∧ (S.I a 18).toInt ≤ 1) ∧ (0 ≤ (S.I a 19).toInt ∧ (S.I a 19).toInt ≤ 1) ∧ (0 ≤ (S.I a 20).toInt ∧ (S.I a 20).toInt ≤ 1) ∧ (0 ≤ (S.I a 21).toInt ∧ (S.I a 21).toInt ≤ 1)
def ok_11 (S : wPS) (a : Nat) : Prop := (S.F a 2 = some (S.f a 2) ∧ isA S (S.f a 2) 30 ∧ S.n (S.f a 2) = 20) ∧ (1 ≤ (S.I a 1).toInt ∧ (S.I a 1).toInt ≤ 4) ∧ (1 ≤ (S.I a 3).toInt ∧ (S.I a 3).toInt ≤ 20) ∧ (0 ≤ (S.I a 5).toInt ∧ (S.I a 5).toInt ≤ 19)
def ok_12 (S : wPS) (a : Nat) : Prop := (S.F a 0 = some (S.f a 0) ∧ isA S (S.f a 0) 14 ∧ S.n (S.f a 0) = 10) ∧ (S.F a 1 = some (S.f a 1) ∧ isA S (S.f a 1) 14 ∧ S.n (S.f a 1) = 11) ∧ (S.F a 2 = some (S.f a 2) ∧ isA S (S.f a 2) 31 ∧ S.n (S.f a 2) = 16) ∧ (S.F a 3 = some (S.f a 3) ∧ isA S (S.f a 3) 17 ∧ S.n (S.f a 3) = 4) ∧ (S.F a 4 = some (S.f a 4) ∧ isA S (S.f a 4) 17 ∧ S.n (S.f a 4) = 4) ∧ (S.F a 5 = some (S.f a 5) ∧ isA S (S.f a 5) 38 ∧ S.n (S.f a 5) = 6) ∧ (S.F a 6 = some (S.f a 6) ∧ isA S (S.f a 6) 34 ∧ S.n (S.f a 6) = 6) ∧ (S.F a 7 = some (S.f a 7) ∧ isA S (S.f a 7) 35 ∧ S.n (S.f a 7) = 6) ∧ (S.F a 8 = some (S.f a 8) ∧ isA S (S.f a 8) 36 ∧ S.n (S.f a 8) = 6) ∧ (S.F a 29 = some (S.f a 29) ∧ isA S (S.f a 29) 17 ∧ S.n (S.f a 29) = 200) ∧ (S.F a 30 = some (S.f a 30) ∧ isA S (S.f a 30) 17 ∧ S.n (S.f a 30) = 200) ∧ (S.F a 31 = some (S.f a 31) ∧ isA S (S.f a 31) 17 ∧ S.n (S.f a 31) = 200) ∧ (S.F a 32 = some (S.f a 32) ∧ isA S (S.f a 32) 17 ∧ S.n (S.f a 32) = 200) ∧ (S.F a 33 = some (S.f a 33) ∧ isA S (S.f a 33) 17 ∧ S.n (S.f a 33) = 25) ∧ (S.F a 9 = some (S.f a 9) ∧ isA S (S.f a 9) 23 ∧ S.n (S.f a 9) = 4) ∧ (S.F a 10 = some (S.f a 10) ∧ isA S (S.f a 10) 23 ∧ S.n (S.f a 10) = 4) ∧ (S.F a 11 = some (S.f a 11) ∧ isA S (S.f a 11) 23 ∧ S.n (S.f a 11) = 4) ∧ (S.F a 12 = some (S.f a 12) ∧ isA S (S.f a 12) 23 ∧ S.n (S.f a 12) = 4) ∧ (S.F a 13 = some (S.f a 13) ∧ isA S (S.f a 13) 23 ∧ S.n (S.f a 13) = 5) ∧ (S.F a 14 = some (S.f a 14) ∧ isA S (S.f a 14) 23 ∧ S.n (S.f a 14) = 5) ∧ (0 ≤ (S.I a 16).toInt ∧ (S.I a 16).toInt ≤ 16) ∧ (2 ≤ (S.I a 18).toInt ∧ (S.I a 18).toInt ≤ 200) ∧ (0 ≤ (S.I a 19).toInt ∧ (S.I a 19).toInt ≤ 6) ∧ (0 ≤ (S.I a 20).toInt ∧ (S.I a 20).toInt ≤ 200) ∧ (0 ≤ (S.I a 21).toInt ∧ (S.I a 21).toInt ≤ 200) ∧ (0 ≤ (S.I a 24).toInt ∧ (S.I a 24).toInt ≤ 5) ∧ (0 ≤ (S.I a 25).toInt ∧ (S.I a 25).toInt ≤ 5) ∧ (0 ≤ (S.I a 26).toInt ∧ (S.I a 26).toInt ≤ 4) ∧ S.F a 77 = some (S.f a 77) ∧ S.F (S.f a 0) 7 = some (S.f a 77) ∧ S.F (S.f a 1) 7 = some (S.f a 77)
def ok_13 (S : wPS) (a : Nat) : Prop := (S.F a 0 = some (S.f a 0) ∧ isA S (S.f a 0) 15 ∧ S.n (S.f a 0) = 16) ∧ (0 ≤ (S.I a 1).toInt ∧ (S.I a 1).toInt ≤ 0) ∧ (0 ≤ (S.I a 3).toInt ∧ (S.I a 3).toInt ≤ 8)
def ok_14 (S : wPS) (a : Nat) : Prop := ((S.F a 1 = S.F a 7 ∧ (S.I a 2).toInt = 0) ∨ (S.F a 1 = some (S.f a 1) ∧ isA S (S.f a 1) 22 ∧ (1 ≤ S.n (S.f a 1) ∧ S.n (S.f a 1) ≤ 40) ∧ S.F (S.f a 1) 0 = some (S.n a) ∧ 0 ≤ (S.I a 2).toInt ∧ ((S.I a 2).toInt ≤ S.n (S.f a 1) ∧ (S.I a 2).toInt ≤ 20 ∧ (S.n a = 11 → (S.I a 2).toInt ≤ 8)) ∧ ∀ i : Nat, (i : Int) < (S.I a 2).toInt → ∃ g, S.r (S.f a 1) i = some g ∧ isA S g (S.n a)))
def ok_19 (S : wPS) (a : Nat) : Prop := ∀ i g, S.r a i = some g → isA S g 2
def ok_20 (S : wPS) (a : Nat) : Prop := ∀ i g, S.r a i = some g → isA S g 3
def ok_21 (S : wPS) (a : Nat) : Prop := ∀ i g, S.r a i = some g → isA S g 7
def ok_22 (S : wPS) (a : Nat) : Prop := ∀ k i g, S.F a 0 = some k → S.r a i = some g → isA S g k
def ok_24 (S : wPS) (a : Nat) : Prop := ∀ i g, S.r a i = some g → isA S g 2
def okAt (S : wPS) (a : Nat) : Prop := match S.K a with
  | 0 => ok_0 S a
  | 1 => ok_1 S a
  | 2 => ok_2 S a
  | 3 => ok_3 S a
  | 4 => ok_4 S a
  | 6 => ok_6 S a
  | 9 => ok_9 S a
  | 10 => ok_10 S a
  | 11 => ok_11 S a
  | 12 => ok_12 S a
  | 13 => ok_13 S a
  | 14 => ok_14 S a
  | 19 => ok_19 S a
  | 20 => ok_20 S a
  | 21 => ok_21 S a
  | 22 => ok_22 S a
  | 24 => ok_24 S a
  | _ => True
theorem okAt.to_0 {S : wPS} {a : Nat} (h : okAt S a) (e : S.K a = 0) : ok_0 S a := by unfold okAt at h; rw [e] at h; exact h
theorem okAt.of_0 {S : wPS} {a : Nat} (e : S.K a = 0) (h : ok_0 S a) : okAt S a := by unfold okAt; rw [e]; exact h
theorem okAt.to_1 {S : wPS} {a : Nat} (h : okAt S a) (e : S.K a = 1) : ok_1 S a := by unfold okAt at h; rw [e] at h; exact h
theorem okAt.of_1 {S : wPS} {a : Nat} (e : S.K a = 1) (h : ok_1 S a) : okAt S a := by unfold okAt; rw [e]; exact h
theorem okAt.to_2 {S : wPS} {a : Nat} (h : okAt S a) (e : S.K a = 2) : ok_2 S a := by unfold okAt at h; rw [e] at h; exact h
theorem okAt.of_2 {S : wPS} {a : Nat} (e : S.K a = 2) (h : ok_2 S a) : okAt S a := by unfold okAt; rw [e]; exact h
theorem okAt.to_3 {S : wPS} {a : Nat} (h : okAt S a) (e : S.K a = 3) : ok_3 S a := by unfold okAt at h; rw [e] at h; exact h
theorem okAt.of_3 {S : wPS} {a : Nat} (e : S.K a = 3) (h : ok_3 S a) : okAt S a := by unfold okAt; rw [e]; exact h
theorem okAt.to_4 {S : wPS} {a : Nat} (h : okAt S a) (e : S.K a = 4) : ok_4 S a := by unfold okAt at h; rw [e] at h; exact h
theorem okAt.of_4 {S : wPS} {a : Nat} (e : S.K a = 4) (h : ok_4 S a) : okAt S a := by unfold okAt; rw [e]; exact h
theorem okAt.to_6 {S : wPS} {a : Nat} (h : okAt S a) (e : S.K a = 6) : ok_6 S a := by unfold okAt at h; rw [e] at h; exact h
theorem okAt.of_6 {S : wPS} {a : Nat} (e : S.K a = 6) (h : ok_6 S a) : okAt S a := by unfold okAt; rw [e]; exact h
theorem okAt.to_9 {S : wPS} {a : Nat} (h : okAt S a) (e : S.K a = 9) : ok_9 S a := by unfold okAt at h; rw [e] at h; exact h
theorem okAt.of_9 {S : wPS} {a : Nat} (e : S.K a = 9) (h : ok_9 S a) : okAt S a := by unfold okAt; rw [e]; exact h
theorem okAt.to_10 {S : wPS} {a : Nat} (h : okAt S a) (e : S.K a = 10) : ok_10 S a := by unfold okAt at h; rw [e] at h; exact h
theorem okAt.of_10 {S : wPS} {a : Nat} (e : S.K a = 10) (h : ok_10 S a) : okAt S a := by unfold okAt; rw [e]; exact h
theorem okAt.to_11 {S : wPS} {a : Nat} (h : okAt S a) (e : S.K a = 11) : ok_11 S a := by unfold okAt at h; rw [e] at h; exact h
theorem okAt.of_11 {S : wPS} {a : Nat} (e : S.K a = 11) (h : ok_11 S a) : okAt S a := by unfold okAt; rw [e]; exact h
theorem okAt.to_12 {S : wPS} {a : Nat} (h : okAt S a) (e : S.K a = 12) : ok_12 S a := by unfold okAt at h; rw [e] at h; exact h
theorem okAt.of_12 {S : wPS} {a : Nat} (e : S.K a = 12) (h : ok_12 S a) : okAt S a := by unfold okAt; rw [e]; exact h
theorem okAt.to_13 {S : wPS} {a : Nat} (h : okAt S a) (e : S.K a = 13) : ok_13 S a := by unfold okAt at h; rw [e] at h; exact h
theorem okAt.of_13 {S : wPS} {a : Nat} (e : S.K a = 13) (h : ok_13 S a) : okAt S a := by unfold okAt; rw [e]; exact h
theorem okAt.to_14 {S : wPS} {a : Nat} (h : okAt S a) (e : S.K a = 14) : ok_14 S a := by unfold okAt at h; rw [e] at h; exact h
theorem okAt.of_14 {S : wPS} {a : Nat} (e : S.K a = 14) (h : ok_14 S a) : okAt S a := by unfold okAt; rw [e]; exact h
theorem okAt.to_19 {S : wPS} {a : Nat} (h : okAt S a) (e : S.K a = 19) : ok_19 S a := by unfold okAt at h; rw [e] at h; exact h
theorem okAt.of_19 {S : wPS} {a : Nat} (e : S.K a = 19) (h : ok_19 S a) : okAt S a := by unfold okAt; rw [e]; exact h
theorem okAt.to_20 {S : wPS} {a : Nat} (h : okAt S a) (e : S.K a = 20) : ok_20 S a := by unfold okAt at h; rw [e] at h; exact h
theorem okAt.of_20 {S : wPS} {a : Nat} (e : S.K a = 20) (h : ok_20 S a) : okAt S a := by unfold okAt; rw [e]; exact h
theorem okAt.to_21 {S : wPS} {a : Nat} (h : okAt S a) (e : S.K a = 21) : ok_21 S a := by unfold okAt at h; rw [e] at h; exact h
theorem okAt.of_21 {S : wPS} {a : Nat} (e : S.K a = 21) (h : ok_21 S a) : okAt S a := by unfold okAt; rw [e]; exact h
theorem okAt.to_22 {S : wPS} {a : Nat} (h : okAt S a) (e : S.K a = 22) : ok_22 S a := by unfold okAt at h; rw [e] at h; exact h
theorem okAt.of_22 {S : wPS} {a : Nat} (e : S.K a = 22) (h : ok_22 S a) : okAt S a := by unfold okAt; rw [e]; exact h
theorem okAt.to_24 {S : wPS} {a : Nat} (h : okAt S a) (e : S.K a = 24) : ok_24 S a := by unfold okAt at h; rw [e] at h; exact h
theorem okAt.of_24 {S : wPS} {a : Nat} (e : S.K a = 24) (h : ok_24 S a) : okAt S a := by unfold okAt; rw [e]; exact h
theorem okAt.no {S : wPS} {a : Nat} (k : Nat) (e : S.K a = k) : k ≠ 0 → k ≠ 1 → k ≠ 2 → k ≠ 3 → k ≠ 4 → k ≠ 6 → k ≠ 9 → k ≠ 10 → k ≠ 11 → k ≠ 12 → k ≠ 13 → k ≠ 14 → k ≠ 19 → k ≠ 20 → k ≠ 21 → k ≠ 22 → k ≠ 24 → okAt S a := by
  intro h0 h1 h2 h3 h4 h6 h9 h10 h11 h12 h13 h14 h19 h20 h21 h22 h24
  unfold okAt; rw [e]
  split <;> first | contradiction | trivial
theorem ok_0.F0 {S : wPS} {a : Nat} (h : ok_0 S a) : (S.F a 0 = some (S.f a 0) ∧ isA S (S.f a 0) 27 ∧ S.n (S.f a 0) = 16) := h.1
theorem ok_0.F1 {S : wPS} {a : Nat} (h : ok_0 S a) : (S.F a 1 = some (S.f a 1) ∧ isA S (S.f a 1) 17 ∧ S.n (S.f a 1) = 4) := h.2.1
theorem ok_0.R2 {S : wPS} {a : Nat} (h : ok_0 S a) : (0 ≤ (S.I a 2).toInt ∧ (S.I a 2).toInt ≤ 16) := h.2.2
theorem ok_1.F0 {S : wPS} {a : Nat} (h : ok_1 S a) : (S.F a 0 = some (S.f a 0) ∧ isA S (S.f a 0) 25 ∧ S.n (S.f a 0) ≤ 200) := h.1
theorem ok_1.F1 {S : wPS} {a : Nat} (h : ok_1 S a) : (S.F a 1 = some (S.f a 1) ∧ isA S (S.f a 1) 26 ∧ S.n (S.f a 1) = S.n (S.f a 0)) := h.2
theorem ok_2.F5 {S : wPS} {a : Nat} (h : ok_2 S a) : (S.F a 5 = some (S.f a 5) ∧ isA S (S.f a 5) 1) := h.1
theorem ok_2.F6 {S : wPS} {a : Nat} (h : ok_2 S a) : (S.F a 6 = some (S.f a 6) ∧ isA S (S.f a 6) 13) := h.2.1
theorem ok_2.R1 {S : wPS} {a : Nat} (h : ok_2 S a) : (6 ≤ (S.I a 1).toInt ∧ (S.I a 1).toInt ≤ 200) := h.2.2.1
theorem ok_2.R2 {S : wPS} {a : Nat} (h : ok_2 S a) : (500 ≤ (S.I a 2).toInt ∧ (S.I a 2).toInt ≤ 10000) := h.2.2.2.1
theorem ok_2.R3 {S : wPS} {a : Nat} (h : ok_2 S a) : (-500 ≤ (S.I a 3).toInt ∧ (S.I a 3).toInt ≤ 500) := h.2.2.2.2.1
theorem ok_2.R4 {S : wPS} {a : Nat} (h : ok_2 S a) : (1000 ≤ (S.I a 4).toInt ∧ (S.I a 4).toInt ≤ 99999) := h.2.2.2.2.2.1
theorem ok_2.R9 {S : wPS} {a : Nat} (h : ok_2 S a) : (0 ≤ (S.I a 9).toInt ∧ (S.I a 9).toInt ≤ 1) := h.2.2.2.2.2.2.1
theorem ok_2.R13 {S : wPS} {a : Nat} (h : ok_2 S a) : (0 ≤ (S.I a 13).toInt ∧ (S.I a 13).toInt ≤ 1) := h.2.2.2.2.2.2.2.1
theorem ok_2.R14 {S : wPS} {a : Nat} (h : ok_2 S a) : (0 ≤ (S.I a 14).toInt ∧ (S.I a 14).toInt ≤ 1) := h.2.2.2.2.2.2.2.2.1
theorem ok_2.R16 {S : wPS} {a : Nat} (h : ok_2 S a) : (0 ≤ (S.I a 16).toInt ∧ (S.I a 16).toInt ≤ 1) := h.2.2.2.2.2.2.2.2.2.1
theorem ok_2.R17 {S : wPS} {a : Nat} (h : ok_2 S a) : (0 ≤ (S.I a 17).toInt ∧ (S.I a 17).toInt ≤ 1) := h.2.2.2.2.2.2.2.2.2.2
theorem ok_3.F2 {S : wPS} {a : Nat} (h : ok_3 S a) : (S.F a 2 = some (S.f a 2) ∧ isA S (S.f a 2) 28 ∧ S.n (S.f a 2) ≤ 20) := h.1
theorem ok_3.R5 {S : wPS} {a : Nat} (h : ok_3 S a) : (0 ≤ (S.I a 5).toInt ∧ (S.I a 5).toInt ≤ 20) := h.2
theorem ok_4.F0 {S : wPS} {a : Nat} (h : ok_4 S a) : (S.F a 0 = some (S.f a 0) ∧ isA S (S.f a 0) 24 ∧ S.n (S.f a 0) = 5) := h.1
theorem ok_4.F1 {S : wPS} {a : Nat} (h : ok_4 S a) : (S.F a 1 = some (S.f a 1) ∧ isA S (S.f a 1) 24 ∧ S.n (S.f a 1) = 5) := h.2.1
theorem ok_4.F2 {S : wPS} {a : Nat} (h : ok_4 S a) : (S.F a 2 = some (S.f a 2) ∧ isA S (S.f a 2) 17 ∧ S.n (S.f a 2) = 25) := h.2.2.1
theorem ok_4.F3 {S : wPS} {a : Nat} (h : ok_4 S a) : (S.F a 3 = some (S.f a 3) ∧ isA S (S.f a 3) 18 ∧ S.n (S.f a 3) = 5) := h.2.2.2.1
theorem ok_4.F4 {S : wPS} {a : Nat} (h : ok_4 S a) : (S.F a 4 = some (S.f a 4) ∧ isA S (S.f a 4) 17 ∧ S.n (S.f a 4) = 5) := h.2.2.2.2.1
theorem ok_4.F5 {S : wPS} {a : Nat} (h : ok_4 S a) : (S.F a 5 = some (S.f a 5) ∧ isA S (S.f a 5) 17 ∧ S.n (S.f a 5) = 5) := h.2.2.2.2.2.1
theorem ok_4.R6 {S : wPS} {a : Nat} (h : ok_4 S a) : (0 ≤ (S.I a 6).toInt ∧ (S.I a 6).toInt ≤ 5) := h.2.2.2.2.2.2.1
theorem ok_4.R7 {S : wPS} {a : Nat} (h : ok_4 S a) : (0 ≤ (S.I a 7).toInt ∧ (S.I a 7).toInt ≤ 5) := h.2.2.2.2.2.2.2.1
theorem ok_4.E0 {S : wPS} {a : Nat} (h : ok_4 S a) : (∀ i : Nat, (i : Int) < (S.I a 6).toInt → ∃ g, S.r (S.f a 0) i = some g ∧ isA S g 2) := h.2.2.2.2.2.2.2.2.1
theorem ok_4.E1 {S : wPS} {a : Nat} (h : ok_4 S a) : (∀ i : Nat, (i : Int) < (S.I a 7).toInt → ∃ g, S.r (S.f a 1) i = some g ∧ isA S g 2) := h.2.2.2.2.2.2.2.2.2
theorem ok_6.F0 {S : wPS} {a : Nat} (h : ok_6 S a) : (S.F a 0 = some (S.f a 0) ∧ isA S (S.f a 0) 17 ∧ S.n (S.f a 0) = 200) := h.1
theorem ok_6.F1 {S : wPS} {a : Nat} (h : ok_6 S a) : (S.F a 1 = some (S.f a 1) ∧ isA S (S.f a 1) 17 ∧ S.n (S.f a 1) = 200) := h.2.1
theorem ok_6.F2 {S : wPS} {a : Nat} (h : ok_6 S a) : (S.F a 2 = some (S.f a 2) ∧ isA S (S.f a 2) 17 ∧ S.n (S.f a 2) = 200) := h.2.2.1
theorem ok_6.F3 {S : wPS} {a : Nat} (h : ok_6 S a) : (S.F a 3 = some (S.f a 3) ∧ isA S (S.f a 3) 17 ∧ S.n (S.f a 3) = 200) := h.2.2.2.1
theorem ok_6.R4 {S : wPS} {a : Nat} (h : ok_6 S a) : (1 ≤ (S.I a 4).toInt ∧ (S.I a 4).toInt ≤ 200) := h.2.2.2.2
theorem ok_9.F0 {S : wPS} {a : Nat} (h : ok_9 S a) : (S.F a 0 = some (S.f a 0) ∧ isA S (S.f a 0) 19 ∧ S.n (S.f a 0) = 20) := h.1
theorem ok_9.F2 {S : wPS} {a : Nat} (h : ok_9 S a) : (S.F a 2 = some (S.f a 2) ∧ isA S (S.f a 2) 20 ∧ S.n (S.f a 2) = 8) := h.2.1
theorem ok_9.F4 {S : wPS} {a : Nat} (h : ok_9 S a) : (S.F a 4 = some (S.f a 4) ∧ isA S (S.f a 4) 21 ∧ S.n (S.f a 4) = 6) := h.2.2.1
theorem ok_9.F6 {S : wPS} {a : Nat} (h : ok_9 S a) : (S.F a 6 = some (S.f a 6) ∧ isA S (S.f a 6) 0) := h.2.2.2.1
theorem ok_9.F7 {S : wPS} {a : Nat} (h : ok_9 S a) : (S.F a 7 = some (S.f a 7) ∧ isA S (S.f a 7) 6) := h.2.2.2.2.1
theorem ok_9.F8 {S : wPS} {a : Nat} (h : ok_9 S a) : (S.F a 8 = some (S.f a 8) ∧ isA S (S.f a 8) 4) := h.2.2.2.2.2.1
theorem ok_9.R1 {S : wPS} {a : Nat} (h : ok_9 S a) : (0 ≤ (S.I a 1).toInt ∧ (S.I a 1).toInt ≤ 20) := h.2.2.2.2.2.2.1
theorem ok_9.R3 {S : wPS} {a : Nat} (h : ok_9 S a) : (0 ≤ (S.I a 3).toInt ∧ (S.I a 3).toInt ≤ 8) := h.2.2.2.2.2.2.2.1
theorem ok_9.R5 {S : wPS} {a : Nat} (h : ok_9 S a) : (0 ≤ (S.I a 5).toInt ∧ (S.I a 5).toInt ≤ 6) := h.2.2.2.2.2.2.2.2.1
theorem ok_9.E0 {S : wPS} {a : Nat} (h : ok_9 S a) : (∀ i : Nat, (i : Int) < (S.I a 1).toInt → ∃ g, S.r (S.f a 0) i = some g ∧ isA S g 2) := h.2.2.2.2.2.2.2.2.2.1
theorem ok_9.E2 {S : wPS} {a : Nat} (h : ok_9 S a) : (∀ i : Nat, (i : Int) < (S.I a 3).toInt → ∃ g, S.r (S.f a 2) i = some g ∧ isA S g 3) := h.2.2.2.2.2.2.2.2.2.2.1
theorem ok_9.E4 {S : wPS} {a : Nat} (h : ok_9 S a) : (∀ i : Nat, (i : Int) < (S.I a 5).toInt → ∃ g, S.r (S.f a 4) i = some g ∧ isA S g 7) := h.2.2.2.2.2.2.2.2.2.2.2
theorem ok_10.F5 {S : wPS} {a : Nat} (h : ok_10 S a) : (S.F a 5 = some (S.f a 5) ∧ isA S (S.f a 5) 29 ∧ S.n (S.f a 5) = 200) := h.1
theorem ok_10.F6 {S : wPS} {a : Nat} (h : ok_10 S a) : (S.F a 6 = some (S.f a 6) ∧ isA S (S.f a 6) 37 ∧ S.n (S.f a 6) = 8) := h.2.1
theorem ok_10.R1 {S : wPS} {a : Nat} (h : ok_10 S a) : (6 ≤ (S.I a 1).toInt ∧ (S.I a 1).toInt ≤ 200) := h.2.2.1
theorem ok_10.R2 {S : wPS} {a : Nat} (h : ok_10 S a) : (500 ≤ (S.I a 2).toInt ∧ (S.I a 2).toInt ≤ 10000) := h.2.2.2.1
theorem ok_10.R3 {S : wPS} {a : Nat} (h : ok_10 S a) : (-500 ≤ (S.I a 3).toInt ∧ (S.I a 3).toInt ≤ 500) := h.2.2.2.2.1
theorem ok_10.R4 {S : wPS} {a : Nat} (h : ok_10 S a) : (1000 ≤ (S.I a 4).toInt ∧ (S.I a 4).toInt ≤ 99999) := h.2.2.2.2.2.1
theorem ok_10.R17 {S : wPS} {a : Nat} (h : ok_10 S a) : (0 ≤ (S.I a 17).toInt ∧ (S.I a 17).toInt ≤ 8) := h.2.2.2.2.2.2.1
theorem ok_10.R18 {S : wPS} {a : Nat} (h : ok_10 S a) : (0 ≤ (S.I a 18).toInt ∧ (S.I a 18).toInt ≤ 1) := h.2.2.2.2.2.2.2.1
theorem ok_10.R19 {S : wPS} {a : Nat} (h : ok_10 S a) : (0 ≤ (S.I a 19).toInt ∧ (S.I a 19).toInt ≤ 1) := h.2.2.2.2.2.2.2.2.1
theorem ok_10.R20 {S : wPS} {a : Nat} (h : ok_10 S a) : (0 ≤ (S.I a 20).toInt ∧ (S.I a 20).toInt ≤ 1) := h.2.2.2.2.2.2.2.2.2.1
theorem ok_10.R21 {S : wPS} {a : Nat} (h : ok_10 S a) : (0 ≤ (S.I a 21).toInt ∧ (S.I a 21).toInt ≤ 1) := h.2.2.2.2.2.2.2.2.2.2
theorem ok_11.F2 {S : wPS} {a : Nat} (h : ok_11 S a) : (S.F a 2 = some (S.f a 2) ∧ isA S (S.f a 2) 30 ∧ S.n (S.f a 2) = 20) := h.1
theorem ok_11.R1 {S : wPS} {a : Nat} (h : ok_11 S a) : (1 ≤ (S.I a 1).toInt ∧ (S.I a 1).toInt ≤ 4) := h.2.1
theorem ok_11.R3 {S : wPS} {a : Nat} (h : ok_11 S a) : (1 ≤ (S.I a 3).toInt ∧ (S.I a 3).toInt ≤ 20) := h.2.2.1
theorem ok_11.R5 {S : wPS} {a : Nat} (h : ok_11 S a) : (0 ≤ (S.I a 5).toInt ∧ (S.I a 5).toInt ≤ 19) := h.2.2.2
theorem ok_12.F0 {S : wPS} {a : Nat} (h : ok_12 S a) : (S.F a 0 = some (S.f a 0) ∧ isA S (S.f a 0) 14 ∧ S.n (S.f a 0) = 10) := h.1
theorem ok_12.F1 {S : wPS} {a : Nat} (h : ok_12 S a) : (S.F a 1 = some (S.f a 1) ∧ isA S (S.f a 1) 14 ∧ S.n (S.f a 1) = 11) := h.2.1
theorem ok_12.F2 {S : wPS} {a : Nat} (h : ok_12 S a) : (S.F a 2 = some (S.f a 2) ∧ isA S (S.f a 2) 31 ∧ S.n (S.f a 2) = 16) := h.2.2.1
theorem ok_12.F3 {S : wPS} {a : Nat} (h : ok_12 S a) : (S.F a 3 = some (S.f a 3) ∧ isA S (S.f a 3) 17 ∧ S.n (S.f a 3) = 4) := h.2.2.2.1
theorem ok_12.F4 {S : wPS} {a : Nat} (h : ok_12 S a) : (S.F a 4 = some (S.f a 4) ∧ isA S (S.f a 4) 17 ∧ S.n (S.f a 4) = 4) := h.2.2.2.2.1
theorem ok_12.F5 {S : wPS} {a : Nat} (h : ok_12 S a) : (S.F a 5 = some (S.f a 5) ∧ isA S (S.f a 5) 38 ∧ S.n (S.f a 5) = 6) := h.2.2.2.2.2.1
theorem ok_12.F6 {S : wPS} {a : Nat} (h : ok_12 S a) : (S.F a 6 = some (S.f a 6) ∧ isA S (S.f a 6) 34 ∧ S.n (S.f a 6) = 6) := h.2.2.2.2.2.2.1
theorem ok_12.F7 {S : wPS} {a : Nat} (h : ok_12 S a) : (S.F a 7 = some (S.f a 7) ∧ isA S (S.f a 7) 35 ∧ S.n (S.f a 7) = 6) := h.2.2.2.2.2.2.2.1
theorem ok_12.F8 {S : wPS} {a : Nat} (h : ok_12 S a) : (S.F a 8 = some (S.f a 8) ∧ isA S (S.f a 8) 36 ∧ S.n (S.f a 8) = 6) := h.2.2.2.2.2.2.2.2.1
theorem ok_12.F29 {S : wPS} {a : Nat} (h : ok_12 S a) : (S.F a 29 = some (S.f a 29) ∧ isA S (S.f a 29) 17 ∧ S.n (S.f a 29) = 200) := h.2.2.2.2.2.2.2.2.2.1
theorem ok_12.F30 {S : wPS} {a : Nat} (h : ok_12 S a) : (S.F a 30 = some (S.f a 30) ∧ isA S (S.f a 30) 17 ∧ S.n (S.f a 30) = 200) := h.2.2.2.2.2.2.2.2.2.2.1
theorem ok_12.F31 {S : wPS} {a : Nat} (h : ok_12 S a) : (S.F a 31 = some (S.f a 31) ∧ isA S (S.f a 31) 17 ∧ S.n (S.f a 31) = 200) := h.2.2.2.2.2.2.2.2.2.2.2.1
theorem ok_12.F32 {S : wPS} {a : Nat} (h : ok_12 S a) : (S.F a 32 = some (S.f a 32) ∧ isA S (S.f a 32) 17 ∧ S.n (S.f a 32) = 200) := h.2.2.2.2.2.2.2.2.2.2.2.2.1
theorem ok_12.F33 {S : wPS} {a : Nat} (h : ok_12 S a) : (S.F a 33 = some (S.f a 33) ∧ isA S (S.f a 33) 17 ∧ S.n (S.f a 33) = 25) := h.2.2.2.2.2.2.2.2.2.2.2.2.2.1
theorem ok_12.F9 {S : wPS} {a : Nat} (h : ok_12 S a) : (S.F a 9 = some (S.f a 9) ∧ isA S (S.f a 9) 23 ∧ S.n (S.f a 9) = 4) := h.2.2.2.2.2.2.2.2.2.2.2.2.2.2.1
theorem ok_12.F10 {S : wPS} {a : Nat} (h : ok_12 S a) : (S.F a 10 = some (S.f a 10) ∧ isA S (S.f a 10) 23 ∧ S.n (S.f a 10) = 4) := h.2.2.2.2.2.2.2.2.2.2.2.2.2.2.2.1
theorem ok_12.F11 {S : wPS} {a : Nat} (h : ok_12 S a) : (S.F a 11 = some (S.f a 11) ∧ isA S (S.f a 11) 23 ∧ S.n (S.f a 11) = 4) := h.2.2.2.2.2.2.2.2.2.2.2.2.2.2.2.2.1
theorem ok_12.F12 {S : wPS} {a : Nat} (h : ok_12 S a) : (S.F a 12 = some (S.f a 12) ∧ isA S (S.f a 12) 23 ∧ S.n (S.f a 12) = 4) := h.2.2.2.2.2.2.2.2.2.2.2.2.2.2.2.2.2.1
theorem ok_12.F13 {S : wPS} {a : Nat} (h : ok_12 S a) : (S.F a 13 = some (S.f a 13) ∧ isA S (S.f a 13) 23 ∧ S.n (S.f a 13) = 5) := h.2.2.2.2.2.2.2.2.2.2.2.2.2.2.2.2.2.2.1
theorem ok_12.F14 {S : wPS} {a : Nat} (h : ok_12 S a) : (S.F a 14 = some (S.f a 14) ∧ isA S (S.f a 14) 23 ∧ S.n (S.f a 14) = 5) := h.2.2.2.2.2.2.2.2.2.2.2.2.2.2.2.2.2.2.2.1
theorem ok_12.R16 {S : wPS} {a : Nat} (h : ok_12 S a) : (0 ≤ (S.I a 16).toInt ∧ (S.I a 16).toInt ≤ 16) := h.2.2.2.2.2.2.2.2.2.2.2.2.2.2.2.2.2.2.2.2.1
theorem ok_12.R18 {S : wPS} {a : Nat} (h : ok_12 S a) : (2 ≤ (S.I a 18).toInt ∧ (S.I a 18).toInt ≤ 200) := h.2.2.2.2.2.2.2.2.2.2.2.2.2.2.2.2.2.2.2.2.2.1
theorem ok_12.R19 {S : wPS} {a : Nat} (h : ok_12 S a) : (0 ≤ (S.I a 19).toInt ∧ (S.I a 19).toInt ≤ 6) := h.2.2.2.2.2.2.2.2.2.2.2.2.2.2.2.2.2.2.2.2.2.2.1
theorem ok_12.R20 {S : wPS} {a : Nat} (h : ok_12 S a) : (0 ≤ (S.I a 20).toInt ∧ (S.I a 20).toInt ≤ 200) := h.2.2.2.2.2.2.2.2.2.2.2.2.2.2.2.2.2.2.2.2.2.2.2.1
theorem ok_12.R21 {S : wPS} {a : Nat} (h : ok_12 S a) : (0 ≤ (S.I a 21).toInt ∧ (S.I a 21).toInt ≤ 200) := h.2.2.2.2.2.2.2.2.2.2.2.2.2.2.2.2.2.2.2.2.2.2.2.2.1
theorem ok_12.R24 {S : wPS} {a : Nat} (h : ok_12 S a) : (0 ≤ (S.I a 24).toInt ∧ (S.I a 24).toInt ≤ 5) := h.2.2.2.2.2.2.2.2.2.2.2.2.2.2.2.2.2.2.2.2.2.2.2.2.2.1
theorem ok_12.R25 {S : wPS} {a : Nat} (h : ok_12 S a) : (0 ≤ (S.I a 25).toInt ∧ (S.I a 25).toInt ≤ 5) := h.2.2.2.2.2.2.2.2.2.2.2.2.2.2.2.2.2.2.2.2.2.2.2.2.2.2.1
theorem ok_12.R26 {S : wPS} {a : Nat} (h : ok_12 S a) : (0 ≤ (S.I a 26).toInt ∧ (S.I a 26).toInt ≤ 4) := h.2.2.2.2.2.2.2.2.2.2.2.2.2.2.2.2.2.2.2.2.2.2.2.2.2.2.2.1
theorem ok_12.X0 {S : wPS} {a : Nat} (h : ok_12 S a) : S.F a 77 = some (S.f a 77) := h.2.2.2.2.2.2.2.2.2.2.2.2.2.2.2.2.2.2.2.2.2.2.2.2.2.2.2.2.1
theorem ok_12.X1 {S : wPS} {a : Nat} (h : ok_12 S a) : S.F (S.f a 0) 7 = some (S.f a 77) := h.2.2.2.2.2.2.2.2.2.2.2.2.2.2.2.2.2.2.2.2.2.2.2.2.2.2.2.2.2.1
theorem ok_12.X2 {S : wPS} {a : Nat} (h : ok_12 S a) : S.F (S.f a 1) 7 = some (S.f a 77) := h.2.2.2.2.2.2.2.2.2.2.2.2.2.2.2.2.2.2.2.2.2.2.2.2.2.2.2.2.2.2
theorem ok_13.F0 {S : wPS} {a : Nat} (h : ok_13 S a) : (S.F a 0 = some (S.f a 0) ∧ isA S (S.f a 0) 15 ∧ S.n (S.f a 0) = 16) := h.1
theorem ok_13.R1 {S : wPS} {a : Nat} (h : ok_13 S a) : (0 ≤ (S.I a 1).toInt ∧ (S.I a 1).toInt ≤ 0) := h.2.1
theorem ok_13.R3 {S : wPS} {a : Nat} (h : ok_13 S a) : (0 ≤ (S.I a 3).toInt ∧ (S.I a 3).toInt ≤ 8) := h.2.2
theorem ok_14.X0 {S : wPS} {a : Nat} (h : ok_14 S a) : ((S.F a 1 = S.F a 7 ∧ (S.I a 2).toInt = 0) ∨ (S.F a 1 = some (S.f a 1) ∧ isA S (S.f a 1) 22 ∧ (1 ≤ S.n (S.f a 1) ∧ S.n (S.f a 1) ≤ 40) ∧ S.F (S.f a 1) 0 = some (S.n a) ∧ 0 ≤ (S.I a 2).toInt ∧ ((S.I a 2).toInt ≤ S.n (S.f a 1) ∧ (S.I a 2).toInt ≤ 20 ∧ (S.n a = 11 → (S.I a 2).toInt ≤ 8)) ∧ ∀ i : Nat, (i : Int) < (S.I a 2).toInt → ∃ g, S.r (S.f a 1) i = some g ∧ isA S g (S.n a))) := h
theorem ok_19.X0 {S : wPS} {a : Nat} (h : ok_19 S a) : ∀ i g, S.r a i = some g → isA S g 2 := h
theorem ok_20.X0 {S : wPS} {a : Nat} (h : ok_20 S a) : ∀ i g, S.r a i = some g → isA S g 3 := h
theorem ok_21.X0 {S : wPS} {a : Nat} (h : ok_21 S a) : ∀ i g, S.r a i = some g → isA S g 7 := h
theorem ok_22.X0 {S : wPS} {a : Nat} (h : ok_22 S a) : ∀ k i g, S.F a 0 = some k → S.r a i = some g → isA S g k := h
theorem ok_24.X0 {S : wPS} {a : Nat} (h : ok_24 S a) : ∀ i g, S.r a i = some g → isA S g 2 := h
theorem mF {S T : wPS} {a : Nat} (x : ext S T) (ha : a ∈ S.L) {j kk : Nat} (hk : S.K a ≠ 14 ∨ j ≠ 1) (h : S.F a j = some (S.f a j) ∧ isA S (S.f a j) kk) : T.F a j = some (T.f a j) ∧ T.f a j = S.f a j ∧ isA T (T.f a j) kk := by
  have h1 := (x a ha).2.2.2 j _ hk h.1
  have h2 := f_of h1
  exact ⟨by rw [h2]; exact h1, h2, by rw [h2]; exact x.A h.2⟩
theorem mE {S T : wPS} {arr kk k : Nat} {c c' : Int} (x : ext S T) (y : rr S T) (hA : isA S arr k) (hc : c' = c) (h : ∀ i : Nat, (i : Int) < c → ∃ g, S.r arr i = some g ∧ isA S g kk) : ∀ i : Nat, (i : Int) < c' → ∃ g, T.r arr i = some g ∧ isA T g kk := by
  intro i hi
  obtain ⟨g, e, hg⟩ := h i (by omega)
  obtain ⟨g', e', hg'⟩ := y arr hA.1 i g e
  exact ⟨g', e', hg' kk hg⟩
theorem ok_0.mono {S T : wPS} {a : Nat} (x : ext S T) (y : rr S T) (hI : ∀ j, T.I a j = S.I a j) (hF : T.F a = S.F a) (hr : T.r a = S.r a) (ha : a ∈ S.L) (hk : S.K a = 0) (h : ok_0 S a) : ok_0 T a := by
  obtain ⟨e0, q0, a0⟩ := mF x ha (j := 0) (by rw [hk]; decide) ⟨h.F0.1, h.F0.2.1⟩
  obtain ⟨e1, q1, a1⟩ := mF x ha (j := 1) (by rw [hk]; decide) ⟨h.F1.1, h.F1.2.1⟩
  exact ⟨⟨e0, a0, by rw [q0, x.n h.F0.2.1]; exact h.F0.2.2⟩, ⟨e1, a1, by rw [q1, x.n h.F1.2.1]; exact h.F1.2.2⟩, by rw [hI]; exact h.R2⟩
theorem ok_1.mono {S T : wPS} {a : Nat} (x : ext S T) (y : rr S T) (hI : ∀ j, T.I a j = S.I a j) (hF : T.F a = S.F a) (hr : T.r a = S.r a) (ha : a ∈ S.L) (hk : S.K a = 1) (h : ok_1 S a) : ok_1 T a := by
  obtain ⟨e0, q0, a0⟩ := mF x ha (j := 0) (by rw [hk]; decide) ⟨h.F0.1, h.F0.2.1⟩
  obtain ⟨e1, q1, a1⟩ := mF x ha (j := 1) (by rw [hk]; decide) ⟨h.F1.1, h.F1.2.1⟩
  exact ⟨⟨e0, a0, by rw [q0, x.n h.F0.2.1]; exact h.F0.2.2⟩, ⟨e1, a1, by rw [q1, q0, x.n h.F1.2.1, x.n h.F0.2.1]; exact h.F1.2.2⟩⟩
theorem ok_2.mono {S T : wPS} {a : Nat} (x : ext S T) (y : rr S T) (hI : ∀ j, T.I a j = S.I a j) (hF : T.F a = S.F a) (hr : T.r a = S.r a) (ha : a ∈ S.L) (hk : S.K a = 2) (h : ok_2 S a) : ok_2 T a := by
  obtain ⟨e5, q5, a5⟩ := mF x ha (j := 5) (by rw [hk]; decide) ⟨h.F5.1, h.F5.2⟩
  obtain ⟨e6, q6, a6⟩ := mF x ha (j := 6) (by rw [hk]; decide) ⟨h.F6.1, h.F6.2⟩
  exact ⟨⟨e5, a5⟩, ⟨e6, a6⟩, by rw [hI]; exact h.R1, by rw [hI]; exact h.R2, by rw [hI]; exact h.R3, by rw [hI]; exact h.R4, by rw [hI]; exact h.R9, by rw [hI]; exact h.R13, by rw [hI]; exact h.R14, by rw [hI]; exact h.R16, by rw [hI]; exact h.R17⟩
theorem ok_3.mono {S T : wPS} {a : Nat} (x : ext S T) (y : rr S T) (hI : ∀ j, T.I a j = S.I a j) (hF : T.F a = S.F a) (hr : T.r a = S.r a) (ha : a ∈ S.L) (hk : S.K a = 3) (h : ok_3 S a) : ok_3 T a := by
  obtain ⟨e2, q2, a2⟩ := mF x ha (j := 2) (by rw [hk]; decide) ⟨h.F2.1, h.F2.2.1⟩
  exact ⟨⟨e2, a2, by rw [q2, x.n h.F2.2.1]; exact h.F2.2.2⟩, by rw [hI]; exact h.R5⟩
theorem ok_4.mono {S T : wPS} {a : Nat} (x : ext S T) (y : rr S T) (hI : ∀ j, T.I a j = S.I a j) (hF : T.F a = S.F a) (hr : T.r a = S.r a) (ha : a ∈ S.L) (hk : S.K a = 4) (h : ok_4 S a) : ok_4 T a := by
  obtain ⟨e0, q0, a0⟩ := mF x ha (j := 0) (by rw [hk]; decide) ⟨h.F0.1, h.F0.2.1⟩
  obtain ⟨e1, q1, a1⟩ := mF x ha (j := 1) (by rw [hk]; decide) ⟨h.F1.1, h.F1.2.1⟩
  obtain ⟨e2, q2, a2⟩ := mF x ha (j := 2) (by rw [hk]; decide) ⟨h.F2.1, h.F2.2.1⟩
  obtain ⟨e3, q3, a3⟩ := mF x ha (j := 3) (by rw [hk]; decide) ⟨h.F3.1, h.F3.2.1⟩
  obtain ⟨e4, q4, a4⟩ := mF x ha (j := 4) (by rw [hk]; decide) ⟨h.F4.1, h.F4.2.1⟩
  obtain ⟨e5, q5, a5⟩ := mF x ha (j := 5) (by rw [hk]; decide) ⟨h.F5.1, h.F5.2.1⟩
  exact ⟨⟨e0, a0, by rw [q0, x.n h.F0.2.1]; exact h.F0.2.2⟩, ⟨e1, a1, by rw [q1, x.n h.F1.2.1]; exact h.F1.2.2⟩, ⟨e2, a2, by rw [q2, x.n h.F2.2.1]; exact h.F2.2.2⟩, ⟨e3, a3, by rw [q3, x.n h.F3.2.1]; exact h.F3.2.2⟩, ⟨e4, a4, by rw [q4, x.n h.F4.2.1]; exact h.F4.2.2⟩, ⟨e5, a5, by rw [q5, x.n h.F5.2.1]; exact h.F5.2.2⟩, by rw [hI]; exact h.R6, by rw [hI]; exact h.R7, by rw [q0]; exact mE x y h.F0.2.1 (by rw [hI]) h.E0, by rw [q1]; exact mE x y h.F1.2.1 (by rw [hI]) h.E1⟩
theorem ok_6.mono {S T : wPS} {a : Nat} (x : ext S T) (y : rr S T) (hI : ∀ j, T.I a j = S.I a j) (hF : T.F a = S.F a) (hr : T.r a = S.r a) (ha : a ∈ S.L) (hk : S.K a = 6) (h : ok_6 S a) : ok_6 T a := by
  obtain ⟨e0, q0, a0⟩ := mF x ha (j := 0) (by rw [hk]; decide) ⟨h.F0.1, h.F0.2.1⟩
  obtain ⟨e1, q1, a1⟩ := mF x ha (j := 1) (by rw [hk]; decide) ⟨h.F1.1, h.F1.2.1⟩
  obtain ⟨e2, q2, a2⟩ := mF x ha (j := 2) (by rw [hk]; decide) ⟨h.F2.1, h.F2.2.1⟩
  obtain ⟨e3, q3, a3⟩ := mF x ha (j := 3) (by rw [hk]; decide) ⟨h.F3.1, h.F3.2.1⟩
  exact ⟨⟨e0, a0, by rw [q0, x.n h.F0.2.1]; exact h.F0.2.2⟩, ⟨e1, a1, by rw [q1, x.n h.F1.2.1]; exact h.F1.2.2⟩, ⟨e2, a2, by rw [q2, x.n h.F2.2.1]; exact h.F2.2.2⟩, ⟨e3, a3, by rw [q3, x.n h.F3.2.1]; exact h.F3.2.2⟩, by rw [hI]; exact h.R4⟩
theorem ok_9.mono {S T : wPS} {a : Nat} (x : ext S T) (y : rr S T) (hI : ∀ j, T.I a j = S.I a j) (hF : T.F a = S.F a) (hr : T.r a = S.r a) (ha : a ∈ S.L) (hk : S.K a = 9) (h : ok_9 S a) : ok_9 T a := by
  obtain ⟨e0, q0, a0⟩ := mF x ha (j := 0) (by rw [hk]; decide) ⟨h.F0.1, h.F0.2.1⟩
  obtain ⟨e2, q2, a2⟩ := mF x ha (j := 2) (by rw [hk]; decide) ⟨h.F2.1, h.F2.2.1⟩
  obtain ⟨e4, q4, a4⟩ := mF x ha (j := 4) (by rw [hk]; decide) ⟨h.F4.1, h.F4.2.1⟩
  obtain ⟨e6, q6, a6⟩ := mF x ha (j := 6) (by rw [hk]; decide) ⟨h.F6.1, h.F6.2⟩
  obtain ⟨e7, q7, a7⟩ := mF x ha (j := 7) (by rw [hk]; decide) ⟨h.F7.1, h.F7.2⟩
  obtain ⟨e8, q8, a8⟩ := mF x ha (j := 8) (by rw [hk]; decide) ⟨h.F8.1, h.F8.2⟩
  exact ⟨⟨e0, a0, by rw [q0, x.n h.F0.2.1]; exact h.F0.2.2⟩, ⟨e2, a2, by rw [q2, x.n h.F2.2.1]; exact h.F2.2.2⟩, ⟨e4, a4, by rw [q4, x.n h.F4.2.1]; exact h.F4.2.2⟩, ⟨e6, a6⟩, ⟨e7, a7⟩, ⟨e8, a8⟩, by rw [hI]; exact h.R1, by rw [hI]; exact h.R3, by rw [hI]; exact h.R5, by rw [q0]; exact mE x y h.F0.2.1 (by rw [hI]) h.E0, by rw [q2]; exact mE x y h.F2.2.1 (by rw [hI]) h.E2, by rw [q4]; exact mE x y h.F4.2.1 (by rw [hI]) h.E4⟩
theorem ok_10.mono {S T : wPS} {a : Nat} (x : ext S T) (y : rr S T) (hI : ∀ j, T.I a j = S.I a j) (hF : T.F a = S.F a) (hr : T.r a = S.r a) (ha : a ∈ S.L) (hk : S.K a = 10) (h : ok_10 S a) : ok_10 T a := by
  obtain ⟨e5, q5, a5⟩ := mF x ha (j := 5) (by rw [hk]; decide) ⟨h.F5.1, h.F5.2.1⟩
  obtain ⟨e6, q6, a6⟩ := mF x ha (j := 6) (by rw [hk]; decide) ⟨h.F6.1, h.F6.2.1⟩
  exact ⟨⟨e5, a5, by rw [q5, x.n h.F5.2.1]; exact h.F5.2.2⟩, ⟨e6, a6, by rw [q6, x.n h.F6.2.1]; exact h.F6.2.2⟩, by rw [hI]; exact h.R1, by rw [hI]; exact h.R2, by rw [hI]; exact h.R3, by rw [hI]; exact h.R4, by rw [hI]; exact h.R17, by rw [hI]; exact h.R18, by rw [hI]; exact h.R19, by rw [hI]; exact h.R20, by rw [hI]; exact h.R21⟩
theorem ok_11.mono {S T : wPS} {a : Nat} (x : ext S T) (y : rr S T) (hI : ∀ j, T.I a j = S.I a j) (hF : T.F a = S.F a) (hr : T.r a = S.r a) (ha : a ∈ S.L) (hk : S.K a = 11) (h : ok_11 S a) : ok_11 T a := by
  obtain ⟨e2, q2, a2⟩ := mF x ha (j := 2) (by rw [hk]; decide) ⟨h.F2.1, h.F2.2.1⟩
  exact ⟨⟨e2, a2, by rw [q2, x.n h.F2.2.1]; exact h.F2.2.2⟩, by rw [hI]; exact h.R1, by rw [hI]; exact h.R3, by rw [hI]; exact h.R5⟩
theorem ok_12.mono {S T : wPS} {a : Nat} (x : ext S T) (y : rr S T) (hI : ∀ j, T.I a j = S.I a j) (hF : T.F a = S.F a) (hr : T.r a = S.r a) (ha : a ∈ S.L) (hk : S.K a = 12) (h : ok_12 S a) : ok_12 T a := by
  obtain ⟨e0, q0, a0⟩ := mF x ha (j := 0) (by rw [hk]; decide) ⟨h.F0.1, h.F0.2.1⟩
  obtain ⟨e1, q1, a1⟩ := mF x ha (j := 1) (by rw [hk]; decide) ⟨h.F1.1, h.F1.2.1⟩
  obtain ⟨e2, q2, a2⟩ := mF x ha (j := 2) (by rw [hk]; decide) ⟨h.F2.1, h.F2.2.1⟩
  obtain ⟨e3, q3, a3⟩ := mF x ha (j := 3) (by rw [hk]; decide) ⟨h.F3.1, h.F3.2.1⟩
  obtain ⟨e4, q4, a4⟩ := mF x ha (j := 4) (by rw [hk]; decide) ⟨h.F4.1, h.F4.2.1⟩
  obtain ⟨e5, q5, a5⟩ := mF x ha (j := 5) (by rw [hk]; decide) ⟨h.F5.1, h.F5.2.1⟩
  obtain ⟨e6, q6, a6⟩ := mF x ha (j := 6) (by rw [hk]; decide) ⟨h.F6.1, h.F6.2.1⟩
  obtain ⟨e7, q7, a7⟩ := mF x ha (j := 7) (by rw [hk]; decide) ⟨h.F7.1, h.F7.2.1⟩
  obtain ⟨e8, q8, a8⟩ := mF x ha (j := 8) (by rw [hk]; decide) ⟨h.F8.1, h.F8.2.1⟩
  obtain ⟨e29, q29, a29⟩ := mF x ha (j := 29) (by rw [hk]; decide) ⟨h.F29.1, h.F29.2.1⟩
  obtain ⟨e30, q30, a30⟩ := mF x ha (j := 30) (by rw [hk]; decide) ⟨h.F30.1, h.F30.2.1⟩
  obtain ⟨e31, q31, a31⟩ := mF x ha (j := 31) (by rw [hk]; decide) ⟨h.F31.1, h.F31.2.1⟩
  obtain ⟨e32, q32, a32⟩ := mF x ha (j := 32) (by rw [hk]; decide) ⟨h.F32.1, h.F32.2.1⟩
  obtain ⟨e33, q33, a33⟩ := mF x ha (j := 33) (by rw [hk]; decide) ⟨h.F33.1, h.F33.2.1⟩
  obtain ⟨e9, q9, a9⟩ := mF x ha (j := 9) (by rw [hk]; decide) ⟨h.F9.1, h.F9.2.1⟩
  obtain ⟨e10, q10, a10⟩ := mF x ha (j := 10) (by rw [hk]; decide) ⟨h.F10.1, h.F10.2.1⟩
  obtain ⟨e11, q11, a11⟩ := mF x ha (j := 11) (by rw [hk]; decide) ⟨h.F11.1, h.F11.2.1⟩
  obtain ⟨e12, q12, a12⟩ := mF x ha (j := 12) (by rw [hk]; decide) ⟨h.F12.1, h.F12.2.1⟩
  obtain ⟨e13, q13, a13⟩ := mF x ha (j := 13) (by rw [hk]; decide) ⟨h.F13.1, h.F13.2.1⟩
  obtain ⟨e14, q14, a14⟩ := mF x ha (j := 14) (by rw [hk]; decide) ⟨h.F14.1, h.F14.2.1⟩
  have f77 : T.f a 77 = S.f a 77 := by unfold wPS.f; rw [hF]
  exact ⟨⟨e0, a0, by rw [q0, x.n h.F0.2.1]; exact h.F0.2.2⟩, ⟨e1, a1, by rw [q1, x.n h.F1.2.1]; exact h.F1.2.2⟩, ⟨e2, a2, by rw [q2, x.n h.F2.2.1]; exact h.F2.2.2⟩, ⟨e3, a3, by rw [q3, x.n h.F3.2.1]; exact h.F3.2.2⟩, ⟨e4, a4, by rw [q4, x.n h.F4.2.1]; exact h.F4.2.2⟩, ⟨e5, a5, by rw [q5, x.n h.F5.2.1]; exact h.F5.2.2⟩, ⟨e6, a6, by rw [q6, x.n h.F6.2.1]; exact h.F6.2.2⟩, ⟨e7, a7, by rw [q7, x.n h.F7.2.1]; exact h.F7.2.2⟩, ⟨e8, a8, by rw [q8, x.n h.F8.2.1]; exact h.F8.2.2⟩, ⟨e29, a29, by rw [q29, x.n h.F29.2.1]; exact h.F29.2.2⟩, ⟨e30, a30, by rw [q30, x.n h.F30.2.1]; exact h.F30.2.2⟩, ⟨e31, a31, by rw [q31, x.n h.F31.2.1]; exact h.F31.2.2⟩, ⟨e32, a32, by rw [q32, x.n h.F32.2.1]; exact h.F32.2.2⟩, ⟨e33, a33, by rw [q33, x.n h.F33.2.1]; exact h.F33.2.2⟩, ⟨e9, a9, by rw [q9, x.n h.F9.2.1]; exact h.F9.2.2⟩, ⟨e10, a10, by rw [q10, x.n h.F10.2.1]; exact h.F10.2.2⟩, ⟨e11, a11, by rw [q11, x.n h.F11.2.1]; exact h.F11.2.2⟩, ⟨e12, a12, by rw [q12, x.n h.F12.2.1]; exact h.F12.2.2⟩, ⟨e13, a13, by rw [q13, x.n h.F13.2.1]; exact h.F13.2.2⟩, ⟨e14, a14, by rw [q14, x.n h.F14.2.1]; exact h.F14.2.2⟩, by rw [hI]; exact h.R16, by rw [hI]; exact h.R18, by rw [hI]; exact h.R19, by rw [hI]; exact h.R20, by rw [hI]; exact h.R21, by rw [hI]; exact h.R24, by rw [hI]; exact h.R25, by rw [hI]; exact h.R26, by rw [hF, f77]; exact h.X0, by rw [q0, f77]; exact x.F h.F0.2.1 (by decide) h.X1, by rw [q1, f77]; exact x.F h.F1.2.1 (by decide) h.X2⟩
theorem ok_13.mono {S T : wPS} {a : Nat} (x : ext S T) (y : rr S T) (hI : ∀ j, T.I a j = S.I a j) (hF : T.F a = S.F a) (hr : T.r a = S.r a) (ha : a ∈ S.L) (hk : S.K a = 13) (h : ok_13 S a) : ok_13 T a := by
  obtain ⟨e0, q0, a0⟩ := mF x ha (j := 0) (by rw [hk]; decide) ⟨h.F0.1, h.F0.2.1⟩
  exact ⟨⟨e0, a0, by rw [q0, x.n h.F0.2.1]; exact h.F0.2.2⟩, by rw [hI]; exact h.R1, by rw [hI]; exact h.R3⟩
theorem ok_14.mono {S T : wPS} {a : Nat} (x : ext S T) (y : rr S T) (hI : ∀ j, T.I a j = S.I a j) (hF : T.F a = S.F a) (hr : T.r a = S.r a) (ha : a ∈ S.L) (hk : S.K a = 14) (h : ok_14 S a) : ok_14 T a := by
  have f1 : T.f a 1 = S.f a 1 := by unfold wPS.f; rw [hF]
  have n1 := (x a ha).2.2.1
  rcases h with ⟨h1, h2⟩ | ⟨h1, h2, h3, h4, h5, h6, h7⟩
  · exact Or.inl ⟨by rw [hF]; exact h1, by rw [hI]; exact h2⟩
  · exact Or.inr ⟨by rw [f1, hF]; exact h1, by rw [f1]; exact x.A h2, by rw [f1, x.n h2]; exact h3, by rw [f1, n1]; exact x.F h2 (by decide) h4, by rw [hI]; exact h5, by rw [hI, f1, x.n h2, n1]; exact h6, by rw [f1, n1]; exact mE x y h2 (by rw [hI]) h7⟩
theorem ok_19.mono {S T : wPS} {a : Nat} (x : ext S T) (y : rr S T) (hI : ∀ j, T.I a j = S.I a j) (hF : T.F a = S.F a) (hr : T.r a = S.r a) (ha : a ∈ S.L) (hk : S.K a = 19) (h : ok_19 S a) : ok_19 T a := by
  intro i g e
  rw [hr] at e
  exact x.A (h i g e)
theorem ok_20.mono {S T : wPS} {a : Nat} (x : ext S T) (y : rr S T) (hI : ∀ j, T.I a j = S.I a j) (hF : T.F a = S.F a) (hr : T.r a = S.r a) (ha : a ∈ S.L) (hk : S.K a = 20) (h : ok_20 S a) : ok_20 T a := by
  intro i g e
  rw [hr] at e
  exact x.A (h i g e)
theorem ok_21.mono {S T : wPS} {a : Nat} (x : ext S T) (y : rr S T) (hI : ∀ j, T.I a j = S.I a j) (hF : T.F a = S.F a) (hr : T.r a = S.r a) (ha : a ∈ S.L) (hk : S.K a = 21) (h : ok_21 S a) : ok_21 T a := by
  intro i g e
  rw [hr] at e
  exact x.A (h i g e)
theorem ok_22.mono {S T : wPS} {a : Nat} (x : ext S T) (y : rr S T) (hI : ∀ j, T.I a j = S.I a j) (hF : T.F a = S.F a) (hr : T.r a = S.r a) (ha : a ∈ S.L) (hk : S.K a = 22) (h : ok_22 S a) : ok_22 T a := by
  intro k i g e1 e2
  rw [hr] at e2
  rw [hF] at e1
  exact x.A (h k i g e1 e2)
theorem ok_24.mono {S T : wPS} {a : Nat} (x : ext S T) (y : rr S T) (hI : ∀ j, T.I a j = S.I a j) (hF : T.F a = S.F a) (hr : T.r a = S.r a) (ha : a ∈ S.L) (hk : S.K a = 24) (h : ok_24 S a) : ok_24 T a := by
  intro i g e
  rw [hr] at e
  exact x.A (h i g e)
theorem okAt.mono {S T : wPS} {a : Nat} (x : ext S T) (y : rr S T) (hI : ∀ j, T.I a j = S.I a j) (hF : T.F a = S.F a) (hr : T.r a = S.r a) (ha : a ∈ S.L) (h : okAt S a) : okAt T a := by
  have hK := (x a ha).2.1
  by_cases h0 : S.K a = 0
  · exact okAt.of_0 (hK.trans h0) (ok_0.mono x y hI hF hr ha h0 (h.to_0 h0))
  by_cases h1 : S.K a = 1
  · exact okAt.of_1 (hK.trans h1) (ok_1.mono x y hI hF hr ha h1 (h.to_1 h1))
  by_cases h2 : S.K a = 2
  · exact okAt.of_2 (hK.trans h2) (ok_2.mono x y hI hF hr ha h2 (h.to_2 h2))
  by_cases h3 : S.K a = 3
  · exact okAt.of_3 (hK.trans h3) (ok_3.mono x y hI hF hr ha h3 (h.to_3 h3))
  by_cases h4 : S.K a = 4
  · exact okAt.of_4 (hK.trans h4) (ok_4.mono x y hI hF hr ha h4 (h.to_4 h4))
  by_cases h6 : S.K a = 6
  · exact okAt.of_6 (hK.trans h6) (ok_6.mono x y hI hF hr ha h6 (h.to_6 h6))
  by_cases h9 : S.K a = 9
  · exact okAt.of_9 (hK.trans h9) (ok_9.mono x y hI hF hr ha h9 (h.to_9 h9))
  by_cases h10 : S.K a = 10
  · exact okAt.of_10 (hK.trans h10) (ok_10.mono x y hI hF hr ha h10 (h.to_10 h10))
  by_cases h11 : S.K a = 11
  · exact okAt.of_11 (hK.trans h11) (ok_11.mono x y hI hF hr ha h11 (h.to_11 h11))
  by_cases h12 : S.K a = 12
  · exact okAt.of_12 (hK.trans h12) (ok_12.mono x y hI hF hr ha h12 (h.to_12 h12))
  by_cases h13 : S.K a = 13
  · exact okAt.of_13 (hK.trans h13) (ok_13.mono x y hI hF hr ha h13 (h.to_13 h13))
  by_cases h14 : S.K a = 14
  · exact okAt.of_14 (hK.trans h14) (ok_14.mono x y hI hF hr ha h14 (h.to_14 h14))
  by_cases h19 : S.K a = 19
  · exact okAt.of_19 (hK.trans h19) (ok_19.mono x y hI hF hr ha h19 (h.to_19 h19))
  by_cases h20 : S.K a = 20
  · exact okAt.of_20 (hK.trans h20) (ok_20.mono x y hI hF hr ha h20 (h.to_20 h20))
  by_cases h21 : S.K a = 21
  · exact okAt.of_21 (hK.trans h21) (ok_21.mono x y hI hF hr ha h21 (h.to_21 h21))
  by_cases h22 : S.K a = 22
  · exact okAt.of_22 (hK.trans h22) (ok_22.mono x y hI hF hr ha h22 (h.to_22 h22))
  by_cases h24 : S.K a = 24
  · exact okAt.of_24 (hK.trans h24) (ok_24.mono x y hI hF hr ha h24 (h.to_24 h24))
  exact okAt.no _ hK h0 h1 h2 h3 h4 h6 h9 h10 h11 h12 h13 h14 h19 h20 h21 h22 h24
def cst (k j : Nat) (S : wPS) (a : Nat) (v : Int32) : Prop := match k, j with
  | 0, 2 => (0 ≤ v.toInt ∧ v.toInt ≤ 16)
  | 2, 1 => (6 ≤ v.toInt ∧ v.toInt ≤ 200)
  | 2, 2 => (500 ≤ v.toInt ∧ v.toInt ≤ 10000)
  | 2, 3 => (-500 ≤ v.toInt ∧ v.toInt ≤ 500)
  | 2, 4 => (1000 ≤ v.toInt ∧ v.toInt ≤ 99999)
  | 2, 9 => (0 ≤ v.toInt ∧ v.toInt ≤ 1)
  | 2, 13 => (0 ≤ v.toInt ∧ v.toInt ≤ 1)
  | 2, 14 => (0 ≤ v.toInt ∧ v.toInt ≤ 1)
  | 2, 16 => (0 ≤ v.toInt ∧ v.toInt ≤ 1)
  | 2, 17 => (0 ≤ v.toInt ∧ v.toInt ≤ 1)
  | 3, 5 => (0 ≤ v.toInt ∧ v.toInt ≤ 20)
  | 4, 6 => (0 ≤ v.toInt ∧ v.toInt ≤ 5) ∧ (∀ i : Nat, (i : Int) < v.toInt → ∃ g, S.r (S.f a 0) i = some g ∧ isA S g 2)
  | 4, 7 => (0 ≤ v.toInt ∧ v.toInt ≤ 5) ∧ (∀ i : Nat, (i : Int) < v.toInt → ∃ g, S.r (S.f a 1) i = some g ∧ isA S g 2)
  | 6, 4 => (1 ≤ v.toInt ∧ v.toInt ≤ 200)
  | 9, 1 => (0 ≤ v.toInt ∧ v.toInt ≤ 20) ∧ (∀ i : Nat, (i : Int) < v.toInt → ∃ g, S.r (S.f a 0) i = some g ∧ isA S g 2)
  | 9, 3 => (0 ≤ v.toInt ∧ v.toInt ≤ 8) ∧ (∀ i : Nat, (i : Int) < v.toInt → ∃ g, S.r (S.f a 2) i = some g ∧ isA S g 3)
  | 9, 5 => (0 ≤ v.toInt ∧ v.toInt ≤ 6) ∧ (∀ i : Nat, (i : Int) < v.toInt → ∃ g, S.r (S.f a 4) i = some g ∧ isA S g 7)
  | 10, 1 => (6 ≤ v.toInt ∧ v.toInt ≤ 200)
  | 10, 2 => (500 ≤ v.toInt ∧ v.toInt ≤ 10000)
  | 10, 3 => (-500 ≤ v.toInt ∧ v.toInt ≤ 500)
  | 10, 4 => (1000 ≤ v.toInt ∧ v.toInt ≤ 99999)
  | 10, 17 => (0 ≤ v.toInt ∧ v.toInt ≤ 8)
  | 10, 18 => (0 ≤ v.toInt ∧ v.toInt ≤ 1)
  | 10, 19 => (0 ≤ v.toInt ∧ v.toInt ≤ 1)
  | 10, 20 => (0 ≤ v.toInt ∧ v.toInt ≤ 1)
  | 10, 21 => (0 ≤ v.toInt ∧ v.toInt ≤ 1)
  | 11, 1 => (1 ≤ v.toInt ∧ v.toInt ≤ 4)
  | 11, 3 => (1 ≤ v.toInt ∧ v.toInt ≤ 20)
  | 11, 5 => (0 ≤ v.toInt ∧ v.toInt ≤ 19)
  | 12, 16 => (0 ≤ v.toInt ∧ v.toInt ≤ 16)
  | 12, 18 => (2 ≤ v.toInt ∧ v.toInt ≤ 200)
  | 12, 19 => (0 ≤ v.toInt ∧ v.toInt ≤ 6)
  | 12, 20 => (0 ≤ v.toInt ∧ v.toInt ≤ 200)
  | 12, 21 => (0 ≤ v.toInt ∧ v.toInt ≤ 200)
  | 12, 24 => (0 ≤ v.toInt ∧ v.toInt ≤ 5)
  | 12, 25 => (0 ≤ v.toInt ∧ v.toInt ≤ 5)
  | 12, 26 => (0 ≤ v.toInt ∧ v.toInt ≤ 4)
  | 13, 1 => (0 ≤ v.toInt ∧ v.toInt ≤ 0)
  | 13, 3 => (0 ≤ v.toInt ∧ v.toInt ≤ 8)
  | 14, 2 => ((S.F a 1 = S.F a 7 ∧ (v).toInt = 0) ∨ (S.F a 1 = some (S.f a 1) ∧ isA S (S.f a 1) 22 ∧ (1 ≤ S.n (S.f a 1) ∧ S.n (S.f a 1) ≤ 40) ∧ S.F (S.f a 1) 0 = some (S.n a) ∧ 0 ≤ (v).toInt ∧ ((v).toInt ≤ S.n (S.f a 1) ∧ (v).toInt ≤ 20 ∧ (S.n a = 11 → (v).toInt ≤ 8)) ∧ ∀ i : Nat, (i : Int) < (v).toInt → ∃ g, S.r (S.f a 1) i = some g ∧ isA S g (S.n a)))
  | _, _ => True
theorem sI_eq {S : wPS} {a j : Nat} {v : Int32} : (S.sI a j v).I a j = v := by show va_up S.I a (va_up (S.I a) j v) a j = _; simp [va_up]
theorem sJ_eq {S : wPS} {a j : Nat} {v : Int64} : (S.sJ a j v).J a j = v := by show va_up S.J a (va_up (S.J a) j v) a j = _; simp [va_up]
theorem sI_ne {S : wPS} {a j c : Nat} {v : Int32} (h : c ≠ j) : (S.sI a j v).I a c = S.I a c := by show va_up S.I a (va_up (S.I a) j v) a c = _; simp [va_up, h]
theorem sI_no {S : wPS} {a j b : Nat} {v : Int32} (h : b ≠ a) : (S.sI a j v).I b = S.I b := up_nq h
theorem up_R {S : wPS} {a j c : Nat} {v : Int32} {lo hi : Int} (old : lo ≤ (S.I a c).toInt ∧ (S.I a c).toInt ≤ hi) (new : c = j → lo ≤ v.toInt ∧ v.toInt ≤ hi) : lo ≤ ((S.sI a j v).I a c).toInt ∧ ((S.sI a j v).I a c).toInt ≤ hi := by
  by_cases e : c = j
  · subst e; rw [sI_eq]; exact new rfl
  · rw [sI_ne e]; exact old
theorem up_E {S : wPS} {a j c arr kk : Nat} {v : Int32} (old : ∀ i : Nat, (i : Int) < (S.I a c).toInt → ∃ g, S.r arr i = some g ∧ isA S g kk) (new : c = j → ∀ i : Nat, (i : Int) < v.toInt → ∃ g, S.r arr i = some g ∧ isA S g kk) : ∀ i : Nat, (i : Int) < ((S.sI a j v).I a c).toInt → ∃ g, (S.sI a j v).r arr i = some g ∧ isA (S.sI a j v) g kk := by
  by_cases e : c = j
  · subst e; rw [sI_eq]; exact new rfl
  · rw [sI_ne e]; exact old
theorem ok_0.up {S : wPS} {a j : Nat} {v : Int32} (h : ok_0 S a) (c : cst 0 j S a v) : ok_0 (S.sI a j v) a := by
  exact ⟨h.F0, h.F1, up_R h.R2 (fun e => by subst e; exact c)⟩
theorem ok_1.up {S : wPS} {a j : Nat} {v : Int32} (h : ok_1 S a) (c : cst 1 j S a v) : ok_1 (S.sI a j v) a := by
  exact ⟨h.F0, h.F1⟩
theorem ok_2.up {S : wPS} {a j : Nat} {v : Int32} (h : ok_2 S a) (c : cst 2 j S a v) : ok_2 (S.sI a j v) a := by
  exact ⟨h.F5, h.F6, up_R h.R1 (fun e => by subst e; exact c), up_R h.R2 (fun e => by subst e; exact c), up_R h.R3 (fun e => by subst e; exact c), up_R h.R4 (fun e => by subst e; exact c), up_R h.R9 (fun e => by subst e; exact c), up_R h.R13 (fun e => by subst e; exact c), up_R h.R14 (fun e => by subst e; exact c), up_R h.R16 (fun e => by subst e; exact c), up_R h.R17 (fun e => by subst e; exact c)⟩
theorem ok_3.up {S : wPS} {a j : Nat} {v : Int32} (h : ok_3 S a) (c : cst 3 j S a v) : ok_3 (S.sI a j v) a := by
  exact ⟨h.F2, up_R h.R5 (fun e => by subst e; exact c)⟩
theorem ok_4.up {S : wPS} {a j : Nat} {v : Int32} (h : ok_4 S a) (c : cst 4 j S a v) : ok_4 (S.sI a j v) a := by
  exact ⟨h.F0, h.F1, h.F2, h.F3, h.F4, h.F5, up_R h.R6 (fun e => by subst e; exact c.1), up_R h.R7 (fun e => by subst e; exact c.1), up_E h.E0 (fun e => by subst e; exact c.2), up_E h.E1 (fun e => by subst e; exact c.2)⟩
theorem ok_6.up {S : wPS} {a j : Nat} {v : Int32} (h : ok_6 S a) (c : cst 6 j S a v) : ok_6 (S.sI a j v) a := by
  exact ⟨h.F0, h.F1, h.F2, h.F3, up_R h.R4 (fun e => by subst e; exact c)⟩
theorem ok_9.up {S : wPS} {a j : Nat} {v : Int32} (h : ok_9 S a) (c : cst 9 j S a v) : ok_9 (S.sI a j v) a := by
  exact ⟨h.F0, h.F2, h.F4, h.F6, h.F7, h.F8, up_R h.R1 (fun e => by subst e; exact c.1), up_R h.R3 (fun e => by subst e; exact c.1), up_R h.R5 (fun e => by subst e; exact c.1), up_E h.E0 (fun e => by subst e; exact c.2), up_E h.E2 (fun e => by subst e; exact c.2), up_E h.E4 (fun e => by subst e; exact c.2)⟩
theorem ok_10.up {S : wPS} {a j : Nat} {v : Int32} (h : ok_10 S a) (c : cst 10 j S a v) : ok_10 (S.sI a j v) a := by
  exact ⟨h.F5, h.F6, up_R h.R1 (fun e => by subst e; exact c), up_R h.R2 (fun e => by subst e; exact c), up_R h.R3 (fun e => by subst e; exact c), up_R h.R4 (fun e => by subst e; exact c), up_R h.R17 (fun e => by subst e; exact c), up_R h.R18 (fun e => by subst e; exact c), up_R h.R19 (fun e => by subst e; exact c), up_R h.R20 (fun e => by subst e; exact c), up_R h.R21 (fun e => by subst e; exact c)⟩
theorem ok_11.up {S : wPS} {a j : Nat} {v : Int32} (h : ok_11 S a) (c : cst 11 j S a v) : ok_11 (S.sI a j v) a := by
  exact ⟨h.F2, up_R h.R1 (fun e => by subst e; exact c), up_R h.R3 (fun e => by subst e; exact c), up_R h.R5 (fun e => by subst e; exact c)⟩
theorem ok_12.up {S : wPS} {a j : Nat} {v : Int32} (h : ok_12 S a) (c : cst 12 j S a v) : ok_12 (S.sI a j v) a := by
  exact ⟨h.F0, h.F1, h.F2, h.F3, h.F4, h.F5, h.F6, h.F7, h.F8, h.F29, h.F30, h.F31, h.F32, h.F33, h.F9, h.F10, h.F11, h.F12, h.F13, h.F14, up_R h.R16 (fun e => by subst e; exact c), up_R h.R18 (fun e => by subst e; exact c), up_R h.R19 (fun e => by subst e; exact c), up_R h.R20 (fun e => by subst e; exact c), up_R h.R21 (fun e => by subst e; exact c), up_R h.R24 (fun e => by subst e; exact c), up_R h.R25 (fun e => by subst e; exact c), up_R h.R26 (fun e => by subst e; exact c), h.X0, h.X1, h.X2⟩
theorem ok_13.up {S : wPS} {a j : Nat} {v : Int32} (h : ok_13 S a) (c : cst 13 j S a v) : ok_13 (S.sI a j v) a := by
  exact ⟨h.F0, up_R h.R1 (fun e => by subst e; exact c), up_R h.R3 (fun e => by subst e; exact c)⟩
theorem ok_14.up {S : wPS} {a j : Nat} {v : Int32} (h : ok_14 S a) (c : cst 14 j S a v) : ok_14 (S.sI a j v) a := by
  by_cases e : 2 = j
  · subst e; show _ ∨ _; rw [sI_eq]; exact c
  · show _ ∨ _; rw [sI_ne e]; exact h
theorem ok_19.up {S : wPS} {a j : Nat} {v : Int32} (h : ok_19 S a) (c : cst 19 j S a v) : ok_19 (S.sI a j v) a := by
  exact h
theorem ok_20.up {S : wPS} {a j : Nat} {v : Int32} (h : ok_20 S a) (c : cst 20 j S a v) : ok_20 (S.sI a j v) a := by
  exact h
theorem ok_21.up {S : wPS} {a j : Nat} {v : Int32} (h : ok_21 S a) (c : cst 21 j S a v) : ok_21 (S.sI a j v) a := by
  exact h
theorem ok_22.up {S : wPS} {a j : Nat} {v : Int32} (h : ok_22 S a) (c : cst 22 j S a v) : ok_22 (S.sI a j v) a := by
  exact h
theorem ok_24.up {S : wPS} {a j : Nat} {v : Int32} (h : ok_24 S a) (c : cst 24 j S a v) : ok_24 (S.sI a j v) a := by
  exact h
theorem okAt.up {S : wPS} {a k j : Nat} {v : Int32} (hk : S.K a = k) (h : okAt S a) (c : cst k j S a v) : okAt (S.sI a j v) a := by
  by_cases h0 : k = 0
  · subst h0; exact okAt.of_0 (S := S.sI a j v) hk (ok_0.up (h.to_0 hk) c)
  by_cases h1 : k = 1
  · subst h1; exact okAt.of_1 (S := S.sI a j v) hk (ok_1.up (h.to_1 hk) c)
  by_cases h2 : k = 2
  · subst h2; exact okAt.of_2 (S := S.sI a j v) hk (ok_2.up (h.to_2 hk) c)
  by_cases h3 : k = 3
  · subst h3; exact okAt.of_3 (S := S.sI a j v) hk (ok_3.up (h.to_3 hk) c)
  by_cases h4 : k = 4
  · subst h4; exact okAt.of_4 (S := S.sI a j v) hk (ok_4.up (h.to_4 hk) c)
  by_cases h6 : k = 6
  · subst h6; exact okAt.of_6 (S := S.sI a j v) hk (ok_6.up (h.to_6 hk) c)
  by_cases h9 : k = 9
  · subst h9; exact okAt.of_9 (S := S.sI a j v) hk (ok_9.up (h.to_9 hk) c)
  by_cases h10 : k = 10
  · subst h10; exact okAt.of_10 (S := S.sI a j v) hk (ok_10.up (h.to_10 hk) c)
  by_cases h11 : k = 11
  · subst h11; exact okAt.of_11 (S := S.sI a j v) hk (ok_11.up (h.to_11 hk) c)
  by_cases h12 : k = 12
  · subst h12; exact okAt.of_12 (S := S.sI a j v) hk (ok_12.up (h.to_12 hk) c)
  by_cases h13 : k = 13
  · subst h13; exact okAt.of_13 (S := S.sI a j v) hk (ok_13.up (h.to_13 hk) c)
  by_cases h14 : k = 14
  · subst h14; exact okAt.of_14 (S := S.sI a j v) hk (ok_14.up (h.to_14 hk) c)
  by_cases h19 : k = 19
  · subst h19; exact okAt.of_19 (S := S.sI a j v) hk (ok_19.up (h.to_19 hk) c)
  by_cases h20 : k = 20
  · subst h20; exact okAt.of_20 (S := S.sI a j v) hk (ok_20.up (h.to_20 hk) c)
  by_cases h21 : k = 21
  · subst h21; exact okAt.of_21 (S := S.sI a j v) hk (ok_21.up (h.to_21 hk) c)
  by_cases h22 : k = 22
  · subst h22; exact okAt.of_22 (S := S.sI a j v) hk (ok_22.up (h.to_22 hk) c)
  by_cases h24 : k = 24
  · subst h24; exact okAt.of_24 (S := S.sI a j v) hk (ok_24.up (h.to_24 hk) c)
  exact okAt.no (S := S.sI a j v) k hk h0 h1 h2 h3 h4 h6 h9 h10 h11 h12 h13 h14 h19 h20 h21 h22 h24
def wtB (S : wPS) (R : List Nat) : Prop := ∀ a, a ∈ S.L → a ∉ R → okAt S a
theorem wtB.wk {S : wPS} {R : List Nat} (h : wtB S R) (q : Nat) : wtB S (q :: R) := fun a ha hr => h a ha (fun g => hr (List.mem_cons_of_mem _ g))
theorem wtB.at {S : wPS} {R : List Nat} {a k : Nat} (h : wtB S R) (hA : isA S a k) (hr : a ∉ R) : okAt S a := h a hA.1 hr
/-- a step: rules kept but by R1 (what is being made), of the old things only what W says has changed, but for E -/
def NL (W : List (Nat × Nat)) (S U : wPS) (l : Nat) : Prop := (S.K l = 14 → (S.I l 2).toInt ≤ (U.I l 2).toInt ∧ ((114, S.n l) ∈ W ∨ (U.I l 2 = S.I l 2 ∧ U.F l = S.F l))) ∧ (S.K l = 22 → ∀ k, S.F l 0 = some k → (122, k) ∈ W ∨ U.r l = S.r l)
theorem NL.same {W : List (Nat × Nat)} {S U : wPS} {l : Nat} (hI : U.I l 2 = S.I l 2) (hF : U.F l = S.F l) (hr : U.r l = S.r l) : NL W S U l := ⟨fun _ => ⟨by rw [hI]; exact Int.le_refl _, Or.inr ⟨hI, hF⟩⟩, fun _ _ _ => Or.inr hr⟩
def NN (W : List (Nat × Nat)) (E : List Nat) (S U : wPS) : Prop := ((110, 10) ∈ W ∨ ∀ b, b ∈ U.L → U.K b = 10 → b ∈ S.L) ∧ ∀ l, l ∈ S.L → l ∉ E → NL W S U l
theorem NN.rf {W : List (Nat × Nat)} {E : List Nat} {S : wPS} : NN W E S S := ⟨Or.inr (fun _ h _ => h), fun _ _ _ => NL.same rfl rfl rfl⟩
theorem NN.same {W : List (Nat × Nat)} {E : List Nat} {S U : wPS} (hL : U.L = S.L) (h : ∀ l, l ∈ S.L → l ∉ E → NL W S U l) : NN W E S U := ⟨Or.inr (fun _ h _ => hL ▸ h), h⟩
theorem NL.wd {W V : List (Nat × Nat)} {S U : wPS} {l : Nat} (h : NL V S U l) (hw : ∀ p ∈ V, p ∈ W) : NL W S U l := ⟨fun k => ⟨(h.1 k).1, (h.1 k).2.imp (hw _) id⟩, fun k q e => (h.2 k q e).imp (hw _) id⟩
theorem NN.wd {W V : List (Nat × Nat)} {E : List Nat} {S U : wPS} (h : NN V E S U) (hw : ∀ p ∈ V, p ∈ W) : NN W E S U := ⟨h.1.imp (hw _) id, fun l a b => (h.2 l a b).wd hw⟩
theorem NN.tr {W V : List (Nat × Nat)} {E E' : List Nat} {S T U : wPS} (x1 : ext S T) (x2 : ext T U) (h : NN W E S T) (g : NN V E' T U) (hw : ∀ p ∈ V, p ∈ W) (hE : ∀ x ∈ E', x ∈ E ∨ x ∉ S.L) : NN W E S U := by
  refine ⟨?_, fun l hl hn => ?_⟩
  · rcases h.1 with q | q
    · exact Or.inl q
    · rcases g.1 with r | r
      · exact Or.inl (hw _ r)
      · exact Or.inr (fun b hb hk => q b (r b hb hk) ((x2 b (r b hb hk)).2.1 ▸ hk))
  · have hR : l ∉ E' := fun q => (hE l q).elim hn (fun q => q hl)
    have h9 := h.2 l hl hn
    have g9 := (g.2 l (x1 l hl).1 hR).wd hw
    obtain ⟨-, eK, en, eF⟩ := x1 l hl
    refine ⟨fun hk => ?_, fun hk k e => ?_⟩
    · have a := h9.1 hk
      have b := g9.1 (eK.trans hk)
      rw [en] at b
      exact ⟨Int.le_trans a.1 b.1, a.2.elim Or.inl (fun q => b.2.elim Or.inl (fun r => Or.inr ⟨r.1.trans q.1, r.2.trans q.2⟩))⟩
    · have a := h9.2 hk k e
      have b := g9.2 (eK.trans hk) k (eF 0 k (Or.inr (by decide)) e)
      exact a.elim Or.inl (fun q => b.elim Or.inl (fun r => Or.inr (r.trans q)))
def stp (W : List (Nat × Nat)) (R0 R1 : List Nat) (S U : wPS) : Prop := wtB U R1 ∧ ext S U ∧ rr S U ∧ fr W R0 S U ∧ NN W R0 S U
theorem stp.fR {W : List (Nat × Nat)} {R0 R1 : List Nat} {S U : wPS} (h : stp W R0 R1 S U) : fr W R0 S U := h.2.2.2.1
theorem stp.w {W : List (Nat × Nat)} {R0 R1 : List Nat} {S U : wPS} (h : stp W R0 R1 S U) : wtB U R1 := h.1
theorem stp.x {W : List (Nat × Nat)} {R0 R1 : List Nat} {S U : wPS} (h : stp W R0 R1 S U) : ext S U := h.2.1
theorem stp.rf {W : List (Nat × Nat)} {R E : List Nat} {S : wPS} (h : wtB S R) : stp W E R S S := ⟨h, ext.rf S, rr.rf S, fr.rf S, NN.rf⟩
theorem stp.tr {W V : List (Nat × Nat)} {E E' R1 R2 : List Nat} {S T U : wPS} (h : stp W E R1 S T) (g : stp V E' R2 T U) (hw : ∀ p ∈ V, p ∈ W) (hE : ∀ x ∈ E', x ∈ E ∨ x ∉ S.L) : stp W E R2 S U := by
  obtain ⟨h1, h2, h3, h4, h5⟩ := h
  obtain ⟨g1, g2, g3, g4, g5⟩ := g
  refine ⟨g1, h2.tr g2, h3.tr h2 g3, fun a ha hr => ?_, h5.tr h2 g2 g5 hw hE⟩
  have hR : a ∉ E' := fun q => (hE a q).elim hr (fun q => q ha)
  obtain ⟨a1, a2, a3, a4⟩ := h4 a ha hr
  obtain ⟨b1, b2, b3, b4⟩ := g4 a (h2 a ha).1 hR
  rw [(h2 a ha).2.1] at b1 b2 b3 b4
  exact ⟨fun j hj => ⟨(b1 j (fun q => hj (hw _ q))).1.trans (a1 j hj).1, (b1 j (fun q => hj (hw _ q))).2.trans (a1 j hj).2⟩, fun hj => (b2 (fun q => hj (hw _ q))).trans (a2 hj), fun hj => (b3 (fun q => hj (hw _ q))).trans (a3 hj), a4.elim Or.inl (fun x => b4.elim (fun q => Or.inl ⟨q.1, hw _ q.2⟩) (fun y => Or.inr (y.trans x)))⟩
theorem stp.step {W : List (Nat × Nat)} {E R1 R2 : List Nat} {S U V : wPS} (h : stp W E R1 S U) (hw : wtB V R2) (x : ext U V) (y : rr U V) (f : fr W E U V) (nn : NN W E U V) : stp W E R2 S V :=
  h.tr (V := W) ⟨hw, x, y, f, nn⟩ (fun _ q => q) (fun _ q => Or.inl q)
/-- the same, where a thing that is new since S is free too -/
theorem stp.step1 {W : List (Nat × Nat)} {E R1 R2 : List Nat} {S U V : wPS} {a : Nat} (h : stp W E R1 S U) (hw : wtB V R2) (x : ext U V) (y : rr U V) (f : fr W [a] U V) (nn : NN W [a] U V) (hE : a ∈ E ∨ a ∉ S.L) : stp W E R2 S V :=
  h.tr (V := W) ⟨hw, x, y, f, nn⟩ (fun _ q => q) (fun z q => by rw [List.mem_singleton.mp q]; exact hE)
theorem sI_I {S : wPS} {a j b c : Nat} {v : Int32} (h : ¬ (b = a ∧ c = j)) : (S.sI a j v).I b c = S.I b c := by
  by_cases e : b = a
  · subst e; exact sI_ne (fun q => h ⟨rfl, q⟩)
  · rw [sI_no e]
theorem sJ_J {S : wPS} {a j b c : Nat} {v : Int64} (h : ¬ (b = a ∧ c = j)) : (S.sJ a j v).J b c = S.J b c := by
  show va_up S.J a (va_up (S.J a) j v) b c = _
  unfold va_up
  split
  · rename_i e; subst e
    show (if c = j then v else S.J b c) = S.J b c
    rw [if_neg (fun e2 => h ⟨rfl, e2⟩)]
  · rfl
theorem wtB.sI {S : wPS} {R : List Nat} {a j k : Nat} {v : Int32} (h : wtB S R) (hk : S.K a = k) (c : a ∈ R ∨ cst k j S a v) : wtB (S.sI a j v) R := fun b hb hr => by
  by_cases e : b = a
  · subst e
    rcases c with c | c
    · exact absurd c hr
    · exact okAt.up hk (h b hb hr) c
  · exact okAt.mono (S := S) (ext.sI S a j v) (rr.of (ext.sI S a j v) (fun _ _ => rfl)) (fun i => congrFun (sI_no e) i) rfl rfl hb (h b hb hr)
theorem stp.I {W : List (Nat × Nat)} {R0 R1 : List Nat} {S U : wPS} (h : stp W R0 R1 S U) {a k : Nat} (j : Nat) (v : Int32) (hA : isA U a k) (hw : (k, j) ∈ W) (c : cst k j U a v) (hm : ¬ (k = 14 ∧ j = 2) ∨ ((U.I a 2).toInt ≤ v.toInt ∧ (114, U.n a) ∈ W)) : stp W R0 R1 S (U.sI a j v) :=
  h.step (h.1.sI hA.2.1 (Or.inr c)) (ext.sI _ _ _ _) (rr.of (ext.sI _ _ _ _) (fun _ _ => rfl)) (fun b _ _ => ⟨fun i hi => ⟨sI_I (fun q => hi (by rw [q.1, hA.2.1, q.2]; exact hw)), rfl⟩, fun _ => rfl, fun _ => rfl, Or.inr rfl⟩) (NN.same rfl (fun l _ _ => by
    by_cases e : l = a ∧ 2 = j
    · obtain ⟨rfl, rfl⟩ := e
      refine ⟨fun hk => ?_, fun hk k9 e9 => Or.inr rfl⟩
      rw [sI_eq]
      exact hm.elim (fun q => absurd ⟨hA.2.1.symm.trans hk, rfl⟩ q) (fun q => ⟨q.1, Or.inl q.2⟩)
    · exact NL.same (sI_I e) rfl rfl))
theorem stp.Ir {W : List (Nat × Nat)} {R0 R1 : List Nat} {S U : wPS} (h : stp W R0 R1 S U) {a : Nat} (j : Nat) (v : Int32) (hR : a ∈ R1) (hE : a ∈ R0 ∨ a ∉ S.L) : stp W R0 R1 S (U.sI a j v) :=
  h.step1 (a := a) (h.1.sI rfl (Or.inl hR)) (ext.sI _ _ _ _) (rr.of (ext.sI _ _ _ _) (fun _ _ => rfl)) (fun b _ hb => ⟨fun i _ => ⟨sI_I (fun q => hb (q.1 ▸ List.mem_singleton.mpr rfl)), rfl⟩, fun _ => rfl, fun _ => rfl, Or.inr rfl⟩) (NN.same rfl (fun l _ hn => NL.same (sI_I (fun q => hn (q.1 ▸ List.mem_singleton.mpr rfl))) rfl rfl)) hE
theorem wtB.same {S T : wPS} {R : List Nat} (h : wtB S R) (hL : T.L = S.L) (x : ext S T) (y : rr S T) (hI : T.I = S.I) (hF : T.F = S.F) (hr : T.r = S.r) : wtB T R := fun b hb hr2 => by
  rw [hL] at hb
  exact okAt.mono x y (fun i => by rw [hI]) (by rw [hF]) (by rw [hr]) hb (h b hb hr2)
theorem stp.J {W : List (Nat × Nat)} {R0 R1 : List Nat} {S U : wPS} (h : stp W R0 R1 S U) {a k : Nat} (j : Nat) (v : Int64) (hA : isA U a k) (hw : (k, j) ∈ W) : stp W R0 R1 S (U.sJ a j v) :=
  h.step (h.1.same rfl (ext.sJ _ _ _ _) (rr.of (ext.sJ _ _ _ _) (fun _ _ => rfl)) rfl rfl rfl) (ext.sJ _ _ _ _) (rr.of (ext.sJ _ _ _ _) (fun _ _ => rfl)) (fun b _ _ => ⟨fun i hi => ⟨rfl, sJ_J (fun q => hi (by rw [q.1, hA.2.1, q.2]; exact hw))⟩, fun _ => rfl, fun _ => rfl, Or.inr rfl⟩) (NN.same rfl (fun _ _ _ => NL.same rfl rfl rfl))
theorem stp.Jr {W : List (Nat × Nat)} {R0 R1 : List Nat} {S U : wPS} (h : stp W R0 R1 S U) {a : Nat} (j : Nat) (v : Int64) (hE : a ∈ R0 ∨ a ∉ S.L) : stp W R0 R1 S (U.sJ a j v) :=
  h.step1 (a := a) (h.1.same rfl (ext.sJ _ _ _ _) (rr.of (ext.sJ _ _ _ _) (fun _ _ => rfl)) rfl rfl rfl) (ext.sJ _ _ _ _) (rr.of (ext.sJ _ _ _ _) (fun _ _ => rfl)) (fun b _ hb => ⟨fun i _ => ⟨rfl, sJ_J (fun q => hb (q.1 ▸ List.mem_singleton.mpr rfl))⟩, fun _ => rfl, fun _ => rfl, Or.inr rfl⟩) (NN.same rfl (fun _ _ _ => NL.same rfl rfl rfl)) hE
theorem stp.i {W : List (Nat × Nat)} {R0 R1 : List Nat} {S U : wPS} (h : stp W R0 R1 S U) {a k : Nat} (f : Nat → Int32) (hA : isA U a k) (hw : (k, 100) ∈ W) : stp W R0 R1 S (U.si a f) :=
  h.step (h.1.same rfl (ext.si _ _ _) (rr.of (ext.si _ _ _) (fun _ _ => rfl)) rfl rfl rfl) (ext.si _ _ _) (rr.of (ext.si _ _ _) (fun _ _ => rfl)) (fun b _ _ => ⟨fun _ _ => ⟨rfl, rfl⟩, fun hb => up_nq (fun e => hb (by rw [e, hA.2.1]; exact hw)), fun _ => rfl, Or.inr rfl⟩) (NN.same rfl (fun _ _ _ => NL.same rfl rfl rfl))
theorem sr_eq {S : wPS} {a i : Nat} {v : Option Nat} : (S.sr a (va_up (S.r a) i v)).r a i = v := by
  show va_up S.r a (va_up (S.r a) i v) a i = v
  simp [va_up]
theorem E_push {U : wPS} {arr c k n g0 : Nat} {a : Nat} {v : Int32} (hE : ∀ i : Nat, (i : Int) < (U.I a c).toInt → ∃ g, U.r arr i = some g ∧ isA U g k) (hv : v.toInt ≤ (U.I a c).toInt + 1) (hn : U.r arr n = some g0) (h2 : (n : Int) = (U.I a c).toInt) (hg : isA U g0 k) : ∀ i : Nat, (i : Int) < v.toInt → ∃ g, U.r arr i = some g ∧ isA U g k := fun i hi => by
  by_cases e : i = n
  · subst e; exact ⟨g0, hn, hg⟩
  · exact hE i (by omega)
theorem isA_k {S : wPS} {a k k' : Nat} (h : isA S a k) (g : isA S a k') : k = k' := h.2.1.symm.trans g.2.1
/-- a thing into a row of things of one kind -/
theorem stp.r {W : List (Nat × Nat)} {R0 R1 : List Nat} {S U : wPS} (h : stp W R0 R1 S U) {a k kk i g : Nat} (hA : isA U a k) (hw : (k, 101) ∈ W) (hg : isA U g kk) (hk : (k = 19 ∧ kk = 2) ∨ (k = 20 ∧ kk = 3) ∨ (k = 21 ∧ kk = 7) ∨ (k = 22 ∧ U.F a 0 = some kk) ∨ (k = 24 ∧ kk = 2)) (hR : a ∉ R1) (hx : k = 22 → (122, kk) ∈ W) : stp W R0 R1 S (U.sr a (va_up (U.r a) i (some g))) := by
  have hn : ∀ b, b ≠ a → (U.sr a (va_up (U.r a) i (some g))).r b = U.r b := fun b hb => up_nq hb
  have ha : (U.sr a (va_up (U.r a) i (some g))).r a = va_up (U.r a) i (some g) := up_qq
  have old : ∀ j y, U.r a j = some y → isA U y kk := by
    have ok := h.1 a hA.1 hR
    intro j y e
    rcases hk with ⟨e1, e2⟩ | ⟨e1, e2⟩ | ⟨e1, e2⟩ | ⟨e1, e2⟩ | ⟨e1, e2⟩
    · subst e1; subst e2; exact ok.to_19 hA.2.1 j y e
    · subst e1; subst e2; exact ok.to_20 hA.2.1 j y e
    · subst e1; subst e2; exact ok.to_21 hA.2.1 j y e
    · subst e1; exact ok.to_22 hA.2.1 kk j y e2 e
    · subst e1; subst e2; exact ok.to_24 hA.2.1 j y e
  have new : ∀ j y, va_up (U.r a) i (some g) j = some y → isA U y kk := by
    intro j y e
    unfold va_up at e
    split at e
    · cases e; exact hg
    · exact old j y e
  have y : rr U (U.sr a (va_up (U.r a) i (some g))) := by
    intro b hb j z e
    by_cases eb : b = a
    · subst eb
      rw [ha]
      by_cases ej : j = i
      · subst ej
        exact ⟨g, up_qq, fun k' hk' => by rw [← isA_k (old j z e) hk']; exact hg⟩
      · exact ⟨z, by rw [up_nq ej]; exact e, fun _ q => q⟩
    · exact ⟨z, by rw [hn b eb]; exact e, fun _ q => q⟩
  refine h.step (fun b hb hr => ?_) (ext.sr _ _ _) y (fun b _ _ => ⟨fun _ _ => ⟨rfl, rfl⟩, fun _ => rfl, fun q => hn b (fun e => q (by rw [e, hA.2.1]; exact hw)), Or.inr rfl⟩) (NN.same rfl (fun l _ _ => by
    by_cases e : l = a
    · subst e
      refine ⟨fun _ => ⟨Int.le_refl _, Or.inr ⟨rfl, rfl⟩⟩, fun hk9 k9 e9 => ?_⟩
      have h22 : k = 22 := hA.2.1.symm.trans hk9
      rcases hk with ⟨q, -⟩ | ⟨q, -⟩ | ⟨q, -⟩ | ⟨-, q⟩ | ⟨q, -⟩
      · omega
      · omega
      · omega
      · rw [q] at e9; cases e9
        exact Or.inl (hx h22)
      · omega
    · exact NL.same rfl rfl (hn l e)))
  by_cases eb : b = a
  · subst eb
    rcases hk with ⟨e1, e2⟩ | ⟨e1, e2⟩ | ⟨e1, e2⟩ | ⟨e1, e2⟩ | ⟨e1, e2⟩
    · subst e1; subst e2; exact okAt.of_19 (S := U.sr _ _) hA.2.1 (fun j y e => new j y (by rw [← ha]; exact e))
    · subst e1; subst e2; exact okAt.of_20 (S := U.sr _ _) hA.2.1 (fun j y e => new j y (by rw [← ha]; exact e))
    · subst e1; subst e2; exact okAt.of_21 (S := U.sr _ _) hA.2.1 (fun j y e => new j y (by rw [← ha]; exact e))
    · subst e1; exact okAt.of_22 (S := U.sr _ _) hA.2.1 (fun k' j y e0 e => by
        have e3 : U.F b 0 = some k' := e0
        rw [e2] at e3; cases e3
        exact new j y (by rw [← ha]; exact e))
    · subst e1; subst e2; exact okAt.of_24 (S := U.sr _ _) hA.2.1 (fun j y e => new j y (by rw [← ha]; exact e))
  · exact okAt.mono (S := U) (ext.sr _ _ _) y (fun _ => rfl) rfl (hn b eb) hb (h.1 b hb hr)
theorem stp.F {W : List (Nat × Nat)} {R0 R1 : List Nat} {S U : wPS} (h : stp W R0 R1 S U) {a : Nat} (j : Nat) (q : Nat) (hR : a ∈ R1) (hE : a ∈ R0 ∨ a ∉ S.L) (hn : U.F a j = none) : stp W R0 R1 S (U.sF a j (some q)) := by
  refine h.step1 (a := a) (fun b hb hr => ?_) (ext.sF hn) (rr.of (ext.sF hn) (fun _ _ => rfl)) (fun b _ hb => ⟨fun _ _ => ⟨rfl, rfl⟩, fun _ => rfl, fun _ => rfl, Or.inr (funext (fun i => sF_ne (fun q => hb (List.mem_singleton.mpr q.1))))⟩) (NN.same rfl (fun l _ hn9 => NL.same rfl (funext (fun i => sF_ne (fun q => hn9 (List.mem_singleton.mpr q.1)))) rfl)) hE
  have e : b ≠ a := fun e => hr (e ▸ hR)
  exact okAt.mono (S := U) (ext.sF hn) (rr.of (ext.sF hn) (fun _ _ => rfl)) (fun _ => rfl) (funext (fun i => sF_ne (fun q => e q.1))) rfl hb (h.1 b hb hr)
/-- a list's row anew -/
theorem stp.L {W : List (Nat × Nat)} {R0 R1 : List Nat} {S U : wPS} (h : stp W R0 R1 S U) {a : Nat} (q : Nat) (hA : isA U a 14) (hw : (14, 1) ∈ W) (c : ok_14 (U.sF a 1 (some q)) a) (hx : (114, U.n a) ∈ W) : stp W R0 R1 S (U.sF a 1 (some q)) := by
  refine h.step (fun b hb hr => ?_) (ext.sL hA) (rr.of (ext.sL hA) (fun _ _ => rfl)) (fun b _ _ => ⟨fun _ _ => ⟨rfl, rfl⟩, fun _ => rfl, fun _ => rfl, (Classical.em (b = a)).elim (fun e => Or.inl ⟨by rw [e]; exact hA.2.1, hw⟩) (fun e => Or.inr (funext (fun i => sF_ne (fun q => e q.1))))⟩) (NN.same rfl (fun l _ _ => by
    by_cases e : l = a
    · subst e
      exact ⟨fun _ => ⟨Int.le_refl _, Or.inl hx⟩, fun _ _ _ => Or.inr rfl⟩
    · exact NL.same rfl (funext (fun i => sF_ne (fun q => e q.1))) rfl))
  by_cases e : b = a
  · subst e; exact okAt.of_14 (S := U.sF _ _ _) hA.2.1 c
  · exact okAt.mono (S := U) (ext.sL hA) (rr.of (ext.sL hA) (fun _ _ => rfl)) (fun _ => rfl) (funext (fun i => sF_ne (fun q => e q.1))) rfl hb (h.1 b hb hr)
theorem rr.nw {S : wPS} {q k z : Nat} {f : Nat → Int32} {g : Nat → Option Nat} (hq : q ∉ S.L) : rr S (S.nw q k z f g) := rr.of (ext.nw hq) (fun _ ha => up_nq (fun e => hq (e ▸ ha)))
theorem fr.nw {W : List (Nat × Nat)} {R : List Nat} {S : wPS} {q k z : Nat} {f : Nat → Int32} {g : Nat → Option Nat} (hq : q ∉ S.L) : fr W R S (S.nw q k z f g) := fun a ha _ => by
  have e : a ≠ q := fun e => hq (e ▸ ha)
  exact ⟨fun j _ => ⟨congrFun (up_nq e) j, congrFun (up_nq e) j⟩, fun _ => up_nq e, fun _ => up_nq e, Or.inr (up_nq e)⟩
theorem wtB.nw {S : wPS} {R : List Nat} {q k z : Nat} {f : Nat → Int32} {g : Nat → Option Nat} (h : wtB S R) (hq : q ∉ S.L) : wtB (S.nw q k z f g) (q :: R) := fun b hb hr => by
  have e : b ≠ q := fun e => hr (e ▸ List.mem_cons_self)
  have hb2 : b ∈ S.L := (List.mem_append.mp hb).elim id (fun z => absurd (List.mem_singleton.mp z) e)
  exact okAt.mono (ext.nw hq) (rr.nw hq) (fun j => congrFun (up_nq e) j) (up_nq e) (up_nq e) hb2 (h b hb2 (fun z => hr (List.mem_cons_of_mem _ z)))
theorem stp.nw {W : List (Nat × Nat)} {R0 R1 : List Nat} {S U : wPS} (h : stp W R0 R1 S U) {q k z : Nat} {f : Nat → Int32} {g : Nat → Option Nat} (hq : q ∉ U.L) (hx : k ≠ 10 ∨ (110, 10) ∈ W) : stp W R0 (q :: R1) S (U.nw q k z f g) :=
  h.step (h.1.nw hq) (ext.nw hq) (rr.nw hq) (fr.nw hq) ⟨hx.symm.imp id (fun hk b hb e => (List.mem_append.mp hb).elim id (fun hz => absurd ((show (U.nw q k z f g).K b = k by rw [List.mem_singleton.mp hz]; exact up_qq).symm.trans e) hk)), fun l hl _ => NL.same (nw_Io hq hl) (funext (fun j => nw_Fo hq hl)) (up_nq (fun e => hq (e ▸ hl)))⟩
theorem stp.un {W : List (Nat × Nat)} {R0 R1 : List Nat} {S U : wPS} {a : Nat} (h : stp W R0 (a :: R1) S U) (ok : okAt U a) : stp W R0 R1 S U := by
  refine ⟨fun b hb hr => ?_, h.2.1, h.2.2.1, h.2.2.2⟩
  by_cases e : b = a
  · subst e; exact ok
  · exact h.1 b hb (fun z => (List.mem_cons.mp z).elim e hr)
/-- a new row: nothing is asked of it -/
theorem stp.nwA {W : List (Nat × Nat)} {R0 R1 : List Nat} {S U : wPS} (h : stp W R0 R1 S U) {q k z : Nat} {f : Nat → Int32} (hq : q ∉ U.L) (hk : k = 15 ∨ k = 16 ∨ k = 17 ∨ k = 18 ∨ k = 19 ∨ k = 20 ∨ k = 21 ∨ k = 22 ∨ k = 23 ∨ k = 24 ∨ k = 25 ∨ k = 26 ∨ k = 27 ∨ k = 28 ∨ k = 29 ∨ k = 30 ∨ k = 31 ∨ k = 34 ∨ k = 35 ∨ k = 36 ∨ k = 37 ∨ k = 38) : stp W R0 R1 S (U.nw q k z f (fun _ => none)) := by
  refine (h.nw hq (Or.inl (by rcases hk with e | e | e | e | e | e | e | e | e | e | e | e | e | e | e | e | e | e | e | e | e | e <;> subst e <;> decide))).un ?_
  have hK : (U.nw q k z f (fun _ => none)).K q = k := up_qq
  have hr : (U.nw q k z f (fun _ => none)).r q = fun _ => none := up_qq
  rcases hk with e | e | e | e | e | e | e | e | e | e | e | e | e | e | e | e | e | e | e | e | e | e <;> subst e
  · exact okAt.no 15 hK (by decide) (by decide) (by decide) (by decide) (by decide) (by decide) (by decide) (by decide) (by decide) (by decide) (by decide) (by decide) (by decide) (by decide) (by decide) (by decide) (by decide)
  · exact okAt.no 16 hK (by decide) (by decide) (by decide) (by decide) (by decide) (by decide) (by decide) (by decide) (by decide) (by decide) (by decide) (by decide) (by decide) (by decide) (by decide) (by decide) (by decide)
  · exact okAt.no 17 hK (by decide) (by decide) (by decide) (by decide) (by decide) (by decide) (by decide) (by decide) (by decide) (by decide) (by decide) (by decide) (by decide) (by decide) (by decide) (by decide) (by decide)
  · exact okAt.no 18 hK (by decide) (by decide) (by decide) (by decide) (by decide) (by decide) (by decide) (by decide) (by decide) (by decide) (by decide) (by decide) (by decide) (by decide) (by decide) (by decide) (by decide)
  · exact okAt.of_19 hK (fun i g e => by rw [hr] at e; cases e)
  · exact okAt.of_20 hK (fun i g e => by rw [hr] at e; cases e)
  · exact okAt.of_21 hK (fun i g e => by rw [hr] at e; cases e)
  · exact okAt.of_22 hK (fun k i g _ e => by rw [hr] at e; cases e)
  · exact okAt.no 23 hK (by decide) (by decide) (by decide) (by decide) (by decide) (by decide) (by decide) (by decide) (by decide) (by decide) (by decide) (by decide) (by decide) (by decide) (by decide) (by decide) (by decide)
  · exact okAt.of_24 hK (fun i g e => by rw [hr] at e; cases e)
  · exact okAt.no 25 hK (by decide) (by decide) (by decide) (by decide) (by decide) (by decide) (by decide) (by decide) (by decide) (by decide) (by decide) (by decide) (by decide) (by decide) (by decide) (by decide) (by decide)
  · exact okAt.no 26 hK (by decide) (by decide) (by decide) (by decide) (by decide) (by decide) (by decide) (by decide) (by decide) (by decide) (by decide) (by decide) (by decide) (by decide) (by decide) (by decide) (by decide)
  · exact okAt.no 27 hK (by decide) (by decide) (by decide) (by decide) (by decide) (by decide) (by decide) (by decide) (by decide) (by decide) (by decide) (by decide) (by decide) (by decide) (by decide) (by decide) (by decide)
  · exact okAt.no 28 hK (by decide) (by decide) (by decide) (by decide) (by decide) (by decide) (by decide) (by decide) (by decide) (by decide) (by decide) (by decide) (by decide) (by decide) (by decide) (by decide) (by decide)
  · exact okAt.no 29 hK (by decide) (by decide) (by decide) (by decide) (by decide) (by decide) (by decide) (by decide) (by decide) (by decide) (by decide) (by decide) (by decide) (by decide) (by decide) (by decide) (by decide)
  · exact okAt.no 30 hK (by decide) (by decide) (by decide) (by decide) (by decide) (by decide) (by decide) (by decide) (by decide) (by decide) (by decide) (by decide) (by decide) (by decide) (by decide) (by decide) (by decide)
  · exact okAt.no 31 hK (by decide) (by decide) (by decide) (by decide) (by decide) (by decide) (by decide) (by decide) (by decide) (by decide) (by decide) (by decide) (by decide) (by decide) (by decide) (by decide) (by decide)
  · exact okAt.no 34 hK (by decide) (by decide) (by decide) (by decide) (by decide) (by decide) (by decide) (by decide) (by decide) (by decide) (by decide) (by decide) (by decide) (by decide) (by decide) (by decide) (by decide)
  · exact okAt.no 35 hK (by decide) (by decide) (by decide) (by decide) (by decide) (by decide) (by decide) (by decide) (by decide) (by decide) (by decide) (by decide) (by decide) (by decide) (by decide) (by decide) (by decide)
  · exact okAt.no 36 hK (by decide) (by decide) (by decide) (by decide) (by decide) (by decide) (by decide) (by decide) (by decide) (by decide) (by decide) (by decide) (by decide) (by decide) (by decide) (by decide) (by decide)
  · exact okAt.no 37 hK (by decide) (by decide) (by decide) (by decide) (by decide) (by decide) (by decide) (by decide) (by decide) (by decide) (by decide) (by decide) (by decide) (by decide) (by decide) (by decide) (by decide)
  · exact okAt.no 38 hK (by decide) (by decide) (by decide) (by decide) (by decide) (by decide) (by decide) (by decide) (by decide) (by decide) (by decide) (by decide) (by decide) (by decide) (by decide) (by decide) (by decide)
/-- what stands in a slot that no entry shows -/
theorem gh_PL {cy : Nat → ClassId} {X : va_W} {S : wPS} {a k j : Nat} {v : Option Nat} (hk : S.K a = k) (hj : (k = 14 ∧ j = 7) ∨ (k = 12 ∧ j = 77) ∨ (k = 22 ∧ j = 0)) : X ++ PL cy S = X ++ PL cy (S.sF a j v) := by
  refine congrArg (fun l => X ++ l) (va_pl_congr (fun b => ?_))
  by_cases hb : b = a
  · subst hb
    show kE cy (S.K b) (S.I b) (S.J b) (S.F b) (S.n b) (S.i b) (S.r b) = kE cy (S.K b) (S.I b) (S.J b) (va_up S.F b (va_up (S.F b) j v) b) (S.n b) (S.i b) (S.r b)
    rw [up_qq, hk]
    rcases hj with ⟨rfl, rfl⟩ | ⟨rfl, rfl⟩ | ⟨rfl, rfl⟩ <;> rfl
  · show kE cy (S.K b) (S.I b) (S.J b) (S.F b) (S.n b) (S.i b) (S.r b) = kE cy (S.K b) (S.I b) (S.J b) (va_up S.F a (va_up (S.F a) j v) b) (S.n b) (S.i b) (S.r b)
    rw [up_nq hb]
/-- a new row of things, filled as a whole -/
theorem stp.rc {W : List (Nat × Nat)} {R0 R1 : List Nat} {S U : wPS} (h : stp W R0 R1 S U) {a kk : Nat} {f : Nat → Option Nat} (hA : isA U a 22) (h0 : U.F a 0 = some kk) (ho : ∀ i, U.r a i = none) (hf : ∀ i g, f i = some g → isA U g kk) (hE : a ∉ S.L) : stp W R0 R1 S (U.sr a f) := by
  have hn : ∀ b, b ≠ a → (U.sr a f).r b = U.r b := fun b hb => up_nq hb
  have ha : (U.sr a f).r a = f := up_qq
  have y : rr U (U.sr a f) := by
    intro b hb j z e
    by_cases eb : b = a
    · subst eb; rw [ho j] at e; cases e
    · exact ⟨z, by rw [hn b eb]; exact e, fun _ q => q⟩
  refine h.step1 (a := a) (fun b hb hr => ?_) (ext.sr _ _ _) y (fun b _ hb => ⟨fun _ _ => ⟨rfl, rfl⟩, fun _ => rfl, fun _ => hn b (fun e => hb (e ▸ List.mem_singleton.mpr rfl)), Or.inr rfl⟩) (NN.same rfl (fun l _ hn9 => NL.same rfl rfl (hn l (fun e => hn9 (e ▸ List.mem_singleton.mpr rfl))))) (Or.inr hE)
  by_cases eb : b = a
  · subst eb
    exact okAt.of_22 (S := U.sr _ _) hA.2.1 (fun k' j y e0 e => by
      have e3 : U.F b 0 = some k' := e0
      rw [h0] at e3; cases e3
      exact hf j y (by rw [← ha]; exact e))
  · exact okAt.mono (S := U) (ext.sr _ _ _) y (fun _ => rfl) rfl (hn b eb) hb (h.1 b hb hr)
/-- a wider frame -/
theorem stp.wd {W V : List (Nat × Nat)} {R0 R1 : List Nat} {S U : wPS} (h : stp V R0 R1 S U) (hw : ∀ p ∈ V, p ∈ W) : stp W R0 R1 S U := ⟨h.1, h.2.1, h.2.2.1, fun a ha hr => ⟨fun j hj => (h.fR a ha hr).1 j (fun q => hj (hw _ q)), fun hj => (h.fR a ha hr).2.1 (fun q => hj (hw _ q)), fun hj => (h.fR a ha hr).2.2.1 (fun q => hj (hw _ q)), (h.fR a ha hr).2.2.2.elim (fun q => Or.inl ⟨q.1, hw _ q.2⟩) Or.inr⟩, h.2.2.2.2.wd hw⟩
theorem cls_at {D : va_G} {tys : List (ClassId × FieldType)} {s : State} {c c' : ClassId} {ty : FieldType} (h : va_K D vwCl tys s) (i : Nat) (hi : tys[i]? = some (c, ty)) (h2 : va_K D vwCl (tys ++ [(c', ty)]) s) : c' = c := by
  have a := (h.2 i _ hi).2
  have b := (h2.2 tys.length (c', ty) (by rw [List.getElem?_append_right (Nat.le_refl _)]; simp)).2
  cases ty with
  | object C =>
    obtain ⟨_, _, _, _, _, a5⟩ := a
    obtain ⟨_, _, _, _, _, b5⟩ := b
    exact Option.some.inj (b5.symm.trans a5)
  | _ => exact Option.some.inj (b.symm.trans a)
theorem cls_byte {D : va_G} {cy : Nat → ClassId} {s : State} {c : ClassId} (h : va_K D vwCl (tyL cy) s) (h2 : va_K D vwCl (tyL cy ++ [(c, .byte)]) s) : c = cy 0 := cls_at h 0 rfl h2
theorem cls_char {D : va_G} {cy : Nat → ClassId} {s : State} {c : ClassId} (h : va_K D vwCl (tyL cy) s) (h2 : va_K D vwCl (tyL cy ++ [(c, .char)]) s) : c = cy 1 := cls_at h 1 rfl h2
theorem cls_int {D : va_G} {cy : Nat → ClassId} {s : State} {c : ClassId} (h : va_K D vwCl (tyL cy) s) (h2 : va_K D vwCl (tyL cy ++ [(c, .int)]) s) : c = cy 2 := cls_at h 2 rfl h2
theorem cls_boolean {D : va_G} {cy : Nat → ClassId} {s : State} {c : ClassId} (h : va_K D vwCl (tyL cy) s) (h2 : va_K D vwCl (tyL cy ++ [(c, .boolean)]) s) : c = cy 3 := cls_at h 3 rfl h2
theorem cls_19 {D : va_G} {cy : Nat → ClassId} {s : State} {c : ClassId} (h : va_K D vwCl (tyL cy) s) (h2 : va_K D vwCl (tyL cy ++ [(c, (.object "Hobhouse$Gear"))]) s) : c = cy 4 := cls_at h 4 rfl h2
theorem cls_20 {D : va_G} {cy : Nat → ClassId} {s : State} {c : ClassId} (h : va_K D vwCl (tyL cy) s) (h2 : va_K D vwCl (tyL cy ++ [(c, (.object "Hobhouse$Hob"))]) s) : c = cy 5 := cls_at h 5 rfl h2
theorem cls_21 {D : va_G} {cy : Nat → ClassId} {s : State} {c : ClassId} (h : va_K D vwCl (tyL cy) s) (h2 : va_K D vwCl (tyL cy ++ [(c, (.object "Hobhouse$Station"))]) s) : c = cy 6 := cls_at h 6 rfl h2
theorem cls_22 {D : va_G} {cy : Nat → ClassId} {s : State} {c : ClassId} (h : va_K D vwCl (tyL cy) s) (h2 : va_K D vwCl (tyL cy ++ [(c, (.object "java/lang/Object"))]) s) : c = cy 7 := cls_at h 7 rfl h2
