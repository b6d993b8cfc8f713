/-- every listed gear's mate is none or a listed one -/
def MV (S : wPS) (o : Nat) : Prop := ∀ i : Nat, (i : Int) < (S.I (S.f o 0) 2).toInt → ∀ g, S.r (S.f (S.f o 0) 1) i = some g → -1 ≤ (S.I g 16).toInt ∧ (S.I g 16).toInt < (S.I (S.f o 0) 2).toInt
theorem md_fix {W : List (Nat × Nat)} {S U : wPS} {o : Nat} (h : stp W [] [] S U) (hW : wtB S []) (hA : isA S o 12) (h1 : (14, 1) ∉ W) (h2 : (14, 2) ∉ W) : U.f o 0 = S.f o 0 ∧ U.I (S.f o 0) 2 = S.I (S.f o 0) 2 ∧ U.F (S.f o 0) = S.F (S.f o 0) ∧ isA S (S.f o 0) 14 := by
  have ok := (hW.at hA List.not_mem_nil).to_12 hA.2.1
  have f0 := h.x.F hA (by decide) ok.F0.1
  have hl := ok.F0.2.1
  have fr := h.2.2.2 (S.f o 0) hl.1 List.not_mem_nil
  exact ⟨f_of f0, (fr.1 2 (by rw [hl.2.1]; exact h2)).1, fr.2.2.2.resolve_left (fun q => h1 q.2), hl⟩
theorem MV.keep {W : List (Nat × Nat)} {S U : wPS} {o : Nat} (h : stp W [] [] S U) (hW : wtB S []) (hA : isA S o 12) (h1 : (14, 1) ∉ W) (h2 : (14, 2) ∉ W) (h3 : (22, 101) ∉ W) (h4 : (10, 16) ∉ W) (m : MV S o) : MV U o := by
  obtain ⟨e0, e1, e2, hl⟩ := md_fix h hW hA h1 h2
  have ok := (hW.at hA List.not_mem_nil).to_12 hA.2.1
  intro i hi g hg
  rw [e0, e1] at hi
  have e3 : U.f (S.f o 0) 1 = S.f (S.f o 0) 1 := congrArg (fun z => (z 1).getD 0) e2
  rw [e0, e3] at hg
  rcases (hW.at hl List.not_mem_nil).to_14 hl.2.1 with ⟨_, z⟩ | ⟨a1, a2, a3, a4, a5, a6, a7⟩
  · omega
  · have er : U.r (S.f (S.f o 0) 1) = S.r (S.f (S.f o 0) 1) := (h.2.2.2 _ a2.1 List.not_mem_nil).2.2.1 (by rw [a2.2.1]; exact h3)
    rw [er] at hg
    obtain ⟨g', eg, hg'⟩ := a7 i hi
    rw [hg] at eg
    cases eg
    rw [show S.n (S.f o 0) = 10 from ok.F0.2.2] at hg'
    have ei : U.I g 16 = S.I g 16 := ((h.2.2.2 g hg'.1 List.not_mem_nil).1 16 (by rw [hg'.2.1]; exact h4)).1
    rw [e0, e1, ei]
    exact m i hi g hg
/-- what the model's six rows of gear numbers hold: 0 or a listed one -/
def IV (S : wPS) (o : Nat) : Prop := ∀ j, 9 ≤ j → j ≤ 14 → ∀ i : Nat, 0 ≤ (S.i (S.f o j) i).toInt ∧ ((S.i (S.f o j) i).toInt = 0 ∨ (S.i (S.f o j) i).toInt < (S.I (S.f o 0) 2).toInt)
theorem iv_row {S : wPS} {o j : Nat} (ok : ok_12 S o) (h1 : 9 ≤ j) (h2 : j ≤ 14) : S.F o j = some (S.f o j) ∧ isA S (S.f o j) 23 := by
  rcases (show j = 9 ∨ j = 10 ∨ j = 11 ∨ j = 12 ∨ j = 13 ∨ j = 14 by omega) with rfl | rfl | rfl | rfl | rfl | rfl
  · exact ⟨ok.F9.1, ok.F9.2.1⟩
  · exact ⟨ok.F10.1, ok.F10.2.1⟩
  · exact ⟨ok.F11.1, ok.F11.2.1⟩
  · exact ⟨ok.F12.1, ok.F12.2.1⟩
  · exact ⟨ok.F13.1, ok.F13.2.1⟩
  · exact ⟨ok.F14.1, ok.F14.2.1⟩
theorem IV.keep {W : List (Nat × Nat)} {S U : wPS} {o : Nat} (h : stp W [] [] S U) (hW : wtB S []) (hA : isA S o 12) (h1 : (14, 1) ∉ W) (h2 : (14, 2) ∉ W) (h3 : (23, 100) ∉ W) (m : IV S o) : IV U o := by
  obtain ⟨e0, e1, -, -⟩ := md_fix h hW hA h1 h2
  have ok := (hW.at hA List.not_mem_nil).to_12 hA.2.1
  intro j j1 j2 i
  obtain ⟨r1, r2⟩ := iv_row ok j1 j2
  have ej : U.f o j = S.f o j := f_of (h.x.F hA (by decide) r1)
  have ei : U.i (S.f o j) = S.i (S.f o j) := (h.2.2.2 _ r2.1 List.not_mem_nil).2.1 (by rw [r2.2.1]; exact h3)
  rw [ej, ei, e0, e1]
  exact m j j1 j2 i
