def f_X9_commonMultiple (x1 : Int32) (x2 : Int32) : Int32 := (x1 / (f_X9_commonDivisor x1 x2)) * x2
set_option maxHeartbeats 4000000 in
set_option maxRecDepth 100000 in
theorem c_X9_commonMultiple (l : Launch) {D : va_G} {cy : Nat → ClassId} {X : va_W} (S : wPS) (sz : Nat) (x1 : Int32) (x2 : Int32) (hcd : ¬ f_X9_commonDivisor x1 x2 = 0) : Met l yX9_commonMultiple wsX9_commonMultiple ({ frames := 2, cells := 0, slots := 0, locals := 38 }) (va_Pc [.int x1, .int x2] (fun U => U.heap.size = sz ∧ WD D cy X (fun _ => True) S U ∧ NW U)) (va_Qi (fun r (_ : Unit) => r = f_X9_commonMultiple x1 x2) (fun _ t => WD D cy X (va_A (X ++ PL cy S) sz) S t) (va_A (X ++ PL cy S) sz)) 0 0 (va_A (X ++ PL cy S) sz) := by
  refine Met.ofW (cc := cX9_commonMultiple) (maxL := 2) (ret := (some .int)) (by decide) rfl ?_
  intro p e s m args below meth c s₁ B hml hv
  obtain ⟨rfl, hsz, ⟨hP, hK, hD0⟩, hN⟩ := hv
  have hx := B.exec
  have hb := B.bytes
  have hr := B.returns
  have hts := atoms_spec (ws := wsX9_commonMultiple) B.pre
  have hown : s.vm.findClass RX9 = some m.cls := findClass_of_methodNamed B.named
  have hlocks := B.notSynchronized
  subst hsz
  have hD := hD0.self (sz := s.heap.size)
  generalize hAe : va_A (X ++ PL cy S) s.heap.size = A at hD ⊢
  have hA : ∀ q : Nat, s.heap.size ≤ q → A q := fun q h => by rw [← hAe]; exact Or.inr h
  have hS : va_S A s.heap s.heap [] := va_S.rf
  have hl := lv_entry ([.int x1, .int x2]) (n := 2) (Nat.le_of_ble_eq_true rfl)
  rw [lg_entry_eq]
  generalize (lg_sl ([.int x1, .int x2]) ++ List.replicate (2 - (lg_sl ([.int x1, .int x2])).length) Slot.unset).toArray = ls at hl ⊢
  have hl : lv_has ls 2 [(0, .int x1), (1, .int x2)] := hl
  refine lv_iload_n hx hb dX9_commonMultiple_0 rfl (lv_at hl 0 rfl) ?_
  refine lv_iload_n hx hb dX9_commonMultiple_1 rfl (lv_at hl 0 rfl) ?_
  refine lv_iload_n hx hb dX9_commonMultiple_2 rfl (lv_at hl 1 rfl) ?_
  have hFc := free_all hD hS hA
  refine va_calli (va_runS (As := [.int x1, .int x2]) (rest := [.int x1]) ⟨hx, hb, hml, hown, hts⟩ (c_X9_commonDivisor l (cy := cy) (X := X) (D := D) S _ x1 x2) (cwS 2 hts gX9_commonMultiple_X9_commonDivisor rfl rfl rfl (by decide +kernel) ⟨Nat.le_of_ble_eq_true rfl, Nat.le_of_ble_eq_true rfl⟩) ⟨fun a U g mk q => ⟨q.1, q.2.1, q.2.2.1.calling, NW.same (u := U) (U := U.calling g mk a) rfl q.2.2.2⟩, fun U hU hW => ⟨rfl, by rw [hU], wd_pre hP hK hD hU hW, hN.warm hW⟩⟩ rfl rfl hl.1 rfl (lv_room (Nat.le_of_ble_eq_true rfl)) dX9_commonMultiple_3 ⟨(Nat.zero_le _), (Nat.zero_le _)⟩) hS (fun q _ h => hFc q h) hFc (fun r1 u t H1 locs ht hvm hw hB hz1 hk1 hS => ?_)
  obtain ⟨hP, hD⟩ := wd_post hFc ht hB
  generalize H1 = H at hP hS ⊢
  obtain rfl : r1 = f_X9_commonDivisor x1 x2 := hw
  refine lv_idiv hx hb dX9_commonMultiple_6 (hcd) ?_
  refine lv_iload_n hx hb dX9_commonMultiple_7 rfl (lv_at hl 1 rfl) ?_
  refine lv_imul hx hb dX9_commonMultiple_8 ?_
  exact W.iret (v := (x1 / (f_X9_commonDivisor x1 x2)) * x2) hx hb hr (fun t ht hW => ⟨⟨(x1 / (f_X9_commonDivisor x1 x2)) * x2, (), rfl, (by show ((x1 / (f_X9_commonDivisor x1 x2)) * x2) = f_X9_commonMultiple x1 x2; unfold f_X9_commonMultiple; rfl), wd_end hP hK hD ht hW.alike⟩, hS.F ht⟩) hS.2.2 dX9_commonMultiple_9 hlocks
