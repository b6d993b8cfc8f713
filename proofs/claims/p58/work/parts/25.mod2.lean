def f_X12_divisor_e0 (x1 : Int32) (x2 : Int32) : Int32 := if x2 = (0 : Int32) then x1 else 0
theorem hd_X12_divisor : yX12_divisor.cls = RX12 ∧ yX12_divisor.cls ≠ "java/lang/invoke/MethodHandle" ∧ yX12_divisor.cls ≠ "java/lang/invoke/VarHandle" ∧ (parseMethodDescriptor yX12_divisor.desc).map (fun d => d.parameters.length) = some 2 := by decide +kernel
set_option maxHeartbeats 4000000 in
set_option maxRecDepth 100000 in
theorem c_X12_divisor_e0 (l : Launch) {D : va_G} {cy : Nat → ClassId} {X : va_W} (S : wPS) (sz : Nat) (x1 : Int32) (x2 : Int32) (h1 : 0 ≤ x1.toInt ∧ x1.toInt ≤ 200) (h3 : 1 ≤ x1.toInt ∨ 1 ≤ x2.toInt) (h2 : 0 ≤ x2.toInt ∧ x2.toInt < 1) (h4 : x2.toInt ≤ 200) : Met l yX12_divisor wsX12_divisor ({ frames := 0, cells := 0, slots := 0, locals := 0 }) (va_Pc [.int x1, .int x2] (fun U => U.heap.size = sz ∧ WD D cy X (fun _ => True) S U ∧ NW U)) (va_Qi (fun r (_ : Unit) => r = f_X12_divisor_e0 x1 x2 ∧ 1 ≤ r.toInt ∧ r.toInt ≤ 200) (fun _ t => WD D cy X (va_A (X ++ PL cy S) sz) S t) (va_A (X ++ PL cy S) sz)) 0 0 (va_A (X ++ PL cy S) sz) := by
  refine Met.ofW (cc := cX12_divisor) (maxL := 2) (ret := (some .int)) (by decide) rfl ?_
  intro p e s m args below meth c s₁ B hml hv
  obtain ⟨rfl, hsz, ⟨hP, hK, hD0⟩, hN⟩ := hv
  have hx := B.exec
  have hb := B.bytes
  have hr := B.returns
  have hts := atoms_spec (ws := wsX12_divisor) B.pre
  have hown : s.vm.findClass RX12 = some m.cls := findClass_of_methodNamed (x := yX12_divisor) B.named
  have hlocks := B.notSynchronized
  subst hsz
  have hD := hD0.self (sz := s.heap.size)
  generalize hAe : va_A (X ++ PL cy S) s.heap.size = A at hD ⊢
  have hA : ∀ q : Nat, s.heap.size ≤ q → A q := fun q h => by rw [← hAe]; exact Or.inr h
  have hS : va_S A s.heap s.heap [] := va_S.rf
  have hl := lv_entry ([.int x1, .int x2]) (n := 2) (Nat.le_of_ble_eq_true rfl)
  rw [lg_entry_eq]
  generalize (lg_sl ([.int x1, .int x2]) ++ List.replicate (2 - (lg_sl ([.int x1, .int x2])).length) Slot.unset).toArray = ls at hl ⊢
  have hl : lv_has ls 2 [(0, .int x1), (1, .int x2)] := hl
  refine lv_iload_n hx hb dX12_divisor_0 rfl (lv_at hl 1 rfl) ?_
  refine lv_if_ne (tgt := 8) hx hb dX12_divisor_1 (by decide) (fun c1 => ?_) (fun c1 => ?_)
  · have c1i : ¬ x2.toInt = 0 := neq_v rfl rfl c1
    exact False.elim (by omega)
  · have c1i : x2.toInt = 0 := eq_v rfl rfl c1
    refine lv_iload_n hx hb dX12_divisor_4 rfl (lv_at hl 0 rfl) ?_
    refine lv_goto (tgt := 15) hx hb dX12_divisor_5 (by decide) ?_
    refine W.widen (k := 0) (n := 0) (Nat.le_of_ble_eq_true rfl) (Nat.le_of_ble_eq_true rfl) ?_
    exact W.iret (v := x1) hx hb hr (fun t ht hW9 => ⟨⟨x1, (), rfl, ⟨(by show x1 = f_X12_divisor_e0 x1 x2; unfold f_X12_divisor_e0; rw [if_pos c1]), (by omega)⟩, wd_end hP hK hD ht hW9.alike⟩, hS.F ht⟩) hS.2.2 dX12_divisor_15 hlocks
def f_X12_divisor_o1 (x1 : Int32) (x2 : Int32) : Int32 := if x2 = (0 : Int32) then x1 else f_X12_divisor_e0 x2 (x1 - x1 / x2 * x2)
set_option maxHeartbeats 4000000 in
set_option maxRecDepth 100000 in
theorem c_X12_divisor_o1 (l : Launch) {D : va_G} {cy : Nat → ClassId} {X : va_W} (S : wPS) (sz : Nat) (x1 : Int32) (x2 : Int32) (h1 : 0 ≤ x1.toInt ∧ x1.toInt ≤ 200) (h3 : 1 ≤ x1.toInt ∨ 1 ≤ x2.toInt) (h2 : x1.toInt < 2 ∧ 0 ≤ x2.toInt ∧ x2.toInt < x1.toInt) : Met l yX12_divisor wsX12_divisor ({ frames := 1, cells := 0, slots := 0, locals := 21 }) (va_Pc [.int x1, .int x2] (fun U => U.heap.size = sz ∧ WD D cy X (fun _ => True) S U ∧ NW U)) (va_Qi (fun r (_ : Unit) => r = f_X12_divisor_o1 x1 x2 ∧ 1 ≤ r.toInt ∧ r.toInt ≤ 200) (fun _ t => WD D cy X (va_A (X ++ PL cy S) sz) S t) (va_A (X ++ PL cy S) sz)) 0 0 (va_A (X ++ PL cy S) sz) := by
  refine Met.ofW (cc := cX12_divisor) (maxL := 2) (ret := (some .int)) (by decide) rfl ?_
  intro p e s m args below meth c s₁ B hml hv
  obtain ⟨rfl, hsz, ⟨hP, hK, hD0⟩, hN⟩ := hv
  have hx := B.exec
  have hb := B.bytes
  have hr := B.returns
  have hts := atoms_spec (ws := wsX12_divisor) B.pre
  have hown : s.vm.findClass RX12 = some m.cls := findClass_of_methodNamed (x := yX12_divisor) B.named
  have hlocks := B.notSynchronized
  subst hsz
  have hD := hD0.self (sz := s.heap.size)
  generalize hAe : va_A (X ++ PL cy S) s.heap.size = A at hD ⊢
  have hA : ∀ q : Nat, s.heap.size ≤ q → A q := fun q h => by rw [← hAe]; exact Or.inr h
  have hS : va_S A s.heap s.heap [] := va_S.rf
  have hl := lv_entry ([.int x1, .int x2]) (n := 2) (Nat.le_of_ble_eq_true rfl)
  rw [lg_entry_eq]
  generalize (lg_sl ([.int x1, .int x2]) ++ List.replicate (2 - (lg_sl ([.int x1, .int x2])).length) Slot.unset).toArray = ls at hl ⊢
  have hl : lv_has ls 2 [(0, .int x1), (1, .int x2)] := hl
  refine lv_iload_n hx hb dX12_divisor_0 rfl (lv_at hl 1 rfl) ?_
  refine lv_if_ne (tgt := 8) hx hb dX12_divisor_1 (by decide) (fun c1 => ?_) (fun c1 => ?_)
  · have c1i : ¬ x2.toInt = 0 := neq_v rfl rfl c1
    refine lv_iload_n hx hb dX12_divisor_8 rfl (lv_at hl 1 rfl) ?_
    refine lv_iload_n hx hb dX12_divisor_9 rfl (lv_at hl 0 rfl) ?_
    refine lv_iload_n hx hb dX12_divisor_10 rfl (lv_at hl 1 rfl) ?_
    refine lv_irem hx hb dX12_divisor_11 (nz_i (by omega)) ?_
    have hh9 := half_rem (x := x1) (y := x2) (m := 1) (by omega) (by omega) (by omega)
    have i2 := rem_rng (x := x1) (y := x2) (by omega) (by omega)
    have hFc := free_all hD hS hA
    refine va_calli (va_runS (As := [.int x2, .int (x1 - x1 / x2 * x2)]) (rest := []) ⟨hx, hb, hml, hown, hts⟩ (c_X12_divisor_e0 l (cy := cy) (X := X) (D := D) S _ x2 (x1 - x1 / x2 * x2) (by omega) (by omega) (by omega) (by omega)) (cwS 2 hts gX12_divisor_X12_divisor rfl rfl rfl hd_X12_divisor ⟨Nat.le_of_ble_eq_true rfl, Nat.le_of_ble_eq_true rfl⟩) (pS hP hK hD hN) rfl rfl hl.1 rfl (lv_room (Nat.le_of_ble_eq_true rfl)) dX12_divisor_12 ⟨(Nat.zero_le _), (Nat.zero_le _)⟩) hS (fun q _ h => hFc q h) hFc (fun r3 u t H1 locs ht hvm hw hB hz1 hk1 hS => ?_)
    obtain ⟨c4, y5⟩ := hw
    obtain ⟨hP, hD⟩ := wd_post hFc ht hB
    generalize H1 = H at hP hS ⊢
    obtain rfl : f_X12_divisor_e0 x2 (x1 - x1 / x2 * x2) = r3 := c4.symm
    refine W.widen (k := 0) (n := 0) (Nat.le_of_ble_eq_true rfl) (Nat.le_of_ble_eq_true rfl) ?_
    exact W.iret (v := f_X12_divisor_e0 x2 (x1 - x1 / x2 * x2)) hx hb hr (fun t ht hW9 => ⟨⟨f_X12_divisor_e0 x2 (x1 - x1 / x2 * x2), (), rfl, ⟨(by show (f_X12_divisor_e0 x2 (x1 - x1 / x2 * x2)) = f_X12_divisor_o1 x1 x2; unfold f_X12_divisor_o1; rw [if_neg c1]), (by omega)⟩, wd_end hP hK hD ht hW9.alike⟩, hS.F ht⟩) hS.2.2 dX12_divisor_15 hlocks
  · have c1i : x2.toInt = 0 := eq_v rfl rfl c1
    refine lv_iload_n hx hb dX12_divisor_4 rfl (lv_at hl 0 rfl) ?_
    refine lv_goto (tgt := 15) hx hb dX12_divisor_5 (by decide) ?_
    refine W.widen (k := 0) (n := 0) (Nat.le_of_ble_eq_true rfl) (Nat.le_of_ble_eq_true rfl) ?_
    exact W.iret (v := x1) hx hb hr (fun t ht hW9 => ⟨⟨x1, (), rfl, ⟨(by show x1 = f_X12_divisor_o1 x1 x2; unfold f_X12_divisor_o1; rw [if_pos c1]), (by omega)⟩, wd_end hP hK hD ht hW9.alike⟩, hS.F ht⟩) hS.2.2 dX12_divisor_15 hlocks
def f_X12_divisor_e1 (x1 : Int32) (x2 : Int32) : Int32 := if x2 = (0 : Int32) then x1 else f_X12_divisor_o1 x2 (x1 - x1 / x2 * x2)
set_option maxHeartbeats 4000000 in
set_option maxRecDepth 100000 in
theorem c_X12_divisor_e1 (l : Launch) {D : va_G} {cy : Nat → ClassId} {X : va_W} (S : wPS) (sz : Nat) (x1 : Int32) (x2 : Int32) (h1 : 0 ≤ x1.toInt ∧ x1.toInt ≤ 200) (h3 : 1 ≤ x1.toInt ∨ 1 ≤ x2.toInt) (h2 : 0 ≤ x2.toInt ∧ x2.toInt < 2) (h4 : x2.toInt ≤ 200) : Met l yX12_divisor wsX12_divisor ({ frames := 2, cells := 0, slots := 0, locals := 42 }) (va_Pc [.int x1, .int x2] (fun U => U.heap.size = sz ∧ WD D cy X (fun _ => True) S U ∧ NW U)) (va_Qi (fun r (_ : Unit) => r = f_X12_divisor_e1 x1 x2 ∧ 1 ≤ r.toInt ∧ r.toInt ≤ 200) (fun _ t => WD D cy X (va_A (X ++ PL cy S) sz) S t) (va_A (X ++ PL cy S) sz)) 0 0 (va_A (X ++ PL cy S) sz) := by
  refine Met.ofW (cc := cX12_divisor) (maxL := 2) (ret := (some .int)) (by decide) rfl ?_
  intro p e s m args below meth c s₁ B hml hv
  obtain ⟨rfl, hsz, ⟨hP, hK, hD0⟩, hN⟩ := hv
  have hx := B.exec
  have hb := B.bytes
  have hr := B.returns
  have hts := atoms_spec (ws := wsX12_divisor) B.pre
  have hown : s.vm.findClass RX12 = some m.cls := findClass_of_methodNamed (x := yX12_divisor) B.named
  have hlocks := B.notSynchronized
  subst hsz
  have hD := hD0.self (sz := s.heap.size)
  generalize hAe : va_A (X ++ PL cy S) s.heap.size = A at hD ⊢
  have hA : ∀ q : Nat, s.heap.size ≤ q → A q := fun q h => by rw [← hAe]; exact Or.inr h
  have hS : va_S A s.heap s.heap [] := va_S.rf
  have hl := lv_entry ([.int x1, .int x2]) (n := 2) (Nat.le_of_ble_eq_true rfl)
  rw [lg_entry_eq]
  generalize (lg_sl ([.int x1, .int x2]) ++ List.replicate (2 - (lg_sl ([.int x1, .int x2])).length) Slot.unset).toArray = ls at hl ⊢
  have hl : lv_has ls 2 [(0, .int x1), (1, .int x2)] := hl
  refine lv_iload_n hx hb dX12_divisor_0 rfl (lv_at hl 1 rfl) ?_
  refine lv_if_ne (tgt := 8) hx hb dX12_divisor_1 (by decide) (fun c1 => ?_) (fun c1 => ?_)
  · have c1i : ¬ x2.toInt = 0 := neq_v rfl rfl c1
    refine lv_iload_n hx hb dX12_divisor_8 rfl (lv_at hl 1 rfl) ?_
    refine lv_iload_n hx hb dX12_divisor_9 rfl (lv_at hl 0 rfl) ?_
    refine lv_iload_n hx hb dX12_divisor_10 rfl (lv_at hl 1 rfl) ?_
    refine lv_irem hx hb dX12_divisor_11 (nz_i (by omega)) ?_
    have i2 := rem_rng (x := x1) (y := x2) (by omega) (by omega)
    have hFc := free_all hD hS hA
    refine va_calli (va_runS (As := [.int x2, .int (x1 - x1 / x2 * x2)]) (rest := []) ⟨hx, hb, hml, hown, hts⟩ (c_X12_divisor_o1 l (cy := cy) (X := X) (D := D) S _ x2 (x1 - x1 / x2 * x2) (by omega) (by omega) (by omega)) (cwS 2 hts gX12_divisor_X12_divisor rfl rfl rfl hd_X12_divisor ⟨Nat.le_of_ble_eq_true rfl, Nat.le_of_ble_eq_true rfl⟩) (pS hP hK hD hN) rfl rfl hl.1 rfl (lv_room (Nat.le_of_ble_eq_true rfl)) dX12_divisor_12 ⟨(Nat.zero_le _), (Nat.zero_le _)⟩) hS (fun q _ h => hFc q h) hFc (fun r3 u t H1 locs ht hvm hw hB hz1 hk1 hS => ?_)
    obtain ⟨c4, y5⟩ := hw
    obtain ⟨hP, hD⟩ := wd_post hFc ht hB
    generalize H1 = H at hP hS ⊢
    obtain rfl : f_X12_divisor_o1 x2 (x1 - x1 / x2 * x2) = r3 := c4.symm
    refine W.widen (k := 0) (n := 0) (Nat.le_of_ble_eq_true rfl) (Nat.le_of_ble_eq_true rfl) ?_
    exact W.iret (v := f_X12_divisor_o1 x2 (x1 - x1 / x2 * x2)) hx hb hr (fun t ht hW9 => ⟨⟨f_X12_divisor_o1 x2 (x1 - x1 / x2 * x2), (), rfl, ⟨(by show (f_X12_divisor_o1 x2 (x1 - x1 / x2 * x2)) = f_X12_divisor_e1 x1 x2; unfold f_X12_divisor_e1; rw [if_neg c1]), (by omega)⟩, wd_end hP hK hD ht hW9.alike⟩, hS.F ht⟩) hS.2.2 dX12_divisor_15 hlocks
  · have c1i : x2.toInt = 0 := eq_v rfl rfl c1
    refine lv_iload_n hx hb dX12_divisor_4 rfl (lv_at hl 0 rfl) ?_
    refine lv_goto (tgt := 15) hx hb dX12_divisor_5 (by decide) ?_
    refine W.widen (k := 0) (n := 0) (Nat.le_of_ble_eq_true rfl) (Nat.le_of_ble_eq_true rfl) ?_
    exact W.iret (v := x1) hx hb hr (fun t ht hW9 => ⟨⟨x1, (), rfl, ⟨(by show x1 = f_X12_divisor_e1 x1 x2; unfold f_X12_divisor_e1; rw [if_pos c1]), (by omega)⟩, wd_end hP hK hD ht hW9.alike⟩, hS.F ht⟩) hS.2.2 dX12_divisor_15 hlocks
def f_X12_divisor_o2 (x1 : Int32) (x2 : Int32) : Int32 := if x2 = (0 : Int32) then x1 else f_X12_divisor_e1 x2 (x1 - x1 / x2 * x2)
set_option maxHeartbeats 4000000 in
set_option maxRecDepth 100000 in
theorem c_X12_divisor_o2 (l : Launch) {D : va_G} {cy : Nat → ClassId} {X : va_W} (S : wPS) (sz : Nat) (x1 : Int32) (x2 : Int32) (h1 : 0 ≤ x1.toInt ∧ x1.toInt ≤ 200) (h3 : 1 ≤ x1.toInt ∨ 1 ≤ x2.toInt) (h2 : x1.toInt < 4 ∧ 0 ≤ x2.toInt ∧ x2.toInt < x1.toInt) : Met l yX12_divisor wsX12_divisor ({ frames := 3, cells := 0, slots := 0, locals := 63 }) (va_Pc [.int x1, .int x2] (fun U => U.heap.size = sz ∧ WD D cy X (fun _ => True) S U ∧ NW U)) (va_Qi (fun r (_ : Unit) => r = f_X12_divisor_o2 x1 x2 ∧ 1 ≤ r.toInt ∧ r.toInt ≤ 200) (fun _ t => WD D cy X (va_A (X ++ PL cy S) sz) S t) (va_A (X ++ PL cy S) sz)) 0 0 (va_A (X ++ PL cy S) sz) := by
  refine Met.ofW (cc := cX12_divisor) (maxL := 2) (ret := (some .int)) (by decide) rfl ?_
  intro p e s m args below meth c s₁ B hml hv
  obtain ⟨rfl, hsz, ⟨hP, hK, hD0⟩, hN⟩ := hv
  have hx := B.exec
  have hb := B.bytes
  have hr := B.returns
  have hts := atoms_spec (ws := wsX12_divisor) B.pre
  have hown : s.vm.findClass RX12 = some m.cls := findClass_of_methodNamed (x := yX12_divisor) B.named
  have hlocks := B.notSynchronized
  subst hsz
  have hD := hD0.self (sz := s.heap.size)
  generalize hAe : va_A (X ++ PL cy S) s.heap.size = A at hD ⊢
  have hA : ∀ q : Nat, s.heap.size ≤ q → A q := fun q h => by rw [← hAe]; exact Or.inr h
  have hS : va_S A s.heap s.heap [] := va_S.rf
  have hl := lv_entry ([.int x1, .int x2]) (n := 2) (Nat.le_of_ble_eq_true rfl)
  rw [lg_entry_eq]
  generalize (lg_sl ([.int x1, .int x2]) ++ List.replicate (2 - (lg_sl ([.int x1, .int x2])).length) Slot.unset).toArray = ls at hl ⊢
  have hl : lv_has ls 2 [(0, .int x1), (1, .int x2)] := hl
  refine lv_iload_n hx hb dX12_divisor_0 rfl (lv_at hl 1 rfl) ?_
  refine lv_if_ne (tgt := 8) hx hb dX12_divisor_1 (by decide) (fun c1 => ?_) (fun c1 => ?_)
  · have c1i : ¬ x2.toInt = 0 := neq_v rfl rfl c1
    refine lv_iload_n hx hb dX12_divisor_8 rfl (lv_at hl 1 rfl) ?_
    refine lv_iload_n hx hb dX12_divisor_9 rfl (lv_at hl 0 rfl) ?_
    refine lv_iload_n hx hb dX12_divisor_10 rfl (lv_at hl 1 rfl) ?_
    refine lv_irem hx hb dX12_divisor_11 (nz_i (by omega)) ?_
    have hh9 := half_rem (x := x1) (y := x2) (m := 2) (by omega) (by omega) (by omega)
    have i2 := rem_rng (x := x1) (y := x2) (by omega) (by omega)
    have hFc := free_all hD hS hA
    refine va_calli (va_runS (As := [.int x2, .int (x1 - x1 / x2 * x2)]) (rest := []) ⟨hx, hb, hml, hown, hts⟩ (c_X12_divisor_e1 l (cy := cy) (X := X) (D := D) S _ x2 (x1 - x1 / x2 * x2) (by omega) (by omega) (by omega) (by omega)) (cwS 2 hts gX12_divisor_X12_divisor rfl rfl rfl hd_X12_divisor ⟨Nat.le_of_ble_eq_true rfl, Nat.le_of_ble_eq_true rfl⟩) (pS hP hK hD hN) rfl rfl hl.1 rfl (lv_room (Nat.le_of_ble_eq_true rfl)) dX12_divisor_12 ⟨(Nat.zero_le _), (Nat.zero_le _)⟩) hS (fun q _ h => hFc q h) hFc (fun r3 u t H1 locs ht hvm hw hB hz1 hk1 hS => ?_)
    obtain ⟨c4, y5⟩ := hw
    obtain ⟨hP, hD⟩ := wd_post hFc ht hB
    generalize H1 = H at hP hS ⊢
    obtain rfl : f_X12_divisor_e1 x2 (x1 - x1 / x2 * x2) = r3 := c4.symm
    refine W.widen (k := 0) (n := 0) (Nat.le_of_ble_eq_true rfl) (Nat.le_of_ble_eq_true rfl) ?_
    exact W.iret (v := f_X12_divisor_e1 x2 (x1 - x1 / x2 * x2)) hx hb hr (fun t ht hW9 => ⟨⟨f_X12_divisor_e1 x2 (x1 - x1 / x2 * x2), (), rfl, ⟨(by show (f_X12_divisor_e1 x2 (x1 - x1 / x2 * x2)) = f_X12_divisor_o2 x1 x2; unfold f_X12_divisor_o2; rw [if_neg c1]), (by omega)⟩, wd_end hP hK hD ht hW9.alike⟩, hS.F ht⟩) hS.2.2 dX12_divisor_15 hlocks
  · have c1i : x2.toInt = 0 := eq_v rfl rfl c1
    refine lv_iload_n hx hb dX12_divisor_4 rfl (lv_at hl 0 rfl) ?_
    refine lv_goto (tgt := 15) hx hb dX12_divisor_5 (by decide) ?_
    refine W.widen (k := 0) (n := 0) (Nat.le_of_ble_eq_true rfl) (Nat.le_of_ble_eq_true rfl) ?_
    exact W.iret (v := x1) hx hb hr (fun t ht hW9 => ⟨⟨x1, (), rfl, ⟨(by show x1 = f_X12_divisor_o2 x1 x2; unfold f_X12_divisor_o2; rw [if_pos c1]), (by omega)⟩, wd_end hP hK hD ht hW9.alike⟩, hS.F ht⟩) hS.2.2 dX12_divisor_15 hlocks
def f_X12_divisor_e2 (x1 : Int32) (x2 : Int32) : Int32 := if x2 = (0 : Int32) then x1 else f_X12_divisor_o2 x2 (x1 - x1 / x2 * x2)
set_option maxHeartbeats 4000000 in
set_option maxRecDepth 100000 in
theorem c_X12_divisor_e2 (l : Launch) {D : va_G} {cy : Nat → ClassId} {X : va_W} (S : wPS) (sz : Nat) (x1 : Int32) (x2 : Int32) (h1 : 0 ≤ x1.toInt ∧ x1.toInt ≤ 200) (h3 : 1 ≤ x1.toInt ∨ 1 ≤ x2.toInt) (h2 : 0 ≤ x2.toInt ∧ x2.toInt < 4) (h4 : x2.toInt ≤ 200) : Met l yX12_divisor wsX12_divisor ({ frames := 4, cells := 0, slots := 0, locals := 84 }) (va_Pc [.int x1, .int x2] (fun U => U.heap.size = sz ∧ WD D cy X (fun _ => True) S U ∧ NW U)) (va_Qi (fun r (_ : Unit) => r = f_X12_divisor_e2 x1 x2 ∧ 1 ≤ r.toInt ∧ r.toInt ≤ 200) (fun _ t => WD D cy X (va_A (X ++ PL cy S) sz) S t) (va_A (X ++ PL cy S) sz)) 0 0 (va_A (X ++ PL cy S) sz) := by
  refine Met.ofW (cc := cX12_divisor) (maxL := 2) (ret := (some .int)) (by decide) rfl ?_
  intro p e s m args below meth c s₁ B hml hv
  obtain ⟨rfl, hsz, ⟨hP, hK, hD0⟩, hN⟩ := hv
  have hx := B.exec
  have hb := B.bytes
  have hr := B.returns
  have hts := atoms_spec (ws := wsX12_divisor) B.pre
  have hown : s.vm.findClass RX12 = some m.cls := findClass_of_methodNamed (x := yX12_divisor) B.named
  have hlocks := B.notSynchronized
  subst hsz
  have hD := hD0.self (sz := s.heap.size)
  generalize hAe : va_A (X ++ PL cy S) s.heap.size = A at hD ⊢
  have hA : ∀ q : Nat, s.heap.size ≤ q → A q := fun q h => by rw [← hAe]; exact Or.inr h
  have hS : va_S A s.heap s.heap [] := va_S.rf
  have hl := lv_entry ([.int x1, .int x2]) (n := 2) (Nat.le_of_ble_eq_true rfl)
  rw [lg_entry_eq]
  generalize (lg_sl ([.int x1, .int x2]) ++ List.replicate (2 - (lg_sl ([.int x1, .int x2])).length) Slot.unset).toArray = ls at hl ⊢
  have hl : lv_has ls 2 [(0, .int x1), (1, .int x2)] := hl
  refine lv_iload_n hx hb dX12_divisor_0 rfl (lv_at hl 1 rfl) ?_
  refine lv_if_ne (tgt := 8) hx hb dX12_divisor_1 (by decide) (fun c1 => ?_) (fun c1 => ?_)
  · have c1i : ¬ x2.toInt = 0 := neq_v rfl rfl c1
    refine lv_iload_n hx hb dX12_divisor_8 rfl (lv_at hl 1 rfl) ?_
    refine lv_iload_n hx hb dX12_divisor_9 rfl (lv_at hl 0 rfl) ?_
    refine lv_iload_n hx hb dX12_divisor_10 rfl (lv_at hl 1 rfl) ?_
    refine lv_irem hx hb dX12_divisor_11 (nz_i (by omega)) ?_
    have i2 := rem_rng (x := x1) (y := x2) (by omega) (by omega)
    have hFc := free_all hD hS hA
    refine va_calli (va_runS (As := [.int x2, .int (x1 - x1 / x2 * x2)]) (rest := []) ⟨hx, hb, hml, hown, hts⟩ (c_X12_divisor_o2 l (cy := cy) (X := X) (D := D) S _ x2 (x1 - x1 / x2 * x2) (by omega) (by omega) (by omega)) (cwS 2 hts gX12_divisor_X12_divisor rfl rfl rfl hd_X12_divisor ⟨Nat.le_of_ble_eq_true rfl, Nat.le_of_ble_eq_true rfl⟩) (pS hP hK hD hN) rfl rfl hl.1 rfl (lv_room (Nat.le_of_ble_eq_true rfl)) dX12_divisor_12 ⟨(Nat.zero_le _), (Nat.zero_le _)⟩) hS (fun q _ h => hFc q h) hFc (fun r3 u t H1 locs ht hvm hw hB hz1 hk1 hS => ?_)
    obtain ⟨c4, y5⟩ := hw
    obtain ⟨hP, hD⟩ := wd_post hFc ht hB
    generalize H1 = H at hP hS ⊢
    obtain rfl : f_X12_divisor_o2 x2 (x1 - x1 / x2 * x2) = r3 := c4.symm
    refine W.widen (k := 0) (n := 0) (Nat.le_of_ble_eq_true rfl) (Nat.le_of_ble_eq_true rfl) ?_
    exact W.iret (v := f_X12_divisor_o2 x2 (x1 - x1 / x2 * x2)) hx hb hr (fun t ht hW9 => ⟨⟨f_X12_divisor_o2 x2 (x1 - x1 / x2 * x2), (), rfl, ⟨(by show (f_X12_divisor_o2 x2 (x1 - x1 / x2 * x2)) = f_X12_divisor_e2 x1 x2; unfold f_X12_divisor_e2; rw [if_neg c1]), (by omega)⟩, wd_end hP hK hD ht hW9.alike⟩, hS.F ht⟩) hS.2.2 dX12_divisor_15 hlocks
  · have c1i : x2.toInt = 0 := eq_v rfl rfl c1
    refine lv_iload_n hx hb dX12_divisor_4 rfl (lv_at hl 0 rfl) ?_
    refine lv_goto (tgt := 15) hx hb dX12_divisor_5 (by decide) ?_
    refine W.widen (k := 0) (n := 0) (Nat.le_of_ble_eq_true rfl) (Nat.le_of_ble_eq_true rfl) ?_
    exact W.iret (v := x1) hx hb hr (fun t ht hW9 => ⟨⟨x1, (), rfl, ⟨(by show x1 = f_X12_divisor_e2 x1 x2; unfold f_X12_divisor_e2; rw [if_pos c1]), (by omega)⟩, wd_end hP hK hD ht hW9.alike⟩, hS.F ht⟩) hS.2.2 dX12_divisor_15 hlocks
def f_X12_divisor_o3 (x1 : Int32) (x2 : Int32) : Int32 := if x2 = (0 : Int32) then x1 else f_X12_divisor_e2 x2 (x1 - x1 / x2 * x2)
set_option maxHeartbeats 4000000 in
set_option maxRecDepth 100000 in
theorem c_X12_divisor_o3 (l : Launch) {D : va_G} {cy : Nat → ClassId} {X : va_W} (S : wPS) (sz : Nat) (x1 : Int32) (x2 : Int32) (h1 : 0 ≤ x1.toInt ∧ x1.toInt ≤ 200) (h3 : 1 ≤ x1.toInt ∨ 1 ≤ x2.toInt) (h2 : x1.toInt < 8 ∧ 0 ≤ x2.toInt ∧ x2.toInt < x1.toInt) : Met l yX12_divisor wsX12_divisor ({ frames := 5, cells := 0, slots := 0, locals := 105 }) (va_Pc [.int x1, .int x2] (fun U => U.heap.size = sz ∧ WD D cy X (fun _ => True) S U ∧ NW U)) (va_Qi (fun r (_ : Unit) => r = f_X12_divisor_o3 x1 x2 ∧ 1 ≤ r.toInt ∧ r.toInt ≤ 200) (fun _ t => WD D cy X (va_A (X ++ PL cy S) sz) S t) (va_A (X ++ PL cy S) sz)) 0 0 (va_A (X ++ PL cy S) sz) := by
  refine Met.ofW (cc := cX12_divisor) (maxL := 2) (ret := (some .int)) (by decide) rfl ?_
  intro p e s m args below meth c s₁ B hml hv
  obtain ⟨rfl, hsz, ⟨hP, hK, hD0⟩, hN⟩ := hv
  have hx := B.exec
  have hb := B.bytes
  have hr := B.returns
  have hts := atoms_spec (ws := wsX12_divisor) B.pre
  have hown : s.vm.findClass RX12 = some m.cls := findClass_of_methodNamed (x := yX12_divisor) B.named
  have hlocks := B.notSynchronized
  subst hsz
  have hD := hD0.self (sz := s.heap.size)
  generalize hAe : va_A (X ++ PL cy S) s.heap.size = A at hD ⊢
  have hA : ∀ q : Nat, s.heap.size ≤ q → A q := fun q h => by rw [← hAe]; exact Or.inr h
  have hS : va_S A s.heap s.heap [] := va_S.rf
  have hl := lv_entry ([.int x1, .int x2]) (n := 2) (Nat.le_of_ble_eq_true rfl)
  rw [lg_entry_eq]
  generalize (lg_sl ([.int x1, .int x2]) ++ List.replicate (2 - (lg_sl ([.int x1, .int x2])).length) Slot.unset).toArray = ls at hl ⊢
  have hl : lv_has ls 2 [(0, .int x1), (1, .int x2)] := hl
  refine lv_iload_n hx hb dX12_divisor_0 rfl (lv_at hl 1 rfl) ?_
  refine lv_if_ne (tgt := 8) hx hb dX12_divisor_1 (by decide) (fun c1 => ?_) (fun c1 => ?_)
  · have c1i : ¬ x2.toInt = 0 := neq_v rfl rfl c1
    refine lv_iload_n hx hb dX12_divisor_8 rfl (lv_at hl 1 rfl) ?_
    refine lv_iload_n hx hb dX12_divisor_9 rfl (lv_at hl 0 rfl) ?_
    refine lv_iload_n hx hb dX12_divisor_10 rfl (lv_at hl 1 rfl) ?_
    refine lv_irem hx hb dX12_divisor_11 (nz_i (by omega)) ?_
    have hh9 := half_rem (x := x1) (y := x2) (m := 4) (by omega) (by omega) (by omega)
    have i2 := rem_rng (x := x1) (y := x2) (by omega) (by omega)
    have hFc := free_all hD hS hA
    refine va_calli (va_runS (As := [.int x2, .int (x1 - x1 / x2 * x2)]) (rest := []) ⟨hx, hb, hml, hown, hts⟩ (c_X12_divisor_e2 l (cy := cy) (X := X) (D := D) S _ x2 (x1 - x1 / x2 * x2) (by omega) (by omega) (by omega) (by omega)) (cwS 2 hts gX12_divisor_X12_divisor rfl rfl rfl hd_X12_divisor ⟨Nat.le_of_ble_eq_true rfl, Nat.le_of_ble_eq_true rfl⟩) (pS hP hK hD hN) rfl rfl hl.1 rfl (lv_room (Nat.le_of_ble_eq_true rfl)) dX12_divisor_12 ⟨(Nat.zero_le _), (Nat.zero_le _)⟩) hS (fun q _ h => hFc q h) hFc (fun r3 u t H1 locs ht hvm hw hB hz1 hk1 hS => ?_)
    obtain ⟨c4, y5⟩ := hw
    obtain ⟨hP, hD⟩ := wd_post hFc ht hB
    generalize H1 = H at hP hS ⊢
    obtain rfl : f_X12_divisor_e2 x2 (x1 - x1 / x2 * x2) = r3 := c4.symm
    refine W.widen (k := 0) (n := 0) (Nat.le_of_ble_eq_true rfl) (Nat.le_of_ble_eq_true rfl) ?_
    exact W.iret (v := f_X12_divisor_e2 x2 (x1 - x1 / x2 * x2)) hx hb hr (fun t ht hW9 => ⟨⟨f_X12_divisor_e2 x2 (x1 - x1 / x2 * x2), (), rfl, ⟨(by show (f_X12_divisor_e2 x2 (x1 - x1 / x2 * x2)) = f_X12_divisor_o3 x1 x2; unfold f_X12_divisor_o3; rw [if_neg c1]), (by omega)⟩, wd_end hP hK hD ht hW9.alike⟩, hS.F ht⟩) hS.2.2 dX12_divisor_15 hlocks
  · have c1i : x2.toInt = 0 := eq_v rfl rfl c1
    refine lv_iload_n hx hb dX12_divisor_4 rfl (lv_at hl 0 rfl) ?_
    refine lv_goto (tgt := 15) hx hb dX12_divisor_5 (by decide) ?_
    refine W.widen (k := 0) (n := 0) (Nat.le_of_ble_eq_true rfl) (Nat.le_of_ble_eq_true rfl) ?_
    exact W.iret (v := x1) hx hb hr (fun t ht hW9 => ⟨⟨x1, (), rfl, ⟨(by show x1 = f_X12_divisor_o3 x1 x2; unfold f_X12_divisor_o3; rw [if_pos c1]), (by omega)⟩, wd_end hP hK hD ht hW9.alike⟩, hS.F ht⟩) hS.2.2 dX12_divisor_15 hlocks
def f_X12_divisor_e3 (x1 : Int32) (x2 : Int32) : Int32 := if x2 = (0 : Int32) then x1 else f_X12_divisor_o3 x2 (x1 - x1 / x2 * x2)
set_option maxHeartbeats 4000000 in
set_option maxRecDepth 100000 in
theorem c_X12_divisor_e3 (l : Launch) {D : va_G} {cy : Nat → ClassId} {X : va_W} (S : wPS) (sz : Nat) (x1 : Int32) (x2 : Int32) (h1 : 0 ≤ x1.toInt ∧ x1.toInt ≤ 200) (h3 : 1 ≤ x1.toInt ∨ 1 ≤ x2.toInt) (h2 : 0 ≤ x2.toInt ∧ x2.toInt < 8) (h4 : x2.toInt ≤ 200) : Met l yX12_divisor wsX12_divisor ({ frames := 6, cells := 0, slots := 0, locals := 126 }) (va_Pc [.int x1, .int x2] (fun U => U.heap.size = sz ∧ WD D cy X (fun _ => True) S U ∧ NW U)) (va_Qi (fun r (_ : Unit) => r = f_X12_divisor_e3 x1 x2 ∧ 1 ≤ r.toInt ∧ r.toInt ≤ 200) (fun _ t => WD D cy X (va_A (X ++ PL cy S) sz) S t) (va_A (X ++ PL cy S) sz)) 0 0 (va_A (X ++ PL cy S) sz) := by
  refine Met.ofW (cc := cX12_divisor) (maxL := 2) (ret := (some .int)) (by decide) rfl ?_
  intro p e s m args below meth c s₁ B hml hv
  obtain ⟨rfl, hsz, ⟨hP, hK, hD0⟩, hN⟩ := hv
  have hx := B.exec
  have hb := B.bytes
  have hr := B.returns
  have hts := atoms_spec (ws := wsX12_divisor) B.pre
  have hown : s.vm.findClass RX12 = some m.cls := findClass_of_methodNamed (x := yX12_divisor) B.named
  have hlocks := B.notSynchronized
  subst hsz
  have hD := hD0.self (sz := s.heap.size)
  generalize hAe : va_A (X ++ PL cy S) s.heap.size = A at hD ⊢
  have hA : ∀ q : Nat, s.heap.size ≤ q → A q := fun q h => by rw [← hAe]; exact Or.inr h
  have hS : va_S A s.heap s.heap [] := va_S.rf
  have hl := lv_entry ([.int x1, .int x2]) (n := 2) (Nat.le_of_ble_eq_true rfl)
  rw [lg_entry_eq]
  generalize (lg_sl ([.int x1, .int x2]) ++ List.replicate (2 - (lg_sl ([.int x1, .int x2])).length) Slot.unset).toArray = ls at hl ⊢
  have hl : lv_has ls 2 [(0, .int x1), (1, .int x2)] := hl
  refine lv_iload_n hx hb dX12_divisor_0 rfl (lv_at hl 1 rfl) ?_
  refine lv_if_ne (tgt := 8) hx hb dX12_divisor_1 (by decide) (fun c1 => ?_) (fun c1 => ?_)
  · have c1i : ¬ x2.toInt = 0 := neq_v rfl rfl c1
    refine lv_iload_n hx hb dX12_divisor_8 rfl (lv_at hl 1 rfl) ?_
    refine lv_iload_n hx hb dX12_divisor_9 rfl (lv_at hl 0 rfl) ?_
    refine lv_iload_n hx hb dX12_divisor_10 rfl (lv_at hl 1 rfl) ?_
    refine lv_irem hx hb dX12_divisor_11 (nz_i (by omega)) ?_
    have i2 := rem_rng (x := x1) (y := x2) (by omega) (by omega)
    have hFc := free_all hD hS hA
    refine va_calli (va_runS (As := [.int x2, .int (x1 - x1 / x2 * x2)]) (rest := []) ⟨hx, hb, hml, hown, hts⟩ (c_X12_divisor_o3 l (cy := cy) (X := X) (D := D) S _ x2 (x1 - x1 / x2 * x2) (by omega) (by omega) (by omega)) (cwS 2 hts gX12_divisor_X12_divisor rfl rfl rfl hd_X12_divisor ⟨Nat.le_of_ble_eq_true rfl, Nat.le_of_ble_eq_true rfl⟩) (pS hP hK hD hN) rfl rfl hl.1 rfl (lv_room (Nat.le_of_ble_eq_true rfl)) dX12_divisor_12 ⟨(Nat.zero_le _), (Nat.zero_le _)⟩) hS (fun q _ h => hFc q h) hFc (fun r3 u t H1 locs ht hvm hw hB hz1 hk1 hS => ?_)
    obtain ⟨c4, y5⟩ := hw
    obtain ⟨hP, hD⟩ := wd_post hFc ht hB
    generalize H1 = H at hP hS ⊢
    obtain rfl : f_X12_divisor_o3 x2 (x1 - x1 / x2 * x2) = r3 := c4.symm
    refine W.widen (k := 0) (n := 0) (Nat.le_of_ble_eq_true rfl) (Nat.le_of_ble_eq_true rfl) ?_
    exact W.iret (v := f_X12_divisor_o3 x2 (x1 - x1 / x2 * x2)) hx hb hr (fun t ht hW9 => ⟨⟨f_X12_divisor_o3 x2 (x1 - x1 / x2 * x2), (), rfl, ⟨(by show (f_X12_divisor_o3 x2 (x1 - x1 / x2 * x2)) = f_X12_divisor_e3 x1 x2; unfold f_X12_divisor_e3; rw [if_neg c1]), (by omega)⟩, wd_end hP hK hD ht hW9.alike⟩, hS.F ht⟩) hS.2.2 dX12_divisor_15 hlocks
  · have c1i : x2.toInt = 0 := eq_v rfl rfl c1
    refine lv_iload_n hx hb dX12_divisor_4 rfl (lv_at hl 0 rfl) ?_
    refine lv_goto (tgt := 15) hx hb dX12_divisor_5 (by decide) ?_
    refine W.widen (k := 0) (n := 0) (Nat.le_of_ble_eq_true rfl) (Nat.le_of_ble_eq_true rfl) ?_
    exact W.iret (v := x1) hx hb hr (fun t ht hW9 => ⟨⟨x1, (), rfl, ⟨(by show x1 = f_X12_divisor_e3 x1 x2; unfold f_X12_divisor_e3; rw [if_pos c1]), (by omega)⟩, wd_end hP hK hD ht hW9.alike⟩, hS.F ht⟩) hS.2.2 dX12_divisor_15 hlocks
def f_X12_divisor_o4 (x1 : Int32) (x2 : Int32) : Int32 := if x2 = (0 : Int32) then x1 else f_X12_divisor_e3 x2 (x1 - x1 / x2 * x2)
set_option maxHeartbeats 4000000 in
set_option maxRecDepth 100000 in
theorem c_X12_divisor_o4 (l : Launch) {D : va_G} {cy : Nat → ClassId} {X : va_W} (S : wPS) (sz : Nat) (x1 : Int32) (x2 : Int32) (h1 : 0 ≤ x1.toInt ∧ x1.toInt ≤ 200) (h3 : 1 ≤ x1.toInt ∨ 1 ≤ x2.toInt) (h2 : x1.toInt < 16 ∧ 0 ≤ x2.toInt ∧ x2.toInt < x1.toInt) : Met l yX12_divisor wsX12_divisor ({ frames := 7, cells := 0, slots := 0, locals := 147 }) (va_Pc [.int x1, .int x2] (fun U => U.heap.size = sz ∧ WD D cy X (fun _ => True) S U ∧ NW U)) (va_Qi (fun r (_ : Unit) => r = f_X12_divisor_o4 x1 x2 ∧ 1 ≤ r.toInt ∧ r.toInt ≤ 200) (fun _ t => WD D cy X (va_A (X ++ PL cy S) sz) S t) (va_A (X ++ PL cy S) sz)) 0 0 (va_A (X ++ PL cy S) sz) := by
  refine Met.ofW (cc := cX12_divisor) (maxL := 2) (ret := (some .int)) (by decide) rfl ?_
  intro p e s m args below meth c s₁ B hml hv
  obtain ⟨rfl, hsz, ⟨hP, hK, hD0⟩, hN⟩ := hv
  have hx := B.exec
  have hb := B.bytes
  have hr := B.returns
  have hts := atoms_spec (ws := wsX12_divisor) B.pre
  have hown : s.vm.findClass RX12 = some m.cls := findClass_of_methodNamed (x := yX12_divisor) B.named
  have hlocks := B.notSynchronized
  subst hsz
  have hD := hD0.self (sz := s.heap.size)
  generalize hAe : va_A (X ++ PL cy S) s.heap.size = A at hD ⊢
  have hA : ∀ q : Nat, s.heap.size ≤ q → A q := fun q h => by rw [← hAe]; exact Or.inr h
  have hS : va_S A s.heap s.heap [] := va_S.rf
  have hl := lv_entry ([.int x1, .int x2]) (n := 2) (Nat.le_of_ble_eq_true rfl)
  rw [lg_entry_eq]
  generalize (lg_sl ([.int x1, .int x2]) ++ List.replicate (2 - (lg_sl ([.int x1, .int x2])).length) Slot.unset).toArray = ls at hl ⊢
  have hl : lv_has ls 2 [(0, .int x1), (1, .int x2)] := hl
  refine lv_iload_n hx hb dX12_divisor_0 rfl (lv_at hl 1 rfl) ?_
  refine lv_if_ne (tgt := 8) hx hb dX12_divisor_1 (by decide) (fun c1 => ?_) (fun c1 => ?_)
  · have c1i : ¬ x2.toInt = 0 := neq_v rfl rfl c1
    refine lv_iload_n hx hb dX12_divisor_8 rfl (lv_at hl 1 rfl) ?_
    refine lv_iload_n hx hb dX12_divisor_9 rfl (lv_at hl 0 rfl) ?_
    refine lv_iload_n hx hb dX12_divisor_10 rfl (lv_at hl 1 rfl) ?_
    refine lv_irem hx hb dX12_divisor_11 (nz_i (by omega)) ?_
    have hh9 := half_rem (x := x1) (y := x2) (m := 8) (by omega) (by omega) (by omega)
    have i2 := rem_rng (x := x1) (y := x2) (by omega) (by omega)
    have hFc := free_all hD hS hA
    refine va_calli (va_runS (As := [.int x2, .int (x1 - x1 / x2 * x2)]) (rest := []) ⟨hx, hb, hml, hown, hts⟩ (c_X12_divisor_e3 l (cy := cy) (X := X) (D := D) S _ x2 (x1 - x1 / x2 * x2) (by omega) (by omega) (by omega) (by omega)) (cwS 2 hts gX12_divisor_X12_divisor rfl rfl rfl hd_X12_divisor ⟨Nat.le_of_ble_eq_true rfl, Nat.le_of_ble_eq_true rfl⟩) (pS hP hK hD hN) rfl rfl hl.1 rfl (lv_room (Nat.le_of_ble_eq_true rfl)) dX12_divisor_12 ⟨(Nat.zero_le _), (Nat.zero_le _)⟩) hS (fun q _ h => hFc q h) hFc (fun r3 u t H1 locs ht hvm hw hB hz1 hk1 hS => ?_)
    obtain ⟨c4, y5⟩ := hw
    obtain ⟨hP, hD⟩ := wd_post hFc ht hB
    generalize H1 = H at hP hS ⊢
    obtain rfl : f_X12_divisor_e3 x2 (x1 - x1 / x2 * x2) = r3 := c4.symm
    refine W.widen (k := 0) (n := 0) (Nat.le_of_ble_eq_true rfl) (Nat.le_of_ble_eq_true rfl) ?_
    exact W.iret (v := f_X12_divisor_e3 x2 (x1 - x1 / x2 * x2)) hx hb hr (fun t ht hW9 => ⟨⟨f_X12_divisor_e3 x2 (x1 - x1 / x2 * x2), (), rfl, ⟨(by show (f_X12_divisor_e3 x2 (x1 - x1 / x2 * x2)) = f_X12_divisor_o4 x1 x2; unfold f_X12_divisor_o4; rw [if_neg c1]), (by omega)⟩, wd_end hP hK hD ht hW9.alike⟩, hS.F ht⟩) hS.2.2 dX12_divisor_15 hlocks
  · have c1i : x2.toInt = 0 := eq_v rfl rfl c1
    refine lv_iload_n hx hb dX12_divisor_4 rfl (lv_at hl 0 rfl) ?_
    refine lv_goto (tgt := 15) hx hb dX12_divisor_5 (by decide) ?_
    refine W.widen (k := 0) (n := 0) (Nat.le_of_ble_eq_true rfl) (Nat.le_of_ble_eq_true rfl) ?_
    exact W.iret (v := x1) hx hb hr (fun t ht hW9 => ⟨⟨x1, (), rfl, ⟨(by show x1 = f_X12_divisor_o4 x1 x2; unfold f_X12_divisor_o4; rw [if_pos c1]), (by omega)⟩, wd_end hP hK hD ht hW9.alike⟩, hS.F ht⟩) hS.2.2 dX12_divisor_15 hlocks
def f_X12_divisor_e4 (x1 : Int32) (x2 : Int32) : Int32 := if x2 = (0 : Int32) then x1 else f_X12_divisor_o4 x2 (x1 - x1 / x2 * x2)
set_option maxHeartbeats 4000000 in
set_option maxRecDepth 100000 in
theorem c_X12_divisor_e4 (l : Launch) {D : va_G} {cy : Nat → ClassId} {X : va_W} (S : wPS) (sz : Nat) (x1 : Int32) (x2 : Int32) (h1 : 0 ≤ x1.toInt ∧ x1.toInt ≤ 200) (h3 : 1 ≤ x1.toInt ∨ 1 ≤ x2.toInt) (h2 : 0 ≤ x2.toInt ∧ x2.toInt < 16) (h4 : x2.toInt ≤ 200) : Met l yX12_divisor wsX12_divisor ({ frames := 8, cells := 0, slots := 0, locals := 168 }) (va_Pc [.int x1, .int x2] (fun U => U.heap.size = sz ∧ WD D cy X (fun _ => True) S U ∧ NW U)) (va_Qi (fun r (_ : Unit) => r = f_X12_divisor_e4 x1 x2 ∧ 1 ≤ r.toInt ∧ r.toInt ≤ 200) (fun _ t => WD D cy X (va_A (X ++ PL cy S) sz) S t) (va_A (X ++ PL cy S) sz)) 0 0 (va_A (X ++ PL cy S) sz) := by
  refine Met.ofW (cc := cX12_divisor) (maxL := 2) (ret := (some .int)) (by decide) rfl ?_
  intro p e s m args below meth c s₁ B hml hv
  obtain ⟨rfl, hsz, ⟨hP, hK, hD0⟩, hN⟩ := hv
  have hx := B.exec
  have hb := B.bytes
  have hr := B.returns
  have hts := atoms_spec (ws := wsX12_divisor) B.pre
  have hown : s.vm.findClass RX12 = some m.cls := findClass_of_methodNamed (x := yX12_divisor) B.named
  have hlocks := B.notSynchronized
  subst hsz
  have hD := hD0.self (sz := s.heap.size)
  generalize hAe : va_A (X ++ PL cy S) s.heap.size = A at hD ⊢
  have hA : ∀ q : Nat, s.heap.size ≤ q → A q := fun q h => by rw [← hAe]; exact Or.inr h
  have hS : va_S A s.heap s.heap [] := va_S.rf
  have hl := lv_entry ([.int x1, .int x2]) (n := 2) (Nat.le_of_ble_eq_true rfl)
  rw [lg_entry_eq]
  generalize (lg_sl ([.int x1, .int x2]) ++ List.replicate (2 - (lg_sl ([.int x1, .int x2])).length) Slot.unset).toArray = ls at hl ⊢
  have hl : lv_has ls 2 [(0, .int x1), (1, .int x2)] := hl
  refine lv_iload_n hx hb dX12_divisor_0 rfl (lv_at hl 1 rfl) ?_
  refine lv_if_ne (tgt := 8) hx hb dX12_divisor_1 (by decide) (fun c1 => ?_) (fun c1 => ?_)
  · have c1i : ¬ x2.toInt = 0 := neq_v rfl rfl c1
    refine lv_iload_n hx hb dX12_divisor_8 rfl (lv_at hl 1 rfl) ?_
    refine lv_iload_n hx hb dX12_divisor_9 rfl (lv_at hl 0 rfl) ?_
    refine lv_iload_n hx hb dX12_divisor_10 rfl (lv_at hl 1 rfl) ?_
    refine lv_irem hx hb dX12_divisor_11 (nz_i (by omega)) ?_
    have i2 := rem_rng (x := x1) (y := x2) (by omega) (by omega)
    have hFc := free_all hD hS hA
    refine va_calli (va_runS (As := [.int x2, .int (x1 - x1 / x2 * x2)]) (rest := []) ⟨hx, hb, hml, hown, hts⟩ (c_X12_divisor_o4 l (cy := cy) (X := X) (D := D) S _ x2 (x1 - x1 / x2 * x2) (by omega) (by omega) (by omega)) (cwS 2 hts gX12_divisor_X12_divisor rfl rfl rfl hd_X12_divisor ⟨Nat.le_of_ble_eq_true rfl, Nat.le_of_ble_eq_true rfl⟩) (pS hP hK hD hN) rfl rfl hl.1 rfl (lv_room (Nat.le_of_ble_eq_true rfl)) dX12_divisor_12 ⟨(Nat.zero_le _), (Nat.zero_le _)⟩) hS (fun q _ h => hFc q h) hFc (fun r3 u t H1 locs ht hvm hw hB hz1 hk1 hS => ?_)
    obtain ⟨c4, y5⟩ := hw
    obtain ⟨hP, hD⟩ := wd_post hFc ht hB
    generalize H1 = H at hP hS ⊢
    obtain rfl : f_X12_divisor_o4 x2 (x1 - x1 / x2 * x2) = r3 := c4.symm
    refine W.widen (k := 0) (n := 0) (Nat.le_of_ble_eq_true rfl) (Nat.le_of_ble_eq_true rfl) ?_
    exact W.iret (v := f_X12_divisor_o4 x2 (x1 - x1 / x2 * x2)) hx hb hr (fun t ht hW9 => ⟨⟨f_X12_divisor_o4 x2 (x1 - x1 / x2 * x2), (), rfl, ⟨(by show (f_X12_divisor_o4 x2 (x1 - x1 / x2 * x2)) = f_X12_divisor_e4 x1 x2; unfold f_X12_divisor_e4; rw [if_neg c1]), (by omega)⟩, wd_end hP hK hD ht hW9.alike⟩, hS.F ht⟩) hS.2.2 dX12_divisor_15 hlocks
  · have c1i : x2.toInt = 0 := eq_v rfl rfl c1
    refine lv_iload_n hx hb dX12_divisor_4 rfl (lv_at hl 0 rfl) ?_
    refine lv_goto (tgt := 15) hx hb dX12_divisor_5 (by decide) ?_
    refine W.widen (k := 0) (n := 0) (Nat.le_of_ble_eq_true rfl) (Nat.le_of_ble_eq_true rfl) ?_
    exact W.iret (v := x1) hx hb hr (fun t ht hW9 => ⟨⟨x1, (), rfl, ⟨(by show x1 = f_X12_divisor_e4 x1 x2; unfold f_X12_divisor_e4; rw [if_pos c1]), (by omega)⟩, wd_end hP hK hD ht hW9.alike⟩, hS.F ht⟩) hS.2.2 dX12_divisor_15 hlocks
def f_X12_divisor_o5 (x1 : Int32) (x2 : Int32) : Int32 := if x2 = (0 : Int32) then x1 else f_X12_divisor_e4 x2 (x1 - x1 / x2 * x2)
set_option maxHeartbeats 4000000 in
set_option maxRecDepth 100000 in
theorem c_X12_divisor_o5 (l : Launch) {D : va_G} {cy : Nat → ClassId} {X : va_W} (S : wPS) (sz : Nat) (x1 : Int32) (x2 : Int32) (h1 : 0 ≤ x1.toInt ∧ x1.toInt ≤ 200) (h3 : 1 ≤ x1.toInt ∨ 1 ≤ x2.toInt) (h2 : x1.toInt < 32 ∧ 0 ≤ x2.toInt ∧ x2.toInt < x1.toInt) : Met l yX12_divisor wsX12_divisor ({ frames := 9, cells := 0, slots := 0, locals := 189 }) (va_Pc [.int x1, .int x2] (fun U => U.heap.size = sz ∧ WD D cy X (fun _ => True) S U ∧ NW U)) (va_Qi (fun r (_ : Unit) => r = f_X12_divisor_o5 x1 x2 ∧ 1 ≤ r.toInt ∧ r.toInt ≤ 200) (fun _ t => WD D cy X (va_A (X ++ PL cy S) sz) S t) (va_A (X ++ PL cy S) sz)) 0 0 (va_A (X ++ PL cy S) sz) := by
  refine Met.ofW (cc := cX12_divisor) (maxL := 2) (ret := (some .int)) (by decide) rfl ?_
  intro p e s m args below meth c s₁ B hml hv
  obtain ⟨rfl, hsz, ⟨hP, hK, hD0⟩, hN⟩ := hv
  have hx := B.exec
  have hb := B.bytes
  have hr := B.returns
  have hts := atoms_spec (ws := wsX12_divisor) B.pre
  have hown : s.vm.findClass RX12 = some m.cls := findClass_of_methodNamed (x := yX12_divisor) B.named
  have hlocks := B.notSynchronized
  subst hsz
  have hD := hD0.self (sz := s.heap.size)
  generalize hAe : va_A (X ++ PL cy S) s.heap.size = A at hD ⊢
  have hA : ∀ q : Nat, s.heap.size ≤ q → A q := fun q h => by rw [← hAe]; exact Or.inr h
  have hS : va_S A s.heap s.heap [] := va_S.rf
  have hl := lv_entry ([.int x1, .int x2]) (n := 2) (Nat.le_of_ble_eq_true rfl)
  rw [lg_entry_eq]
  generalize (lg_sl ([.int x1, .int x2]) ++ List.replicate (2 - (lg_sl ([.int x1, .int x2])).length) Slot.unset).toArray = ls at hl ⊢
  have hl : lv_has ls 2 [(0, .int x1), (1, .int x2)] := hl
  refine lv_iload_n hx hb dX12_divisor_0 rfl (lv_at hl 1 rfl) ?_
  refine lv_if_ne (tgt := 8) hx hb dX12_divisor_1 (by decide) (fun c1 => ?_) (fun c1 => ?_)
  · have c1i : ¬ x2.toInt = 0 := neq_v rfl rfl c1
    refine lv_iload_n hx hb dX12_divisor_8 rfl (lv_at hl 1 rfl) ?_
    refine lv_iload_n hx hb dX12_divisor_9 rfl (lv_at hl 0 rfl) ?_
    refine lv_iload_n hx hb dX12_divisor_10 rfl (lv_at hl 1 rfl) ?_
    refine lv_irem hx hb dX12_divisor_11 (nz_i (by omega)) ?_
    have hh9 := half_rem (x := x1) (y := x2) (m := 16) (by omega) (by omega) (by omega)
    have i2 := rem_rng (x := x1) (y := x2) (by omega) (by omega)
    have hFc := free_all hD hS hA
    refine va_calli (va_runS (As := [.int x2, .int (x1 - x1 / x2 * x2)]) (rest := []) ⟨hx, hb, hml, hown, hts⟩ (c_X12_divisor_e4 l (cy := cy) (X := X) (D := D) S _ x2 (x1 - x1 / x2 * x2) (by omega) (by omega) (by omega) (by omega)) (cwS 2 hts gX12_divisor_X12_divisor rfl rfl rfl hd_X12_divisor ⟨Nat.le_of_ble_eq_true rfl, Nat.le_of_ble_eq_true rfl⟩) (pS hP hK hD hN) rfl rfl hl.1 rfl (lv_room (Nat.le_of_ble_eq_true rfl)) dX12_divisor_12 ⟨(Nat.zero_le _), (Nat.zero_le _)⟩) hS (fun q _ h => hFc q h) hFc (fun r3 u t H1 locs ht hvm hw hB hz1 hk1 hS => ?_)
    obtain ⟨c4, y5⟩ := hw
    obtain ⟨hP, hD⟩ := wd_post hFc ht hB
    generalize H1 = H at hP hS ⊢
    obtain rfl : f_X12_divisor_e4 x2 (x1 - x1 / x2 * x2) = r3 := c4.symm
    refine W.widen (k := 0) (n := 0) (Nat.le_of_ble_eq_true rfl) (Nat.le_of_ble_eq_true rfl) ?_
    exact W.iret (v := f_X12_divisor_e4 x2 (x1 - x1 / x2 * x2)) hx hb hr (fun t ht hW9 => ⟨⟨f_X12_divisor_e4 x2 (x1 - x1 / x2 * x2), (), rfl, ⟨(by show (f_X12_divisor_e4 x2 (x1 - x1 / x2 * x2)) = f_X12_divisor_o5 x1 x2; unfold f_X12_divisor_o5; rw [if_neg c1]), (by omega)⟩, wd_end hP hK hD ht hW9.alike⟩, hS.F ht⟩) hS.2.2 dX12_divisor_15 hlocks
  · have c1i : x2.toInt = 0 := eq_v rfl rfl c1
    refine lv_iload_n hx hb dX12_divisor_4 rfl (lv_at hl 0 rfl) ?_
    refine lv_goto (tgt := 15) hx hb dX12_divisor_5 (by decide) ?_
    refine W.widen (k := 0) (n := 0) (Nat.le_of_ble_eq_true rfl) (Nat.le_of_ble_eq_true rfl) ?_
    exact W.iret (v := x1) hx hb hr (fun t ht hW9 => ⟨⟨x1, (), rfl, ⟨(by show x1 = f_X12_divisor_o5 x1 x2; unfold f_X12_divisor_o5; rw [if_pos c1]), (by omega)⟩, wd_end hP hK hD ht hW9.alike⟩, hS.F ht⟩) hS.2.2 dX12_divisor_15 hlocks
def f_X12_divisor_e5 (x1 : Int32) (x2 : Int32) : Int32 := if x2 = (0 : Int32) then x1 else f_X12_divisor_o5 x2 (x1 - x1 / x2 * x2)
set_option maxHeartbeats 4000000 in
set_option maxRecDepth 100000 in
theorem c_X12_divisor_e5 (l : Launch) {D : va_G} {cy : Nat → ClassId} {X : va_W} (S : wPS) (sz : Nat) (x1 : Int32) (x2 : Int32) (h1 : 0 ≤ x1.toInt ∧ x1.toInt ≤ 200) (h3 : 1 ≤ x1.toInt ∨ 1 ≤ x2.toInt) (h2 : 0 ≤ x2.toInt ∧ x2.toInt < 32) (h4 : x2.toInt ≤ 200) : Met l yX12_divisor wsX12_divisor ({ frames := 10, cells := 0, slots := 0, locals := 210 }) (va_Pc [.int x1, .int x2] (fun U => U.heap.size = sz ∧ WD D cy X (fun _ => True) S U ∧ NW U)) (va_Qi (fun r (_ : Unit) => r = f_X12_divisor_e5 x1 x2 ∧ 1 ≤ r.toInt ∧ r.toInt ≤ 200) (fun _ t => WD D cy X (va_A (X ++ PL cy S) sz) S t) (va_A (X ++ PL cy S) sz)) 0 0 (va_A (X ++ PL cy S) sz) := by
  refine Met.ofW (cc := cX12_divisor) (maxL := 2) (ret := (some .int)) (by decide) rfl ?_
  intro p e s m args below meth c s₁ B hml hv
  obtain ⟨rfl, hsz, ⟨hP, hK, hD0⟩, hN⟩ := hv
  have hx := B.exec
  have hb := B.bytes
  have hr := B.returns
  have hts := atoms_spec (ws := wsX12_divisor) B.pre
  have hown : s.vm.findClass RX12 = some m.cls := findClass_of_methodNamed (x := yX12_divisor) B.named
  have hlocks := B.notSynchronized
  subst hsz
  have hD := hD0.self (sz := s.heap.size)
  generalize hAe : va_A (X ++ PL cy S) s.heap.size = A at hD ⊢
  have hA : ∀ q : Nat, s.heap.size ≤ q → A q := fun q h => by rw [← hAe]; exact Or.inr h
  have hS : va_S A s.heap s.heap [] := va_S.rf
  have hl := lv_entry ([.int x1, .int x2]) (n := 2) (Nat.le_of_ble_eq_true rfl)
  rw [lg_entry_eq]
  generalize (lg_sl ([.int x1, .int x2]) ++ List.replicate (2 - (lg_sl ([.int x1, .int x2])).length) Slot.unset).toArray = ls at hl ⊢
  have hl : lv_has ls 2 [(0, .int x1), (1, .int x2)] := hl
  refine lv_iload_n hx hb dX12_divisor_0 rfl (lv_at hl 1 rfl) ?_
  refine lv_if_ne (tgt := 8) hx hb dX12_divisor_1 (by decide) (fun c1 => ?_) (fun c1 => ?_)
  · have c1i : ¬ x2.toInt = 0 := neq_v rfl rfl c1
    refine lv_iload_n hx hb dX12_divisor_8 rfl (lv_at hl 1 rfl) ?_
    refine lv_iload_n hx hb dX12_divisor_9 rfl (lv_at hl 0 rfl) ?_
    refine lv_iload_n hx hb dX12_divisor_10 rfl (lv_at hl 1 rfl) ?_
    refine lv_irem hx hb dX12_divisor_11 (nz_i (by omega)) ?_
    have i2 := rem_rng (x := x1) (y := x2) (by omega) (by omega)
    have hFc := free_all hD hS hA
    refine va_calli (va_runS (As := [.int x2, .int (x1 - x1 / x2 * x2)]) (rest := []) ⟨hx, hb, hml, hown, hts⟩ (c_X12_divisor_o5 l (cy := cy) (X := X) (D := D) S _ x2 (x1 - x1 / x2 * x2) (by omega) (by omega) (by omega)) (cwS 2 hts gX12_divisor_X12_divisor rfl rfl rfl hd_X12_divisor ⟨Nat.le_of_ble_eq_true rfl, Nat.le_of_ble_eq_true rfl⟩) (pS hP hK hD hN) rfl rfl hl.1 rfl (lv_room (Nat.le_of_ble_eq_true rfl)) dX12_divisor_12 ⟨(Nat.zero_le _), (Nat.zero_le _)⟩) hS (fun q _ h => hFc q h) hFc (fun r3 u t H1 locs ht hvm hw hB hz1 hk1 hS => ?_)
    obtain ⟨c4, y5⟩ := hw
    obtain ⟨hP, hD⟩ := wd_post hFc ht hB
    generalize H1 = H at hP hS ⊢
    obtain rfl : f_X12_divisor_o5 x2 (x1 - x1 / x2 * x2) = r3 := c4.symm
    refine W.widen (k := 0) (n := 0) (Nat.le_of_ble_eq_true rfl) (Nat.le_of_ble_eq_true rfl) ?_
    exact W.iret (v := f_X12_divisor_o5 x2 (x1 - x1 / x2 * x2)) hx hb hr (fun t ht hW9 => ⟨⟨f_X12_divisor_o5 x2 (x1 - x1 / x2 * x2), (), rfl, ⟨(by show (f_X12_divisor_o5 x2 (x1 - x1 / x2 * x2)) = f_X12_divisor_e5 x1 x2; unfold f_X12_divisor_e5; rw [if_neg c1]), (by omega)⟩, wd_end hP hK hD ht hW9.alike⟩, hS.F ht⟩) hS.2.2 dX12_divisor_15 hlocks
  · have c1i : x2.toInt = 0 := eq_v rfl rfl c1
    refine lv_iload_n hx hb dX12_divisor_4 rfl (lv_at hl 0 rfl) ?_
    refine lv_goto (tgt := 15) hx hb dX12_divisor_5 (by decide) ?_
    refine W.widen (k := 0) (n := 0) (Nat.le_of_ble_eq_true rfl) (Nat.le_of_ble_eq_true rfl) ?_
    exact W.iret (v := x1) hx hb hr (fun t ht hW9 => ⟨⟨x1, (), rfl, ⟨(by show x1 = f_X12_divisor_e5 x1 x2; unfold f_X12_divisor_e5; rw [if_pos c1]), (by omega)⟩, wd_end hP hK hD ht hW9.alike⟩, hS.F ht⟩) hS.2.2 dX12_divisor_15 hlocks
def f_X12_divisor_o6 (x1 : Int32) (x2 : Int32) : Int32 := if x2 = (0 : Int32) then x1 else f_X12_divisor_e5 x2 (x1 - x1 / x2 * x2)
set_option maxHeartbeats 4000000 in
set_option maxRecDepth 100000 in
theorem c_X12_divisor_o6 (l : Launch) {D : va_G} {cy : Nat → ClassId} {X : va_W} (S : wPS) (sz : Nat) (x1 : Int32) (x2 : Int32) (h1 : 0 ≤ x1.toInt ∧ x1.toInt ≤ 200) (h3 : 1 ≤ x1.toInt ∨ 1 ≤ x2.toInt) (h2 : x1.toInt < 64 ∧ 0 ≤ x2.toInt ∧ x2.toInt < x1.toInt) : Met l yX12_divisor wsX12_divisor ({ frames := 11, cells := 0, slots := 0, locals := 231 }) (va_Pc [.int x1, .int x2] (fun U => U.heap.size = sz ∧ WD D cy X (fun _ => True) S U ∧ NW U)) (va_Qi (fun r (_ : Unit) => r = f_X12_divisor_o6 x1 x2 ∧ 1 ≤ r.toInt ∧ r.toInt ≤ 200) (fun _ t => WD D cy X (va_A (X ++ PL cy S) sz) S t) (va_A (X ++ PL cy S) sz)) 0 0 (va_A (X ++ PL cy S) sz) := by
  refine Met.ofW (cc := cX12_divisor) (maxL := 2) (ret := (some .int)) (by decide) rfl ?_
  intro p e s m args below meth c s₁ B hml hv
  obtain ⟨rfl, hsz, ⟨hP, hK, hD0⟩, hN⟩ := hv
  have hx := B.exec
  have hb := B.bytes
  have hr := B.returns
  have hts := atoms_spec (ws := wsX12_divisor) B.pre
  have hown : s.vm.findClass RX12 = some m.cls := findClass_of_methodNamed (x := yX12_divisor) B.named
  have hlocks := B.notSynchronized
  subst hsz
  have hD := hD0.self (sz := s.heap.size)
  generalize hAe : va_A (X ++ PL cy S) s.heap.size = A at hD ⊢
  have hA : ∀ q : Nat, s.heap.size ≤ q → A q := fun q h => by rw [← hAe]; exact Or.inr h
  have hS : va_S A s.heap s.heap [] := va_S.rf
  have hl := lv_entry ([.int x1, .int x2]) (n := 2) (Nat.le_of_ble_eq_true rfl)
  rw [lg_entry_eq]
  generalize (lg_sl ([.int x1, .int x2]) ++ List.replicate (2 - (lg_sl ([.int x1, .int x2])).length) Slot.unset).toArray = ls at hl ⊢
  have hl : lv_has ls 2 [(0, .int x1), (1, .int x2)] := hl
  refine lv_iload_n hx hb dX12_divisor_0 rfl (lv_at hl 1 rfl) ?_
  refine lv_if_ne (tgt := 8) hx hb dX12_divisor_1 (by decide) (fun c1 => ?_) (fun c1 => ?_)
  · have c1i : ¬ x2.toInt = 0 := neq_v rfl rfl c1
    refine lv_iload_n hx hb dX12_divisor_8 rfl (lv_at hl 1 rfl) ?_
    refine lv_iload_n hx hb dX12_divisor_9 rfl (lv_at hl 0 rfl) ?_
    refine lv_iload_n hx hb dX12_divisor_10 rfl (lv_at hl 1 rfl) ?_
    refine lv_irem hx hb dX12_divisor_11 (nz_i (by omega)) ?_
    have hh9 := half_rem (x := x1) (y := x2) (m := 32) (by omega) (by omega) (by omega)
    have i2 := rem_rng (x := x1) (y := x2) (by omega) (by omega)
    have hFc := free_all hD hS hA
    refine va_calli (va_runS (As := [.int x2, .int (x1 - x1 / x2 * x2)]) (rest := []) ⟨hx, hb, hml, hown, hts⟩ (c_X12_divisor_e5 l (cy := cy) (X := X) (D := D) S _ x2 (x1 - x1 / x2 * x2) (by omega) (by omega) (by omega) (by omega)) (cwS 2 hts gX12_divisor_X12_divisor rfl rfl rfl hd_X12_divisor ⟨Nat.le_of_ble_eq_true rfl, Nat.le_of_ble_eq_true rfl⟩) (pS hP hK hD hN) rfl rfl hl.1 rfl (lv_room (Nat.le_of_ble_eq_true rfl)) dX12_divisor_12 ⟨(Nat.zero_le _), (Nat.zero_le _)⟩) hS (fun q _ h => hFc q h) hFc (fun r3 u t H1 locs ht hvm hw hB hz1 hk1 hS => ?_)
    obtain ⟨c4, y5⟩ := hw
    obtain ⟨hP, hD⟩ := wd_post hFc ht hB
    generalize H1 = H at hP hS ⊢
    obtain rfl : f_X12_divisor_e5 x2 (x1 - x1 / x2 * x2) = r3 := c4.symm
    refine W.widen (k := 0) (n := 0) (Nat.le_of_ble_eq_true rfl) (Nat.le_of_ble_eq_true rfl) ?_
    exact W.iret (v := f_X12_divisor_e5 x2 (x1 - x1 / x2 * x2)) hx hb hr (fun t ht hW9 => ⟨⟨f_X12_divisor_e5 x2 (x1 - x1 / x2 * x2), (), rfl, ⟨(by show (f_X12_divisor_e5 x2 (x1 - x1 / x2 * x2)) = f_X12_divisor_o6 x1 x2; unfold f_X12_divisor_o6; rw [if_neg c1]), (by omega)⟩, wd_end hP hK hD ht hW9.alike⟩, hS.F ht⟩) hS.2.2 dX12_divisor_15 hlocks
  · have c1i : x2.toInt = 0 := eq_v rfl rfl c1
    refine lv_iload_n hx hb dX12_divisor_4 rfl (lv_at hl 0 rfl) ?_
    refine lv_goto (tgt := 15) hx hb dX12_divisor_5 (by decide) ?_
    refine W.widen (k := 0) (n := 0) (Nat.le_of_ble_eq_true rfl) (Nat.le_of_ble_eq_true rfl) ?_
    exact W.iret (v := x1) hx hb hr (fun t ht hW9 => ⟨⟨x1, (), rfl, ⟨(by show x1 = f_X12_divisor_o6 x1 x2; unfold f_X12_divisor_o6; rw [if_pos c1]), (by omega)⟩, wd_end hP hK hD ht hW9.alike⟩, hS.F ht⟩) hS.2.2 dX12_divisor_15 hlocks
def f_X12_divisor_e6 (x1 : Int32) (x2 : Int32) : Int32 := if x2 = (0 : Int32) then x1 else f_X12_divisor_o6 x2 (x1 - x1 / x2 * x2)
set_option maxHeartbeats 4000000 in
set_option maxRecDepth 100000 in
theorem c_X12_divisor_e6 (l : Launch) {D : va_G} {cy : Nat → ClassId} {X : va_W} (S : wPS) (sz : Nat) (x1 : Int32) (x2 : Int32) (h1 : 0 ≤ x1.toInt ∧ x1.toInt ≤ 200) (h3 : 1 ≤ x1.toInt ∨ 1 ≤ x2.toInt) (h2 : 0 ≤ x2.toInt ∧ x2.toInt < 64) (h4 : x2.toInt ≤ 200) : Met l yX12_divisor wsX12_divisor ({ frames := 12, cells := 0, slots := 0, locals := 252 }) (va_Pc [.int x1, .int x2] (fun U => U.heap.size = sz ∧ WD D cy X (fun _ => True) S U ∧ NW U)) (va_Qi (fun r (_ : Unit) => r = f_X12_divisor_e6 x1 x2 ∧ 1 ≤ r.toInt ∧ r.toInt ≤ 200) (fun _ t => WD D cy X (va_A (X ++ PL cy S) sz) S t) (va_A (X ++ PL cy S) sz)) 0 0 (va_A (X ++ PL cy S) sz) := by
  refine Met.ofW (cc := cX12_divisor) (maxL := 2) (ret := (some .int)) (by decide) rfl ?_
  intro p e s m args below meth c s₁ B hml hv
  obtain ⟨rfl, hsz, ⟨hP, hK, hD0⟩, hN⟩ := hv
  have hx := B.exec
  have hb := B.bytes
  have hr := B.returns
  have hts := atoms_spec (ws := wsX12_divisor) B.pre
  have hown : s.vm.findClass RX12 = some m.cls := findClass_of_methodNamed (x := yX12_divisor) B.named
  have hlocks := B.notSynchronized
  subst hsz
  have hD := hD0.self (sz := s.heap.size)
  generalize hAe : va_A (X ++ PL cy S) s.heap.size = A at hD ⊢
  have hA : ∀ q : Nat, s.heap.size ≤ q → A q := fun q h => by rw [← hAe]; exact Or.inr h
  have hS : va_S A s.heap s.heap [] := va_S.rf
  have hl := lv_entry ([.int x1, .int x2]) (n := 2) (Nat.le_of_ble_eq_true rfl)
  rw [lg_entry_eq]
  generalize (lg_sl ([.int x1, .int x2]) ++ List.replicate (2 - (lg_sl ([.int x1, .int x2])).length) Slot.unset).toArray = ls at hl ⊢
  have hl : lv_has ls 2 [(0, .int x1), (1, .int x2)] := hl
  refine lv_iload_n hx hb dX12_divisor_0 rfl (lv_at hl 1 rfl) ?_
  refine lv_if_ne (tgt := 8) hx hb dX12_divisor_1 (by decide) (fun c1 => ?_) (fun c1 => ?_)
  · have c1i : ¬ x2.toInt = 0 := neq_v rfl rfl c1
    refine lv_iload_n hx hb dX12_divisor_8 rfl (lv_at hl 1 rfl) ?_
    refine lv_iload_n hx hb dX12_divisor_9 rfl (lv_at hl 0 rfl) ?_
    refine lv_iload_n hx hb dX12_divisor_10 rfl (lv_at hl 1 rfl) ?_
    refine lv_irem hx hb dX12_divisor_11 (nz_i (by omega)) ?_
    have i2 := rem_rng (x := x1) (y := x2) (by omega) (by omega)
    have hFc := free_all hD hS hA
    refine va_calli (va_runS (As := [.int x2, .int (x1 - x1 / x2 * x2)]) (rest := []) ⟨hx, hb, hml, hown, hts⟩ (c_X12_divisor_o6 l (cy := cy) (X := X) (D := D) S _ x2 (x1 - x1 / x2 * x2) (by omega) (by omega) (by omega)) (cwS 2 hts gX12_divisor_X12_divisor rfl rfl rfl hd_X12_divisor ⟨Nat.le_of_ble_eq_true rfl, Nat.le_of_ble_eq_true rfl⟩) (pS hP hK hD hN) rfl rfl hl.1 rfl (lv_room (Nat.le_of_ble_eq_true rfl)) dX12_divisor_12 ⟨(Nat.zero_le _), (Nat.zero_le _)⟩) hS (fun q _ h => hFc q h) hFc (fun r3 u t H1 locs ht hvm hw hB hz1 hk1 hS => ?_)
    obtain ⟨c4, y5⟩ := hw
    obtain ⟨hP, hD⟩ := wd_post hFc ht hB
    generalize H1 = H at hP hS ⊢
    obtain rfl : f_X12_divisor_o6 x2 (x1 - x1 / x2 * x2) = r3 := c4.symm
    refine W.widen (k := 0) (n := 0) (Nat.le_of_ble_eq_true rfl) (Nat.le_of_ble_eq_true rfl) ?_
    exact W.iret (v := f_X12_divisor_o6 x2 (x1 - x1 / x2 * x2)) hx hb hr (fun t ht hW9 => ⟨⟨f_X12_divisor_o6 x2 (x1 - x1 / x2 * x2), (), rfl, ⟨(by show (f_X12_divisor_o6 x2 (x1 - x1 / x2 * x2)) = f_X12_divisor_e6 x1 x2; unfold f_X12_divisor_e6; rw [if_neg c1]), (by omega)⟩, wd_end hP hK hD ht hW9.alike⟩, hS.F ht⟩) hS.2.2 dX12_divisor_15 hlocks
  · have c1i : x2.toInt = 0 := eq_v rfl rfl c1
    refine lv_iload_n hx hb dX12_divisor_4 rfl (lv_at hl 0 rfl) ?_
    refine lv_goto (tgt := 15) hx hb dX12_divisor_5 (by decide) ?_
    refine W.widen (k := 0) (n := 0) (Nat.le_of_ble_eq_true rfl) (Nat.le_of_ble_eq_true rfl) ?_
    exact W.iret (v := x1) hx hb hr (fun t ht hW9 => ⟨⟨x1, (), rfl, ⟨(by show x1 = f_X12_divisor_e6 x1 x2; unfold f_X12_divisor_e6; rw [if_pos c1]), (by omega)⟩, wd_end hP hK hD ht hW9.alike⟩, hS.F ht⟩) hS.2.2 dX12_divisor_15 hlocks
def f_X12_divisor_o7 (x1 : Int32) (x2 : Int32) : Int32 := if x2 = (0 : Int32) then x1 else f_X12_divisor_e6 x2 (x1 - x1 / x2 * x2)
set_option maxHeartbeats 4000000 in
set_option maxRecDepth 100000 in
theorem c_X12_divisor_o7 (l : Launch) {D : va_G} {cy : Nat → ClassId} {X : va_W} (S : wPS) (sz : Nat) (x1 : Int32) (x2 : Int32) (h1 : 0 ≤ x1.toInt ∧ x1.toInt ≤ 200) (h3 : 1 ≤ x1.toInt ∨ 1 ≤ x2.toInt) (h2 : x1.toInt < 128 ∧ 0 ≤ x2.toInt ∧ x2.toInt < x1.toInt) : Met l yX12_divisor wsX12_divisor ({ frames := 13, cells := 0, slots := 0, locals := 273 }) (va_Pc [.int x1, .int x2] (fun U => U.heap.size = sz ∧ WD D cy X (fun _ => True) S U ∧ NW U)) (va_Qi (fun r (_ : Unit) => r = f_X12_divisor_o7 x1 x2 ∧ 1 ≤ r.toInt ∧ r.toInt ≤ 200) (fun _ t => WD D cy X (va_A (X ++ PL cy S) sz) S t) (va_A (X ++ PL cy S) sz)) 0 0 (va_A (X ++ PL cy S) sz) := by
  refine Met.ofW (cc := cX12_divisor) (maxL := 2) (ret := (some .int)) (by decide) rfl ?_
  intro p e s m args below meth c s₁ B hml hv
  obtain ⟨rfl, hsz, ⟨hP, hK, hD0⟩, hN⟩ := hv
  have hx := B.exec
  have hb := B.bytes
  have hr := B.returns
  have hts := atoms_spec (ws := wsX12_divisor) B.pre
  have hown : s.vm.findClass RX12 = some m.cls := findClass_of_methodNamed (x := yX12_divisor) B.named
  have hlocks := B.notSynchronized
  subst hsz
  have hD := hD0.self (sz := s.heap.size)
  generalize hAe : va_A (X ++ PL cy S) s.heap.size = A at hD ⊢
  have hA : ∀ q : Nat, s.heap.size ≤ q → A q := fun q h => by rw [← hAe]; exact Or.inr h
  have hS : va_S A s.heap s.heap [] := va_S.rf
  have hl := lv_entry ([.int x1, .int x2]) (n := 2) (Nat.le_of_ble_eq_true rfl)
  rw [lg_entry_eq]
  generalize (lg_sl ([.int x1, .int x2]) ++ List.replicate (2 - (lg_sl ([.int x1, .int x2])).length) Slot.unset).toArray = ls at hl ⊢
  have hl : lv_has ls 2 [(0, .int x1), (1, .int x2)] := hl
  refine lv_iload_n hx hb dX12_divisor_0 rfl (lv_at hl 1 rfl) ?_
  refine lv_if_ne (tgt := 8) hx hb dX12_divisor_1 (by decide) (fun c1 => ?_) (fun c1 => ?_)
  · have c1i : ¬ x2.toInt = 0 := neq_v rfl rfl c1
    refine lv_iload_n hx hb dX12_divisor_8 rfl (lv_at hl 1 rfl) ?_
    refine lv_iload_n hx hb dX12_divisor_9 rfl (lv_at hl 0 rfl) ?_
    refine lv_iload_n hx hb dX12_divisor_10 rfl (lv_at hl 1 rfl) ?_
    refine lv_irem hx hb dX12_divisor_11 (nz_i (by omega)) ?_
    have hh9 := half_rem (x := x1) (y := x2) (m := 64) (by omega) (by omega) (by omega)
    have i2 := rem_rng (x := x1) (y := x2) (by omega) (by omega)
    have hFc := free_all hD hS hA
    refine va_calli (va_runS (As := [.int x2, .int (x1 - x1 / x2 * x2)]) (rest := []) ⟨hx, hb, hml, hown, hts⟩ (c_X12_divisor_e6 l (cy := cy) (X := X) (D := D) S _ x2 (x1 - x1 / x2 * x2) (by omega) (by omega) (by omega) (by omega)) (cwS 2 hts gX12_divisor_X12_divisor rfl rfl rfl hd_X12_divisor ⟨Nat.le_of_ble_eq_true rfl, Nat.le_of_ble_eq_true rfl⟩) (pS hP hK hD hN) rfl rfl hl.1 rfl (lv_room (Nat.le_of_ble_eq_true rfl)) dX12_divisor_12 ⟨(Nat.zero_le _), (Nat.zero_le _)⟩) hS (fun q _ h => hFc q h) hFc (fun r3 u t H1 locs ht hvm hw hB hz1 hk1 hS => ?_)
    obtain ⟨c4, y5⟩ := hw
    obtain ⟨hP, hD⟩ := wd_post hFc ht hB
    generalize H1 = H at hP hS ⊢
    obtain rfl : f_X12_divisor_e6 x2 (x1 - x1 / x2 * x2) = r3 := c4.symm
    refine W.widen (k := 0) (n := 0) (Nat.le_of_ble_eq_true rfl) (Nat.le_of_ble_eq_true rfl) ?_
    exact W.iret (v := f_X12_divisor_e6 x2 (x1 - x1 / x2 * x2)) hx hb hr (fun t ht hW9 => ⟨⟨f_X12_divisor_e6 x2 (x1 - x1 / x2 * x2), (), rfl, ⟨(by show (f_X12_divisor_e6 x2 (x1 - x1 / x2 * x2)) = f_X12_divisor_o7 x1 x2; unfold f_X12_divisor_o7; rw [if_neg c1]), (by omega)⟩, wd_end hP hK hD ht hW9.alike⟩, hS.F ht⟩) hS.2.2 dX12_divisor_15 hlocks
  · have c1i : x2.toInt = 0 := eq_v rfl rfl c1
    refine lv_iload_n hx hb dX12_divisor_4 rfl (lv_at hl 0 rfl) ?_
    refine lv_goto (tgt := 15) hx hb dX12_divisor_5 (by decide) ?_
    refine W.widen (k := 0) (n := 0) (Nat.le_of_ble_eq_true rfl) (Nat.le_of_ble_eq_true rfl) ?_
    exact W.iret (v := x1) hx hb hr (fun t ht hW9 => ⟨⟨x1, (), rfl, ⟨(by show x1 = f_X12_divisor_o7 x1 x2; unfold f_X12_divisor_o7; rw [if_pos c1]), (by omega)⟩, wd_end hP hK hD ht hW9.alike⟩, hS.F ht⟩) hS.2.2 dX12_divisor_15 hlocks
def f_X12_divisor_e7 (x1 : Int32) (x2 : Int32) : Int32 := if x2 = (0 : Int32) then x1 else f_X12_divisor_o7 x2 (x1 - x1 / x2 * x2)
set_option maxHeartbeats 4000000 in
set_option maxRecDepth 100000 in
theorem c_X12_divisor_e7 (l : Launch) {D : va_G} {cy : Nat → ClassId} {X : va_W} (S : wPS) (sz : Nat) (x1 : Int32) (x2 : Int32) (h1 : 0 ≤ x1.toInt ∧ x1.toInt ≤ 200) (h3 : 1 ≤ x1.toInt ∨ 1 ≤ x2.toInt) (h2 : 0 ≤ x2.toInt ∧ x2.toInt < 128) (h4 : x2.toInt ≤ 200) : Met l yX12_divisor wsX12_divisor ({ frames := 14, cells := 0, slots := 0, locals := 294 }) (va_Pc [.int x1, .int x2] (fun U => U.heap.size = sz ∧ WD D cy X (fun _ => True) S U ∧ NW U)) (va_Qi (fun r (_ : Unit) => r = f_X12_divisor_e7 x1 x2 ∧ 1 ≤ r.toInt ∧ r.toInt ≤ 200) (fun _ t => WD D cy X (va_A (X ++ PL cy S) sz) S t) (va_A (X ++ PL cy S) sz)) 0 0 (va_A (X ++ PL cy S) sz) := by
  refine Met.ofW (cc := cX12_divisor) (maxL := 2) (ret := (some .int)) (by decide) rfl ?_
  intro p e s m args below meth c s₁ B hml hv
  obtain ⟨rfl, hsz, ⟨hP, hK, hD0⟩, hN⟩ := hv
  have hx := B.exec
  have hb := B.bytes
  have hr := B.returns
  have hts := atoms_spec (ws := wsX12_divisor) B.pre
  have hown : s.vm.findClass RX12 = some m.cls := findClass_of_methodNamed (x := yX12_divisor) B.named
  have hlocks := B.notSynchronized
  subst hsz
  have hD := hD0.self (sz := s.heap.size)
  generalize hAe : va_A (X ++ PL cy S) s.heap.size = A at hD ⊢
  have hA : ∀ q : Nat, s.heap.size ≤ q → A q := fun q h => by rw [← hAe]; exact Or.inr h
  have hS : va_S A s.heap s.heap [] := va_S.rf
  have hl := lv_entry ([.int x1, .int x2]) (n := 2) (Nat.le_of_ble_eq_true rfl)
  rw [lg_entry_eq]
  generalize (lg_sl ([.int x1, .int x2]) ++ List.replicate (2 - (lg_sl ([.int x1, .int x2])).length) Slot.unset).toArray = ls at hl ⊢
  have hl : lv_has ls 2 [(0, .int x1), (1, .int x2)] := hl
  refine lv_iload_n hx hb dX12_divisor_0 rfl (lv_at hl 1 rfl) ?_
  refine lv_if_ne (tgt := 8) hx hb dX12_divisor_1 (by decide) (fun c1 => ?_) (fun c1 => ?_)
  · have c1i : ¬ x2.toInt = 0 := neq_v rfl rfl c1
    refine lv_iload_n hx hb dX12_divisor_8 rfl (lv_at hl 1 rfl) ?_
    refine lv_iload_n hx hb dX12_divisor_9 rfl (lv_at hl 0 rfl) ?_
    refine lv_iload_n hx hb dX12_divisor_10 rfl (lv_at hl 1 rfl) ?_
    refine lv_irem hx hb dX12_divisor_11 (nz_i (by omega)) ?_
    have i2 := rem_rng (x := x1) (y := x2) (by omega) (by omega)
    have hFc := free_all hD hS hA
    refine va_calli (va_runS (As := [.int x2, .int (x1 - x1 / x2 * x2)]) (rest := []) ⟨hx, hb, hml, hown, hts⟩ (c_X12_divisor_o7 l (cy := cy) (X := X) (D := D) S _ x2 (x1 - x1 / x2 * x2) (by omega) (by omega) (by omega)) (cwS 2 hts gX12_divisor_X12_divisor rfl rfl rfl hd_X12_divisor ⟨Nat.le_of_ble_eq_true rfl, Nat.le_of_ble_eq_true rfl⟩) (pS hP hK hD hN) rfl rfl hl.1 rfl (lv_room (Nat.le_of_ble_eq_true rfl)) dX12_divisor_12 ⟨(Nat.zero_le _), (Nat.zero_le _)⟩) hS (fun q _ h => hFc q h) hFc (fun r3 u t H1 locs ht hvm hw hB hz1 hk1 hS => ?_)
    obtain ⟨c4, y5⟩ := hw
    obtain ⟨hP, hD⟩ := wd_post hFc ht hB
    generalize H1 = H at hP hS ⊢
    obtain rfl : f_X12_divisor_o7 x2 (x1 - x1 / x2 * x2) = r3 := c4.symm
    refine W.widen (k := 0) (n := 0) (Nat.le_of_ble_eq_true rfl) (Nat.le_of_ble_eq_true rfl) ?_
    exact W.iret (v := f_X12_divisor_o7 x2 (x1 - x1 / x2 * x2)) hx hb hr (fun t ht hW9 => ⟨⟨f_X12_divisor_o7 x2 (x1 - x1 / x2 * x2), (), rfl, ⟨(by show (f_X12_divisor_o7 x2 (x1 - x1 / x2 * x2)) = f_X12_divisor_e7 x1 x2; unfold f_X12_divisor_e7; rw [if_neg c1]), (by omega)⟩, wd_end hP hK hD ht hW9.alike⟩, hS.F ht⟩) hS.2.2 dX12_divisor_15 hlocks
  · have c1i : x2.toInt = 0 := eq_v rfl rfl c1
    refine lv_iload_n hx hb dX12_divisor_4 rfl (lv_at hl 0 rfl) ?_
    refine lv_goto (tgt := 15) hx hb dX12_divisor_5 (by decide) ?_
    refine W.widen (k := 0) (n := 0) (Nat.le_of_ble_eq_true rfl) (Nat.le_of_ble_eq_true rfl) ?_
    exact W.iret (v := x1) hx hb hr (fun t ht hW9 => ⟨⟨x1, (), rfl, ⟨(by show x1 = f_X12_divisor_e7 x1 x2; unfold f_X12_divisor_e7; rw [if_pos c1]), (by omega)⟩, wd_end hP hK hD ht hW9.alike⟩, hS.F ht⟩) hS.2.2 dX12_divisor_15 hlocks
def f_X12_divisor_o8 (x1 : Int32) (x2 : Int32) : Int32 := if x2 = (0 : Int32) then x1 else f_X12_divisor_e7 x2 (x1 - x1 / x2 * x2)
set_option maxHeartbeats 4000000 in
set_option maxRecDepth 100000 in
theorem c_X12_divisor_o8 (l : Launch) {D : va_G} {cy : Nat → ClassId} {X : va_W} (S : wPS) (sz : Nat) (x1 : Int32) (x2 : Int32) (h1 : 0 ≤ x1.toInt ∧ x1.toInt ≤ 200) (h3 : 1 ≤ x1.toInt ∨ 1 ≤ x2.toInt) (h2 : x1.toInt < 256 ∧ 0 ≤ x2.toInt ∧ x2.toInt < x1.toInt) : Met l yX12_divisor wsX12_divisor ({ frames := 15, cells := 0, slots := 0, locals := 315 }) (va_Pc [.int x1, .int x2] (fun U => U.heap.size = sz ∧ WD D cy X (fun _ => True) S U ∧ NW U)) (va_Qi (fun r (_ : Unit) => r = f_X12_divisor_o8 x1 x2 ∧ 1 ≤ r.toInt ∧ r.toInt ≤ 200) (fun _ t => WD D cy X (va_A (X ++ PL cy S) sz) S t) (va_A (X ++ PL cy S) sz)) 0 0 (va_A (X ++ PL cy S) sz) := by
  refine Met.ofW (cc := cX12_divisor) (maxL := 2) (ret := (some .int)) (by decide) rfl ?_
  intro p e s m args below meth c s₁ B hml hv
  obtain ⟨rfl, hsz, ⟨hP, hK, hD0⟩, hN⟩ := hv
  have hx := B.exec
  have hb := B.bytes
  have hr := B.returns
  have hts := atoms_spec (ws := wsX12_divisor) B.pre
  have hown : s.vm.findClass RX12 = some m.cls := findClass_of_methodNamed (x := yX12_divisor) B.named
  have hlocks := B.notSynchronized
  subst hsz
  have hD := hD0.self (sz := s.heap.size)
  generalize hAe : va_A (X ++ PL cy S) s.heap.size = A at hD ⊢
  have hA : ∀ q : Nat, s.heap.size ≤ q → A q := fun q h => by rw [← hAe]; exact Or.inr h
  have hS : va_S A s.heap s.heap [] := va_S.rf
  have hl := lv_entry ([.int x1, .int x2]) (n := 2) (Nat.le_of_ble_eq_true rfl)
  rw [lg_entry_eq]
  generalize (lg_sl ([.int x1, .int x2]) ++ List.replicate (2 - (lg_sl ([.int x1, .int x2])).length) Slot.unset).toArray = ls at hl ⊢
  have hl : lv_has ls 2 [(0, .int x1), (1, .int x2)] := hl
  refine lv_iload_n hx hb dX12_divisor_0 rfl (lv_at hl 1 rfl) ?_
  refine lv_if_ne (tgt := 8) hx hb dX12_divisor_1 (by decide) (fun c1 => ?_) (fun c1 => ?_)
  · have c1i : ¬ x2.toInt = 0 := neq_v rfl rfl c1
    refine lv_iload_n hx hb dX12_divisor_8 rfl (lv_at hl 1 rfl) ?_
    refine lv_iload_n hx hb dX12_divisor_9 rfl (lv_at hl 0 rfl) ?_
    refine lv_iload_n hx hb dX12_divisor_10 rfl (lv_at hl 1 rfl) ?_
    refine lv_irem hx hb dX12_divisor_11 (nz_i (by omega)) ?_
    have hh9 := half_rem (x := x1) (y := x2) (m := 128) (by omega) (by omega) (by omega)
    have i2 := rem_rng (x := x1) (y := x2) (by omega) (by omega)
    have hFc := free_all hD hS hA
    refine va_calli (va_runS (As := [.int x2, .int (x1 - x1 / x2 * x2)]) (rest := []) ⟨hx, hb, hml, hown, hts⟩ (c_X12_divisor_e7 l (cy := cy) (X := X) (D := D) S _ x2 (x1 - x1 / x2 * x2) (by omega) (by omega) (by omega) (by omega)) (cwS 2 hts gX12_divisor_X12_divisor rfl rfl rfl hd_X12_divisor ⟨Nat.le_of_ble_eq_true rfl, Nat.le_of_ble_eq_true rfl⟩) (pS hP hK hD hN) rfl rfl hl.1 rfl (lv_room (Nat.le_of_ble_eq_true rfl)) dX12_divisor_12 ⟨(Nat.zero_le _), (Nat.zero_le _)⟩) hS (fun q _ h => hFc q h) hFc (fun r3 u t H1 locs ht hvm hw hB hz1 hk1 hS => ?_)
    obtain ⟨c4, y5⟩ := hw
    obtain ⟨hP, hD⟩ := wd_post hFc ht hB
    generalize H1 = H at hP hS ⊢
    obtain rfl : f_X12_divisor_e7 x2 (x1 - x1 / x2 * x2) = r3 := c4.symm
    refine W.widen (k := 0) (n := 0) (Nat.le_of_ble_eq_true rfl) (Nat.le_of_ble_eq_true rfl) ?_
    exact W.iret (v := f_X12_divisor_e7 x2 (x1 - x1 / x2 * x2)) hx hb hr (fun t ht hW9 => ⟨⟨f_X12_divisor_e7 x2 (x1 - x1 / x2 * x2), (), rfl, ⟨(by show (f_X12_divisor_e7 x2 (x1 - x1 / x2 * x2)) = f_X12_divisor_o8 x1 x2; unfold f_X12_divisor_o8; rw [if_neg c1]), (by omega)⟩, wd_end hP hK hD ht hW9.alike⟩, hS.F ht⟩) hS.2.2 dX12_divisor_15 hlocks
  · have c1i : x2.toInt = 0 := eq_v rfl rfl c1
    refine lv_iload_n hx hb dX12_divisor_4 rfl (lv_at hl 0 rfl) ?_
    refine lv_goto (tgt := 15) hx hb dX12_divisor_5 (by decide) ?_
    refine W.widen (k := 0) (n := 0) (Nat.le_of_ble_eq_true rfl) (Nat.le_of_ble_eq_true rfl) ?_
    exact W.iret (v := x1) hx hb hr (fun t ht hW9 => ⟨⟨x1, (), rfl, ⟨(by show x1 = f_X12_divisor_o8 x1 x2; unfold f_X12_divisor_o8; rw [if_pos c1]), (by omega)⟩, wd_end hP hK hD ht hW9.alike⟩, hS.F ht⟩) hS.2.2 dX12_divisor_15 hlocks
def f_X12_divisor_e8 (x1 : Int32) (x2 : Int32) : Int32 := if x2 = (0 : Int32) then x1 else f_X12_divisor_o8 x2 (x1 - x1 / x2 * x2)
set_option maxHeartbeats 4000000 in
set_option maxRecDepth 100000 in
theorem c_X12_divisor_e8 (l : Launch) {D : va_G} {cy : Nat → ClassId} {X : va_W} (S : wPS) (sz : Nat) (x1 : Int32) (x2 : Int32) (h1 : 0 ≤ x1.toInt ∧ x1.toInt ≤ 200) (h3 : 1 ≤ x1.toInt ∨ 1 ≤ x2.toInt) (h2 : 0 ≤ x2.toInt ∧ x2.toInt < 256) (h4 : x2.toInt ≤ 200) : Met l yX12_divisor wsX12_divisor ({ frames := 16, cells := 0, slots := 0, locals := 336 }) (va_Pc [.int x1, .int x2] (fun U => U.heap.size = sz ∧ WD D cy X (fun _ => True) S U ∧ NW U)) (va_Qi (fun r (_ : Unit) => r = f_X12_divisor_e8 x1 x2 ∧ 1 ≤ r.toInt ∧ r.toInt ≤ 200) (fun _ t => WD D cy X (va_A (X ++ PL cy S) sz) S t) (va_A (X ++ PL cy S) sz)) 0 0 (va_A (X ++ PL cy S) sz) := by
  refine Met.ofW (cc := cX12_divisor) (maxL := 2) (ret := (some .int)) (by decide) rfl ?_
  intro p e s m args below meth c s₁ B hml hv
  obtain ⟨rfl, hsz, ⟨hP, hK, hD0⟩, hN⟩ := hv
  have hx := B.exec
  have hb := B.bytes
  have hr := B.returns
  have hts := atoms_spec (ws := wsX12_divisor) B.pre
  have hown : s.vm.findClass RX12 = some m.cls := findClass_of_methodNamed (x := yX12_divisor) B.named
  have hlocks := B.notSynchronized
  subst hsz
  have hD := hD0.self (sz := s.heap.size)
  generalize hAe : va_A (X ++ PL cy S) s.heap.size = A at hD ⊢
  have hA : ∀ q : Nat, s.heap.size ≤ q → A q := fun q h => by rw [← hAe]; exact Or.inr h
  have hS : va_S A s.heap s.heap [] := va_S.rf
  have hl := lv_entry ([.int x1, .int x2]) (n := 2) (Nat.le_of_ble_eq_true rfl)
  rw [lg_entry_eq]
  generalize (lg_sl ([.int x1, .int x2]) ++ List.replicate (2 - (lg_sl ([.int x1, .int x2])).length) Slot.unset).toArray = ls at hl ⊢
  have hl : lv_has ls 2 [(0, .int x1), (1, .int x2)] := hl
  refine lv_iload_n hx hb dX12_divisor_0 rfl (lv_at hl 1 rfl) ?_
  refine lv_if_ne (tgt := 8) hx hb dX12_divisor_1 (by decide) (fun c1 => ?_) (fun c1 => ?_)
  · have c1i : ¬ x2.toInt = 0 := neq_v rfl rfl c1
    refine lv_iload_n hx hb dX12_divisor_8 rfl (lv_at hl 1 rfl) ?_
    refine lv_iload_n hx hb dX12_divisor_9 rfl (lv_at hl 0 rfl) ?_
    refine lv_iload_n hx hb dX12_divisor_10 rfl (lv_at hl 1 rfl) ?_
    refine lv_irem hx hb dX12_divisor_11 (nz_i (by omega)) ?_
    have i2 := rem_rng (x := x1) (y := x2) (by omega) (by omega)
    have hFc := free_all hD hS hA
    refine va_calli (va_runS (As := [.int x2, .int (x1 - x1 / x2 * x2)]) (rest := []) ⟨hx, hb, hml, hown, hts⟩ (c_X12_divisor_o8 l (cy := cy) (X := X) (D := D) S _ x2 (x1 - x1 / x2 * x2) (by omega) (by omega) (by omega)) (cwS 2 hts gX12_divisor_X12_divisor rfl rfl rfl hd_X12_divisor ⟨Nat.le_of_ble_eq_true rfl, Nat.le_of_ble_eq_true rfl⟩) (pS hP hK hD hN) rfl rfl hl.1 rfl (lv_room (Nat.le_of_ble_eq_true rfl)) dX12_divisor_12 ⟨(Nat.zero_le _), (Nat.zero_le _)⟩) hS (fun q _ h => hFc q h) hFc (fun r3 u t H1 locs ht hvm hw hB hz1 hk1 hS => ?_)
    obtain ⟨c4, y5⟩ := hw
    obtain ⟨hP, hD⟩ := wd_post hFc ht hB
    generalize H1 = H at hP hS ⊢
    obtain rfl : f_X12_divisor_o8 x2 (x1 - x1 / x2 * x2) = r3 := c4.symm
    refine W.widen (k := 0) (n := 0) (Nat.le_of_ble_eq_true rfl) (Nat.le_of_ble_eq_true rfl) ?_
    exact W.iret (v := f_X12_divisor_o8 x2 (x1 - x1 / x2 * x2)) hx hb hr (fun t ht hW9 => ⟨⟨f_X12_divisor_o8 x2 (x1 - x1 / x2 * x2), (), rfl, ⟨(by show (f_X12_divisor_o8 x2 (x1 - x1 / x2 * x2)) = f_X12_divisor_e8 x1 x2; unfold f_X12_divisor_e8; rw [if_neg c1]), (by omega)⟩, wd_end hP hK hD ht hW9.alike⟩, hS.F ht⟩) hS.2.2 dX12_divisor_15 hlocks
  · have c1i : x2.toInt = 0 := eq_v rfl rfl c1
    refine lv_iload_n hx hb dX12_divisor_4 rfl (lv_at hl 0 rfl) ?_
    refine lv_goto (tgt := 15) hx hb dX12_divisor_5 (by decide) ?_
    refine W.widen (k := 0) (n := 0) (Nat.le_of_ble_eq_true rfl) (Nat.le_of_ble_eq_true rfl) ?_
    exact W.iret (v := x1) hx hb hr (fun t ht hW9 => ⟨⟨x1, (), rfl, ⟨(by show x1 = f_X12_divisor_e8 x1 x2; unfold f_X12_divisor_e8; rw [if_pos c1]), (by omega)⟩, wd_end hP hK hD ht hW9.alike⟩, hS.F ht⟩) hS.2.2 dX12_divisor_15 hlocks
def f_X12_overlapOf (S : wPS) (o1 : Nat) (o2 : Nat) : Int64 := ((((if (S.I o2 4) < (S.I o1 4) then (S.I o2 4) else (S.I o1 4)).toInt64) * ((if 0 ≤ (S.I o1 3) then (S.I o1 3) else 0 - (S.I o1 3)).toInt64)) * (113 : Int64)) / ((355 : Int64) * ((S.I o1 2).toInt64))
theorem hi_X12_overlapOf_X10 : ∀ w ∈ u_ws RX10 TX10 23, w ∈ wsX12_overlapOf := by decide +kernel
theorem hd_X12_overlapOf : yX12_overlapOf.cls = RX12 ∧ yX12_overlapOf.cls ≠ "java/lang/invoke/MethodHandle" ∧ yX12_overlapOf.cls ≠ "java/lang/invoke/VarHandle" ∧ (parseMethodDescriptor yX12_overlapOf.desc).map (fun d => d.parameters.length) = some 2 := by decide +kernel
set_option maxHeartbeats 4000000 in
set_option maxRecDepth 100000 in
theorem c_X12_overlapOf (l : Launch) {D : va_G} {cy : Nat → ClassId} {X : va_W} (S : wPS) (sz : Nat) (o1 : Nat) (h_o1 : isA S o1 10) (o2 : Nat) (h_o2 : isA S o2 10) (hW : wtB S [])  : Met l yX12_overlapOf wsX12_overlapOf ({ frames := 1, cells := 0, slots := 0, locals := 15 }) (va_Pc [.ref o1, .ref o2] (fun U => U.heap.size = sz ∧ WD D cy X (fun _ => True) S U ∧ NW U)) (va_Ql (fun r (_ : Unit) => r = f_X12_overlapOf S o1 o2) (fun _ t => WD D cy X (va_A (X ++ PL cy S) sz) S t) (va_A (X ++ PL cy S) sz)) 0 0 (va_A (X ++ PL cy S) sz) := by
  refine Met.ofW (cc := cX12_overlapOf) (maxL := 2) (ret := (some .long)) (by decide) rfl ?_
  intro p e s m args below meth c s₁ B hml hv
  obtain ⟨rfl, hsz, ⟨hP, hK, hD0⟩, hN⟩ := hv
  have hx := B.exec
  have hb := B.bytes
  have hr := B.returns
  have hts := atoms_spec (ws := wsX12_overlapOf) B.pre
  have hown : s.vm.findClass RX12 = some m.cls := findClass_of_methodNamed (x := yX12_overlapOf) B.named
  have hlocks := B.notSynchronized
  subst hsz
  have hD := hD0.self (sz := s.heap.size)
  generalize hAe : va_A (X ++ PL cy S) s.heap.size = A at hD ⊢
  have hA : ∀ q : Nat, s.heap.size ≤ q → A q := fun q h => by rw [← hAe]; exact Or.inr h
  have hS : va_S A s.heap s.heap [] := va_S.rf
  have hl := lv_entry ([.ref o1, .ref o2]) (n := 2) (Nat.le_of_ble_eq_true rfl)
  rw [lg_entry_eq]
  generalize (lg_sl ([.ref o1, .ref o2]) ++ List.replicate (2 - (lg_sl ([.ref o1, .ref o2])).length) Slot.unset).toArray = ls at hl ⊢
  have hl : lv_has ls 2 [(0, .ref o1), (1, .ref o2)] := hl
  refine lv_aload_n hx hb dX12_overlapOf_0 rfl (lv_at hl 0 rfl) ?_
  obtain ⟨k1, gk1, hk1⟩ := wGt (cy := cy) X S h_o1.1 h_o1.2.1
  have i2 := ((hW.at h_o1 List.not_mem_nil).to_10 h_o1.2.1).R4
  refine va_getN (D := D) (ci := 14) (v := .int (S.I o1 4)) (C := RX10) (T := TX10) (N := 23) hx hb hts hi_X12_overlapOf_X10 hown hK hP k1 hk1 rfl 4 (by decide) (va_Nw.use rfl (hN (.fieldLinkNest RX12 209 "HobhouseModel$Gear" "width" "I" "HobhouseModel") (by decide +kernel))) (fun _ h9 => h9) rfl dX12_overlapOf_1 ?_
  refine lv_aload_n hx hb dX12_overlapOf_4 rfl (lv_at hl 1 rfl) ?_
  obtain ⟨k3, gk3, hk3⟩ := wGt (cy := cy) X S h_o2.1 h_o2.2.1
  have i4 := ((hW.at h_o2 List.not_mem_nil).to_10 h_o2.2.1).R4
  refine va_getN (D := D) (ci := 14) (v := .int (S.I o2 4)) (C := RX10) (T := TX10) (N := 23) hx hb hts hi_X12_overlapOf_X10 hown hK hP k3 hk3 rfl 4 (by decide) (va_Nw.use rfl (hN (.fieldLinkNest RX12 209 "HobhouseModel$Gear" "width" "I" "HobhouseModel") (by decide +kernel))) (fun _ h9 => h9) rfl dX12_overlapOf_5 ?_
  refine va_mmin hx hb (hml.trans hl.1.symm) hown (hts (.methodLink RX12 212 Lib.Math.min.name) (by decide +kernel)) (hts (.static Lib.Math.min.name) (by decide +kernel)) (hts (.initialized "java/lang/Math") (by decide +kernel)) (hts (.code Lib.Math.min.name Lib.Math.min.code 2 (some .int)) (by decide +kernel)) (Nat.le_of_ble_eq_true rfl) (Nat.le_of_ble_eq_true rfl) (Nat.zero_le _) (Nat.zero_le _) dX12_overlapOf_8 ?_
  refine lv_i2l hx hb dX12_overlapOf_11 rfl ?_
  refine lv_aload_n hx hb dX12_overlapOf_12 rfl (lv_at hl 0 rfl) ?_
  obtain ⟨k5, gk5, hk5⟩ := wGt (cy := cy) X S h_o1.1 h_o1.2.1
  have i6 := ((hW.at h_o1 List.not_mem_nil).to_10 h_o1.2.1).R3
  refine va_getN (D := D) (ci := 14) (v := .int (S.I o1 3)) (C := RX10) (T := TX10) (N := 23) hx hb hts hi_X12_overlapOf_X10 hown hK hP k5 hk5 rfl 3 (by decide) (va_Nw.use rfl (hN (.fieldLinkNest RX12 118 "HobhouseModel$Gear" "helix" "I" "HobhouseModel") (by decide +kernel))) (fun _ h9 => h9) rfl dX12_overlapOf_13 ?_
  refine va_mabs hx hb (hml.trans hl.1.symm) hown (hts (.methodLink RX12 215 Lib.Math.abs.name) (by decide +kernel)) (hts (.static Lib.Math.abs.name) (by decide +kernel)) (hts (.initialized "java/lang/Math") (by decide +kernel)) (hts (.code Lib.Math.abs.name Lib.Math.abs.code 1 (some .int)) (by decide +kernel)) (Nat.le_of_ble_eq_true rfl) (Nat.le_of_ble_eq_true rfl) (Nat.zero_le _) (Nat.zero_le _) dX12_overlapOf_16 ?_
  refine lv_i2l hx hb dX12_overlapOf_19 rfl ?_
  refine lv_lmul hx hb dX12_overlapOf_20 ?_
  refine lv_ldc2 (own := RX12) (v := 113) hx hb hown (hts (.constantLong RX12 201 (113)) (by decide +kernel)) dX12_overlapOf_21 ?_
  refine lv_lmul hx hb dX12_overlapOf_24 ?_
  refine lv_ldc2 (own := RX12) (v := 355) hx hb hown (hts (.constantLong RX12 218 (355)) (by decide +kernel)) dX12_overlapOf_25 ?_
  refine lv_aload_n hx hb dX12_overlapOf_28 rfl (lv_at hl 0 rfl) ?_
  obtain ⟨k7, gk7, hk7⟩ := wGt (cy := cy) X S h_o1.1 h_o1.2.1
  have i8 := ((hW.at h_o1 List.not_mem_nil).to_10 h_o1.2.1).R2
  refine va_getN (D := D) (ci := 14) (v := .int (S.I o1 2)) (C := RX10) (T := TX10) (N := 23) hx hb hts hi_X12_overlapOf_X10 hown hK hP k7 hk7 rfl 2 (by decide) (va_Nw.use rfl (hN (.fieldLinkNest RX12 115 "HobhouseModel$Gear" "module" "I" "HobhouseModel") (by decide +kernel))) (fun _ h9 => h9) rfl dX12_overlapOf_29 ?_
  refine lv_i2l hx hb dX12_overlapOf_32 rfl ?_
  refine lv_lmul hx hb dX12_overlapOf_33 ?_
  refine lv_ldiv hx hb dX12_overlapOf_34 (km_nz rfl ((hW.at h_o1 List.not_mem_nil).to_10 h_o1.2.1).R2) ?_
  refine W.widen (k := 0) (n := 0) (Nat.le_of_ble_eq_true rfl) (Nat.le_of_ble_eq_true rfl) ?_
  exact W.lret (v := ((((if (S.I o2 4) < (S.I o1 4) then (S.I o2 4) else (S.I o1 4)).toInt64) * ((if 0 ≤ (S.I o1 3) then (S.I o1 3) else 0 - (S.I o1 3)).toInt64)) * (113 : Int64)) / ((355 : Int64) * ((S.I o1 2).toInt64))) hx hb hr (fun t ht hW9 => ⟨⟨((((if (S.I o2 4) < (S.I o1 4) then (S.I o2 4) else (S.I o1 4)).toInt64) * ((if 0 ≤ (S.I o1 3) then (S.I o1 3) else 0 - (S.I o1 3)).toInt64)) * (113 : Int64)) / ((355 : Int64) * ((S.I o1 2).toInt64)), (), rfl, (by show (((((if (S.I o2 4) < (S.I o1 4) then (S.I o2 4) else (S.I o1 4)).toInt64) * ((if 0 ≤ (S.I o1 3) then (S.I o1 3) else 0 - (S.I o1 3)).toInt64)) * (113 : Int64)) / ((355 : Int64) * ((S.I o1 2).toInt64))) = f_X12_overlapOf S o1 o2; unfold f_X12_overlapOf; rfl), wd_end hP hK hD ht hW9.alike⟩, hS.F ht⟩) hS.2.2 dX12_overlapOf_35 hlocks
def f_X12_contactOf (S : wPS) (o1 : Nat) (o2 : Nat) (o3 : Nat) : Int64 := (if (((1000 : Int64) * (((f_X10_line S o2 (S.I o2 7)) + (f_X10_line S o3 (S.I o3 7))) - (f_X12_root ((((16 : Int64) * ((f_X10_across S o2) + (f_X10_across S o3))) * ((f_X10_across S o2) + (f_X10_across S o3))) / (137 : Int64))))) / ((f_X12_root (((((7810 : Int64) * ((S.I o2 2).toInt64)) * (7810 : Int64)) * ((S.I o2 2).toInt64)) / (137 : Int64))) / (113 : Int64))) < (0 : Int64) then (0 : Int64) else (((1000 : Int64) * (((f_X10_line S o2 (S.I o2 7)) + (f_X10_line S o3 (S.I o3 7))) - (f_X12_root ((((16 : Int64) * ((f_X10_across S o2) + (f_X10_across S o3))) * ((f_X10_across S o2) + (f_X10_across S o3))) / (137 : Int64))))) / ((f_X12_root (((((7810 : Int64) * ((S.I o2 2).toInt64)) * (7810 : Int64)) * ((S.I o2 2).toInt64)) / (137 : Int64))) / (113 : Int64))))
theorem hi_X12_contactOf_X10 : ∀ w ∈ u_ws RX10 TX10 23, w ∈ wsX12_contactOf := by decide +kernel
theorem hd_X12_contactOf : yX12_contactOf.cls = RX12 ∧ yX12_contactOf.cls ≠ "java/lang/invoke/MethodHandle" ∧ yX12_contactOf.cls ≠ "java/lang/invoke/VarHandle" ∧ (parseMethodDescriptor yX12_contactOf.desc).map (fun d => d.parameters.length) = some 2 := by decide +kernel
set_option maxHeartbeats 4000000 in
set_option maxRecDepth 100000 in
theorem c_X12_contactOf (l : Launch) {D : va_G} {cy : Nat → ClassId} {X : va_W} (S : wPS) (sz : Nat) (o1 : Nat) (h_o1 : isA S o1 12) (o2 : Nat) (h_o2 : isA S o2 10) (o3 : Nat) (h_o3 : isA S o3 10) (hW : wtB S [])  : Met l yX12_contactOf wsX12_contactOf ({ frames := 3, cells := 0, slots := 0, locals := 62 }) (va_Pc [.ref o1, .ref o2, .ref o3] (fun U => U.heap.size = sz ∧ WD D cy X (fun _ => True) S U ∧ NW U)) (va_Ql (fun r (_ : Unit) => r = f_X12_contactOf S o1 o2 o3) (fun _ t => WD D cy X (va_A (X ++ PL cy S) sz) S t) (va_A (X ++ PL cy S) sz)) 0 0 (va_A (X ++ PL cy S) sz) := by
  refine Met.ofW (cc := cX12_contactOf) (maxL := 9) (ret := (some .long)) (by decide) rfl ?_
  intro p e s m args below meth c s₁ B hml hv
  obtain ⟨rfl, hsz, ⟨hP, hK, hD0⟩, hN⟩ := hv
  have hx := B.exec
  have hb := B.bytes
  have hr := B.returns
  have hts := atoms_spec (ws := wsX12_contactOf) B.pre
  have hown : s.vm.findClass RX12 = some m.cls := findClass_of_methodNamed (x := yX12_contactOf) B.named
  have hlocks := B.notSynchronized
  subst hsz
  have hD := hD0.self (sz := s.heap.size)
  generalize hAe : va_A (X ++ PL cy S) s.heap.size = A at hD ⊢
  have hA : ∀ q : Nat, s.heap.size ≤ q → A q := fun q h => by rw [← hAe]; exact Or.inr h
  have hS : va_S A s.heap s.heap [] := va_S.rf
  have hl := lv_entry ([.ref o1, .ref o2, .ref o3]) (n := 9) (Nat.le_of_ble_eq_true rfl)
  rw [lg_entry_eq]
  generalize (lg_sl ([.ref o1, .ref o2, .ref o3]) ++ List.replicate (9 - (lg_sl ([.ref o1, .ref o2, .ref o3])).length) Slot.unset).toArray = ls at hl ⊢
  have hl : lv_has ls 9 [(0, .ref o1), (1, .ref o2), (2, .ref o3)] := hl
  refine lv_aload_n hx hb dX12_contactOf_0 rfl (lv_at hl 1 rfl) ?_
  have hFc := free_all hD hS hA
  obtain ⟨k1, gk1, hk1⟩ := wGt (cy := cy) X S h_o2.1 h_o2.2.1
  refine va_calll (va_runV (As := []) (rest := []) ⟨hx, hb, hml, hown, hts⟩ (c_X10_across l (cy := cy) (X := X) (D := D) S _ o2 h_o2) (cwV 0 hts gX12_contactOf_X10_across rfl rfl rfl hd_X10_across ⟨Nat.le_of_ble_eq_true rfl, Nat.le_of_ble_eq_true rfl⟩) (pV (va_recv hK hP (q := (RX10, TX10, 23)) (ci := 14) (q0 := k1) rfl hk1) hP hK hD hN) rfl rfl hl.1 rfl (lv_room (Nat.le_of_ble_eq_true rfl)) dX12_contactOf_1 ⟨(Nat.zero_le _), (Nat.zero_le _)⟩) hS (fun q _ h => hFc q h) hFc (fun r2 u t H1 locs ht hvm hw hB hz1 hk1 hS => ?_)
  have c3 := hw
  obtain ⟨hP, hD⟩ := wd_post hFc ht hB
  generalize H1 = H at hP hS ⊢
  obtain rfl : f_X10_across S o2 = r2 := c3.symm
  refine lv_aload_n hx hb dX12_contactOf_4 rfl (lv_at hl 2 rfl) ?_
  have hFc := free_all hD hS hA
  obtain ⟨k4, gk4, hk4⟩ := wGt (cy := cy) X S h_o3.1 h_o3.2.1
  refine va_calll (va_runV (As := []) (rest := [.long (f_X10_across S o2)]) ⟨hx, hb, hml, hown, hts⟩ (c_X10_across l (cy := cy) (X := X) (D := D) S _ o3 h_o3) (cwV 0 hts gX12_contactOf_X10_across rfl rfl rfl hd_X10_across ⟨Nat.le_of_ble_eq_true rfl, Nat.le_of_ble_eq_true rfl⟩) (pV (va_recv hK hP (q := (RX10, TX10, 23)) (ci := 14) (q0 := k4) rfl hk4) hP hK hD hN) rfl rfl hl.1 rfl (lv_room (Nat.le_of_ble_eq_true rfl)) dX12_contactOf_5 ⟨(Nat.zero_le _), (Nat.zero_le _)⟩) hS (fun q _ h => hFc q h) hFc (fun r5 u t H1 locs ht hvm hw hB hz1 hk1 hS => ?_)
  have c6 := hw
  obtain ⟨hP, hD⟩ := wd_post hFc ht hB
  generalize H1 = H at hP hS ⊢
  obtain rfl : f_X10_across S o3 = r5 := c6.symm
  refine lv_ladd hx hb dX12_contactOf_8 ?_
  refine lv_lstore_n (lv' := [(3, .long ((f_X10_across S o2) + (f_X10_across S o3))), (0, .ref o1), (1, .ref o2), (2, .ref o3)]) hx hb dX12_contactOf_9 rfl hl (by decide) rfl (fun ls hl => ?_)
  refine lv_aload_n hx hb dX12_contactOf_10 rfl (lv_at hl 2 rfl) ?_
  refine lv_aload_n hx hb dX12_contactOf_11 rfl (lv_at hl 2 rfl) ?_
  obtain ⟨k7, gk7, hk7⟩ := wGt (cy := cy) X S h_o2.1 h_o2.2.1
  refine va_getN (D := D) (ci := 14) (v := .int (S.I o2 7)) (C := RX10) (T := TX10) (N := 23) hx hb hts hi_X12_contactOf_X10 hown hK hP k7 hk7 rfl 7 (by decide) (va_Nw.use rfl (hN (.fieldLinkNest RX12 164 "HobhouseModel$Gear" "shift" "I" "HobhouseModel") (by decide +kernel))) (fun _ h9 => h9) rfl dX12_contactOf_12 ?_
  have hFc := free_all hD hS hA
  obtain ⟨k8, gk8, hk8⟩ := wGt (cy := cy) X S h_o2.1 h_o2.2.1
  refine va_calll (va_runV (As := [.int (S.I o2 7)]) (rest := []) ⟨hx, hb, hml, hown, hts⟩ (c_X10_line l (cy := cy) (X := X) (D := D) S _ o2 h_o2 (S.I o2 7)) (cwV 1 hts gX12_contactOf_X10_line rfl rfl rfl hd_X10_line ⟨Nat.le_of_ble_eq_true rfl, Nat.le_of_ble_eq_true rfl⟩) (pV (va_recv hK hP (q := (RX10, TX10, 23)) (ci := 14) (q0 := k8) rfl hk8) hP hK hD hN) rfl rfl hl.1 rfl (lv_room (Nat.le_of_ble_eq_true rfl)) dX12_contactOf_15 ⟨(Nat.zero_le _), (Nat.zero_le _)⟩) hS (fun q _ h => hFc q h) hFc (fun r9 u t H1 locs ht hvm hw hB hz1 hk1 hS => ?_)
  have c10 := hw
  obtain ⟨hP, hD⟩ := wd_post hFc ht hB
  generalize H1 = H at hP hS ⊢
  obtain rfl : f_X10_line S o2 (S.I o2 7) = r9 := c10.symm
  refine lv_aload_n hx hb dX12_contactOf_18 rfl (lv_at hl 3 rfl) ?_
  refine lv_aload_n hx hb dX12_contactOf_19 rfl (lv_at hl 3 rfl) ?_
  obtain ⟨k11, gk11, hk11⟩ := wGt (cy := cy) X S h_o3.1 h_o3.2.1
  refine va_getN (D := D) (ci := 14) (v := .int (S.I o3 7)) (C := RX10) (T := TX10) (N := 23) hx hb hts hi_X12_contactOf_X10 hown hK hP k11 hk11 rfl 7 (by decide) (va_Nw.use rfl (hN (.fieldLinkNest RX12 164 "HobhouseModel$Gear" "shift" "I" "HobhouseModel") (by decide +kernel))) (fun _ h9 => h9) rfl dX12_contactOf_20 ?_
  have hFc := free_all hD hS hA
  obtain ⟨k12, gk12, hk12⟩ := wGt (cy := cy) X S h_o3.1 h_o3.2.1
  refine va_calll (va_runV (As := [.int (S.I o3 7)]) (rest := [.long (f_X10_line S o2 (S.I o2 7))]) ⟨hx, hb, hml, hown, hts⟩ (c_X10_line l (cy := cy) (X := X) (D := D) S _ o3 h_o3 (S.I o3 7)) (cwV 1 hts gX12_contactOf_X10_line rfl rfl rfl hd_X10_line ⟨Nat.le_of_ble_eq_true rfl, Nat.le_of_ble_eq_true rfl⟩) (pV (va_recv hK hP (q := (RX10, TX10, 23)) (ci := 14) (q0 := k12) rfl hk12) hP hK hD hN) rfl rfl hl.1 rfl (lv_room (Nat.le_of_ble_eq_true rfl)) dX12_contactOf_23 ⟨(Nat.zero_le _), (Nat.zero_le _)⟩) hS (fun q _ h => hFc q h) hFc (fun r13 u t H1 locs ht hvm hw hB hz1 hk1 hS => ?_)
  have c14 := hw
  obtain ⟨hP, hD⟩ := wd_post hFc ht hB
  generalize H1 = H at hP hS ⊢
  obtain rfl : f_X10_line S o3 (S.I o3 7) = r13 := c14.symm
  refine lv_ladd hx hb dX12_contactOf_26 ?_
  refine lv_ldc2 (own := RX12) (v := 16) hx hb hown (hts (.constantLong RX12 191 (16)) (by decide +kernel)) dX12_contactOf_27 ?_
  refine lv_lload_n hx hb dX12_contactOf_30 rfl (lv_at hl 0 rfl) ?_
  refine lv_lmul hx hb dX12_contactOf_31 ?_
  refine lv_lload_n hx hb dX12_contactOf_32 rfl (lv_at hl 0 rfl) ?_
  refine lv_lmul hx hb dX12_contactOf_33 ?_
  refine lv_ldc2 (own := RX12) (v := 137) hx hb hown (hts (.constantLong RX12 193 (137)) (by decide +kernel)) dX12_contactOf_34 ?_
  refine lv_ldiv hx hb dX12_contactOf_37 (by decide) ?_
  have hFc := free_all hD hS hA
  refine va_calll (va_runS (As := [.long ((((16 : Int64) * ((f_X10_across S o2) + (f_X10_across S o3))) * ((f_X10_across S o2) + (f_X10_across S o3))) / (137 : Int64))]) (rest := [.long ((f_X10_line S o2 (S.I o2 7)) + (f_X10_line S o3 (S.I o3 7)))]) ⟨hx, hb, hml, hown, hts⟩ (c_X12_root l (cy := cy) (X := X) (D := D) S _ ((((16 : Int64) * ((f_X10_across S o2) + (f_X10_across S o3))) * ((f_X10_across S o2) + (f_X10_across S o3))) / (137 : Int64))) (cwS 1 hts gX12_contactOf_X12_root rfl rfl rfl hd_X12_root ⟨Nat.le_of_ble_eq_true rfl, Nat.le_of_ble_eq_true rfl⟩) (pS hP hK hD hN) rfl rfl hl.1 rfl (lv_room (Nat.le_of_ble_eq_true rfl)) dX12_contactOf_38 ⟨(Nat.zero_le _), (Nat.zero_le _)⟩) hS (fun q _ h => hFc q h) hFc (fun r15 u t H1 locs ht hvm hw hB hz1 hk1 hS => ?_)
  obtain ⟨c16, y17⟩ := hw
  obtain ⟨hP, hD⟩ := wd_post hFc ht hB
  generalize H1 = H at hP hS ⊢
  obtain rfl : f_X12_root ((((16 : Int64) * ((f_X10_across S o2) + (f_X10_across S o3))) * ((f_X10_across S o2) + (f_X10_across S o3))) / (137 : Int64)) = r15 := c16.symm
  refine lv_lsub hx hb dX12_contactOf_41 ?_
  refine lv_lstore (lv' := [(5, .long (((f_X10_line S o2 (S.I o2 7)) + (f_X10_line S o3 (S.I o3 7))) - (f_X12_root ((((16 : Int64) * ((f_X10_across S o2) + (f_X10_across S o3))) * ((f_X10_across S o2) + (f_X10_across S o3))) / (137 : Int64))))), (3, .long ((f_X10_across S o2) + (f_X10_across S o3))), (0, .ref o1), (1, .ref o2), (2, .ref o3)]) hx hb dX12_contactOf_42 hl (by decide) rfl (fun ls hl => ?_)
  refine lv_ldc2 (own := RX12) (v := 7810) hx hb hown (hts (.constantLong RX12 199 (7810)) (by decide +kernel)) dX12_contactOf_44 ?_
  refine lv_aload_n hx hb dX12_contactOf_47 rfl (lv_at hl 3 rfl) ?_
  obtain ⟨k18, gk18, hk18⟩ := wGt (cy := cy) X S h_o2.1 h_o2.2.1
  have i19 := ((hW.at h_o2 List.not_mem_nil).to_10 h_o2.2.1).R2
  refine va_getN (D := D) (ci := 14) (v := .int (S.I o2 2)) (C := RX10) (T := TX10) (N := 23) hx hb hts hi_X12_contactOf_X10 hown hK hP k18 hk18 rfl 2 (by decide) (va_Nw.use rfl (hN (.fieldLinkNest RX12 115 "HobhouseModel$Gear" "module" "I" "HobhouseModel") (by decide +kernel))) (fun _ h9 => h9) rfl dX12_contactOf_48 ?_
  refine lv_i2l hx hb dX12_contactOf_51 rfl ?_
  refine lv_lmul hx hb dX12_contactOf_52 ?_
  refine lv_ldc2 (own := RX12) (v := 7810) hx hb hown (hts (.constantLong RX12 199 (7810)) (by decide +kernel)) dX12_contactOf_53 ?_
  refine lv_lmul hx hb dX12_contactOf_56 ?_
  refine lv_aload_n hx hb dX12_contactOf_57 rfl (lv_at hl 3 rfl) ?_
  obtain ⟨k20, gk20, hk20⟩ := wGt (cy := cy) X S h_o2.1 h_o2.2.1
  refine va_getN (D := D) (ci := 14) (v := .int (S.I o2 2)) (C := RX10) (T := TX10) (N := 23) hx hb hts hi_X12_contactOf_X10 hown hK hP k20 hk20 rfl 2 (by decide) (va_Nw.use rfl (hN (.fieldLinkNest RX12 115 "HobhouseModel$Gear" "module" "I" "HobhouseModel") (by decide +kernel))) (fun _ h9 => h9) rfl dX12_contactOf_58 ?_
  refine lv_i2l hx hb dX12_contactOf_61 rfl ?_
  refine lv_lmul hx hb dX12_contactOf_62 ?_
  refine lv_ldc2 (own := RX12) (v := 137) hx hb hown (hts (.constantLong RX12 193 (137)) (by decide +kernel)) dX12_contactOf_63 ?_
  refine lv_ldiv hx hb dX12_contactOf_66 (by decide) ?_
  have hFc := free_all hD hS hA
  refine va_calll (va_runS (As := [.long (((((7810 : Int64) * ((S.I o2 2).toInt64)) * (7810 : Int64)) * ((S.I o2 2).toInt64)) / (137 : Int64))]) (rest := []) ⟨hx, hb, hml, hown, hts⟩ (c_X12_root l (cy := cy) (X := X) (D := D) S _ (((((7810 : Int64) * ((S.I o2 2).toInt64)) * (7810 : Int64)) * ((S.I o2 2).toInt64)) / (137 : Int64))) (cwS 1 hts gX12_contactOf_X12_root rfl rfl rfl hd_X12_root ⟨Nat.le_of_ble_eq_true rfl, Nat.le_of_ble_eq_true rfl⟩) (pS hP hK hD hN) rfl rfl hl.1 rfl (lv_room (Nat.le_of_ble_eq_true rfl)) dX12_contactOf_67 ⟨(Nat.zero_le _), (Nat.zero_le _)⟩) hS (fun q _ h => hFc q h) hFc (fun r21 u t H1 locs ht hvm hw hB hz1 hk1 hS => ?_)
  obtain ⟨c22, y23⟩ := hw
  obtain ⟨hP, hD⟩ := wd_post hFc ht hB
  generalize H1 = H at hP hS ⊢
  obtain rfl : f_X12_root (((((7810 : Int64) * ((S.I o2 2).toInt64)) * (7810 : Int64)) * ((S.I o2 2).toInt64)) / (137 : Int64)) = r21 := c22.symm
  refine lv_ldc2 (own := RX12) (v := 113) hx hb hown (hts (.constantLong RX12 201 (113)) (by decide +kernel)) dX12_contactOf_70 ?_
  refine lv_ldiv hx hb dX12_contactOf_73 (by decide) ?_
  refine lv_lstore (lv' := [(7, .long ((f_X12_root (((((7810 : Int64) * ((S.I o2 2).toInt64)) * (7810 : Int64)) * ((S.I o2 2).toInt64)) / (137 : Int64))) / (113 : Int64))), (5, .long (((f_X10_line S o2 (S.I o2 7)) + (f_X10_line S o3 (S.I o3 7))) - (f_X12_root ((((16 : Int64) * ((f_X10_across S o2) + (f_X10_across S o3))) * ((f_X10_across S o2) + (f_X10_across S o3))) / (137 : Int64))))), (3, .long ((f_X10_across S o2) + (f_X10_across S o3))), (0, .ref o1), (1, .ref o2), (2, .ref o3)]) hx hb dX12_contactOf_74 hl (by decide) rfl (fun ls hl => ?_)
  refine lv_lconst (v := 0) hx hb dX12_contactOf_76 (by decide) ?_
  refine lv_ldc2 (own := RX12) (v := 1000) hx hb hown (hts (.constantLong RX12 139 (1000)) (by decide +kernel)) dX12_contactOf_77 ?_
  refine lv_lload hx hb dX12_contactOf_80 (lv_at hl 1 rfl) ?_
  refine lv_lmul hx hb dX12_contactOf_82 ?_
  refine lv_lload hx hb dX12_contactOf_83 (lv_at hl 0 rfl) ?_
  refine lv_ldiv hx hb dX12_contactOf_85 (d113 (y23 (mod_sq ((hW.at h_o2 List.not_mem_nil).to_10 h_o2.2.1).R2))) ?_
  refine va_mmax_long hx hb (hml.trans hl.1.symm) hown (hts (.methodLink RX12 203 Lib.MathLoose.max_long.x) (by decide +kernel)) (hts (.static Lib.MathLoose.max_long.x) (by decide +kernel)) (hts (.initialized "java/lang/Math") (by decide +kernel)) (hts (.code Lib.MathLoose.max_long.x Lib.MathLoose.max_long.code 4 (some .long)) (by decide +kernel)) (Nat.le_of_ble_eq_true rfl) (Nat.le_of_ble_eq_true rfl) (Nat.zero_le _) (Nat.zero_le _) dX12_contactOf_86 ?_
  refine W.widen (k := 0) (n := 0) (Nat.le_of_ble_eq_true rfl) (Nat.le_of_ble_eq_true rfl) ?_
  exact W.lret (v := (if (((1000 : Int64) * (((f_X10_line S o2 (S.I o2 7)) + (f_X10_line S o3 (S.I o3 7))) - (f_X12_root ((((16 : Int64) * ((f_X10_across S o2) + (f_X10_across S o3))) * ((f_X10_across S o2) + (f_X10_across S o3))) / (137 : Int64))))) / ((f_X12_root (((((7810 : Int64) * ((S.I o2 2).toInt64)) * (7810 : Int64)) * ((S.I o2 2).toInt64)) / (137 : Int64))) / (113 : Int64))) < (0 : Int64) then (0 : Int64) else (((1000 : Int64) * (((f_X10_line S o2 (S.I o2 7)) + (f_X10_line S o3 (S.I o3 7))) - (f_X12_root ((((16 : Int64) * ((f_X10_across S o2) + (f_X10_across S o3))) * ((f_X10_across S o2) + (f_X10_across S o3))) / (137 : Int64))))) / ((f_X12_root (((((7810 : Int64) * ((S.I o2 2).toInt64)) * (7810 : Int64)) * ((S.I o2 2).toInt64)) / (137 : Int64))) / (113 : Int64))))) hx hb hr (fun t ht hW9 => ⟨⟨(if (((1000 : Int64) * (((f_X10_line S o2 (S.I o2 7)) + (f_X10_line S o3 (S.I o3 7))) - (f_X12_root ((((16 : Int64) * ((f_X10_across S o2) + (f_X10_across S o3))) * ((f_X10_across S o2) + (f_X10_across S o3))) / (137 : Int64))))) / ((f_X12_root (((((7810 : Int64) * ((S.I o2 2).toInt64)) * (7810 : Int64)) * ((S.I o2 2).toInt64)) / (137 : Int64))) / (113 : Int64))) < (0 : Int64) then (0 : Int64) else (((1000 : Int64) * (((f_X10_line S o2 (S.I o2 7)) + (f_X10_line S o3 (S.I o3 7))) - (f_X12_root ((((16 : Int64) * ((f_X10_across S o2) + (f_X10_across S o3))) * ((f_X10_across S o2) + (f_X10_across S o3))) / (137 : Int64))))) / ((f_X12_root (((((7810 : Int64) * ((S.I o2 2).toInt64)) * (7810 : Int64)) * ((S.I o2 2).toInt64)) / (137 : Int64))) / (113 : Int64)))), (), rfl, (by show (if (((1000 : Int64) * (((f_X10_line S o2 (S.I o2 7)) + (f_X10_line S o3 (S.I o3 7))) - (f_X12_root ((((16 : Int64) * ((f_X10_across S o2) + (f_X10_across S o3))) * ((f_X10_across S o2) + (f_X10_across S o3))) / (137 : Int64))))) / ((f_X12_root (((((7810 : Int64) * ((S.I o2 2).toInt64)) * (7810 : Int64)) * ((S.I o2 2).toInt64)) / (137 : Int64))) / (113 : Int64))) < (0 : Int64) then (0 : Int64) else (((1000 : Int64) * (((f_X10_line S o2 (S.I o2 7)) + (f_X10_line S o3 (S.I o3 7))) - (f_X12_root ((((16 : Int64) * ((f_X10_across S o2) + (f_X10_across S o3))) * ((f_X10_across S o2) + (f_X10_across S o3))) / (137 : Int64))))) / ((f_X12_root (((((7810 : Int64) * ((S.I o2 2).toInt64)) * (7810 : Int64)) * ((S.I o2 2).toInt64)) / (137 : Int64))) / (113 : Int64)))) = f_X12_contactOf S o1 o2 o3; unfold f_X12_contactOf; rfl), wd_end hP hK hD ht hW9.alike⟩, hS.F ht⟩) hS.2.2 dX12_contactOf_89 hlocks
def f_X12_slideOf (S : wPS) (o1 : Nat) (o2 : Nat) (x1 : Int32) (x2 : Int32) : Int64 := (if 0 < ((f_X10_way S o1 x1) - (f_X10_way S o2 x2)) then ((f_X10_way S o1 x1) - (f_X10_way S o2 x2)) else -((f_X10_way S o1 x1) - (f_X10_way S o2 x2)))
theorem hd_X12_slideOf : yX12_slideOf.cls = RX12 ∧ yX12_slideOf.cls ≠ "java/lang/invoke/MethodHandle" ∧ yX12_slideOf.cls ≠ "java/lang/invoke/VarHandle" ∧ (parseMethodDescriptor yX12_slideOf.desc).map (fun d => d.parameters.length) = some 4 := by decide +kernel
set_option maxHeartbeats 4000000 in
set_option maxRecDepth 100000 in
theorem c_X12_slideOf (l : Launch) {D : va_G} {cy : Nat → ClassId} {X : va_W} (S : wPS) (sz : Nat) (o1 : Nat) (h_o1 : isA S o1 10) (o2 : Nat) (h_o2 : isA S o2 10) (x1 : Int32) (x2 : Int32)  : Met l yX12_slideOf wsX12_slideOf ({ frames := 4, cells := 0, slots := 0, locals := 83 }) (va_Pc [.ref o1, .ref o2, .int x1, .int x2] (fun U => U.heap.size = sz ∧ WD D cy X (fun _ => True) S U ∧ NW U)) (va_Ql (fun r (_ : Unit) => r = f_X12_slideOf S o1 o2 x1 x2) (fun _ t => WD D cy X (va_A (X ++ PL cy S) sz) S t) (va_A (X ++ PL cy S) sz)) 0 0 (va_A (X ++ PL cy S) sz) := by
  refine Met.ofW (cc := cX12_slideOf) (maxL := 4) (ret := (some .long)) (by decide) rfl ?_
  intro p e s m args below meth c s₁ B hml hv
  obtain ⟨rfl, hsz, ⟨hP, hK, hD0⟩, hN⟩ := hv
  have hx := B.exec
  have hb := B.bytes
  have hr := B.returns
  have hts := atoms_spec (ws := wsX12_slideOf) B.pre
  have hown : s.vm.findClass RX12 = some m.cls := findClass_of_methodNamed (x := yX12_slideOf) B.named
  have hlocks := B.notSynchronized
  subst hsz
  have hD := hD0.self (sz := s.heap.size)
  generalize hAe : va_A (X ++ PL cy S) s.heap.size = A at hD ⊢
  have hA : ∀ q : Nat, s.heap.size ≤ q → A q := fun q h => by rw [← hAe]; exact Or.inr h
  have hS : va_S A s.heap s.heap [] := va_S.rf
  have hl := lv_entry ([.ref o1, .ref o2, .int x1, .int x2]) (n := 4) (Nat.le_of_ble_eq_true rfl)
  rw [lg_entry_eq]
  generalize (lg_sl ([.ref o1, .ref o2, .int x1, .int x2]) ++ List.replicate (4 - (lg_sl ([.ref o1, .ref o2, .int x1, .int x2])).length) Slot.unset).toArray = ls at hl ⊢
  have hl : lv_has ls 4 [(0, .ref o1), (1, .ref o2), (2, .int x1), (3, .int x2)] := hl
  refine lv_aload_n hx hb dX12_slideOf_0 rfl (lv_at hl 0 rfl) ?_
  refine lv_iload_n hx hb dX12_slideOf_1 rfl (lv_at hl 2 rfl) ?_
  have hFc := free_all hD hS hA
  obtain ⟨k1, gk1, hk1⟩ := wGt (cy := cy) X S h_o1.1 h_o1.2.1
  refine va_calll (va_runV (As := [.int x1]) (rest := []) ⟨hx, hb, hml, hown, hts⟩ (c_X10_way l (cy := cy) (X := X) (D := D) S _ o1 h_o1 x1) (cwV 1 hts gX12_slideOf_X10_way rfl rfl rfl hd_X10_way ⟨Nat.le_of_ble_eq_true rfl, Nat.le_of_ble_eq_true rfl⟩) (pV (va_recv hK hP (q := (RX10, TX10, 23)) (ci := 14) (q0 := k1) rfl hk1) hP hK hD hN) rfl rfl hl.1 rfl (lv_room (Nat.le_of_ble_eq_true rfl)) dX12_slideOf_2 ⟨(Nat.zero_le _), (Nat.zero_le _)⟩) hS (fun q _ h => hFc q h) hFc (fun r2 u t H1 locs ht hvm hw hB hz1 hk1 hS => ?_)
  have c3 := hw
  obtain ⟨hP, hD⟩ := wd_post hFc ht hB
  generalize H1 = H at hP hS ⊢
  obtain rfl : f_X10_way S o1 x1 = r2 := c3.symm
  refine lv_aload_n hx hb dX12_slideOf_5 rfl (lv_at hl 1 rfl) ?_
  refine lv_iload_n hx hb dX12_slideOf_6 rfl (lv_at hl 3 rfl) ?_
  have hFc := free_all hD hS hA
  obtain ⟨k4, gk4, hk4⟩ := wGt (cy := cy) X S h_o2.1 h_o2.2.1
  refine va_calll (va_runV (As := [.int x2]) (rest := [.long (f_X10_way S o1 x1)]) ⟨hx, hb, hml, hown, hts⟩ (c_X10_way l (cy := cy) (X := X) (D := D) S _ o2 h_o2 x2) (cwV 1 hts gX12_slideOf_X10_way rfl rfl rfl hd_X10_way ⟨Nat.le_of_ble_eq_true rfl, Nat.le_of_ble_eq_true rfl⟩) (pV (va_recv hK hP (q := (RX10, TX10, 23)) (ci := 14) (q0 := k4) rfl hk4) hP hK hD hN) rfl rfl hl.1 rfl (lv_room (Nat.le_of_ble_eq_true rfl)) dX12_slideOf_7 ⟨(Nat.zero_le _), (Nat.zero_le _)⟩) hS (fun q _ h => hFc q h) hFc (fun r5 u t H1 locs ht hvm hw hB hz1 hk1 hS => ?_)
  have c6 := hw
  obtain ⟨hP, hD⟩ := wd_post hFc ht hB
  generalize H1 = H at hP hS ⊢
  obtain rfl : f_X10_way S o2 x2 = r5 := c6.symm
  refine lv_lsub hx hb dX12_slideOf_10 ?_
  refine va_mabs_long hx hb (hml.trans hl.1.symm) hown (hts (.methodLink RX12 239 Lib.MathLoose.abs_long.x) (by decide +kernel)) (hts (.static Lib.MathLoose.abs_long.x) (by decide +kernel)) (hts (.initialized "java/lang/Math") (by decide +kernel)) (hts (.code Lib.MathLoose.abs_long.x Lib.MathLoose.abs_long.code 2 (some .long)) (by decide +kernel)) (Nat.le_of_ble_eq_true rfl) (Nat.le_of_ble_eq_true rfl) (Nat.zero_le _) (Nat.zero_le _) dX12_slideOf_11 ?_
  refine W.widen (k := 0) (n := 0) (Nat.le_of_ble_eq_true rfl) (Nat.le_of_ble_eq_true rfl) ?_
  exact W.lret (v := (if 0 < ((f_X10_way S o1 x1) - (f_X10_way S o2 x2)) then ((f_X10_way S o1 x1) - (f_X10_way S o2 x2)) else -((f_X10_way S o1 x1) - (f_X10_way S o2 x2)))) hx hb hr (fun t ht hW9 => ⟨⟨(if 0 < ((f_X10_way S o1 x1) - (f_X10_way S o2 x2)) then ((f_X10_way S o1 x1) - (f_X10_way S o2 x2)) else -((f_X10_way S o1 x1) - (f_X10_way S o2 x2))), (), rfl, (by show (if 0 < ((f_X10_way S o1 x1) - (f_X10_way S o2 x2)) then ((f_X10_way S o1 x1) - (f_X10_way S o2 x2)) else -((f_X10_way S o1 x1) - (f_X10_way S o2 x2))) = f_X12_slideOf S o1 o2 x1 x2; unfold f_X12_slideOf; rfl), wd_end hP hK hD ht hW9.alike⟩, hS.F ht⟩) hS.2.2 dX12_slideOf_14 hlocks
def f_X12_contact (S : wPS) (o1 : Nat) (x1 : Int32) (x2 : Int32) : (Int64 × wPS) := l2 (f_X12_isAsked S o1 x1 x2) (fun r3 S8 => if r3 = (0 : Int32) then ((0 : Int64), S8) else l1 (f_X12_gearAt S8 o1 x1) (fun r14 => l1 (f_X12_gearAt S8 o1 x2) (fun r18 => (f_X12_contactOf S8 o1 r14 r18, S8))))
theorem hd_X12_contact : yX12_contact.cls = RX12 ∧ yX12_contact.cls ≠ "java/lang/invoke/MethodHandle" ∧ yX12_contact.cls ≠ "java/lang/invoke/VarHandle" ∧ (parseMethodDescriptor yX12_contact.desc).map (fun d => d.parameters.length) = some 2 := by decide +kernel
set_option maxHeartbeats 4000000 in
set_option maxRecDepth 100000 in
theorem c_X12_contact (l : Launch) {D : va_G} {cy : Nat → ClassId} {X : va_W} (S : wPS) (sz : Nat) (o1 : Nat) (h_o1 : isA S o1 12) (x1 : Int32) (x2 : Int32) (hW : wtB S [])  : Met l yX12_contact wsX12_contact ({ frames := 6, cells := 0, slots := 0, locals := 133 }) (va_Pc [.ref o1, .int x1, .int x2] (fun U => U.heap.size = sz ∧ WD D cy X (fun _ => True) S U ∧ NW U)) (va_Ql (fun r (u : wPS) => (r, u) = f_X12_contact S o1 x1 x2 ∧ stp [(12, 15)] [] [] S u) (fun u t => WD D cy X (va_A (X ++ PL cy S) sz) u t) (va_A (X ++ PL cy S) sz)) 0 0 (va_A (X ++ PL cy S) sz) := by
  refine Met.ofW (cc := cX12_contact) (maxL := 3) (ret := (some .long)) (by decide) rfl ?_
  intro p e s m args below meth c s₁ B hml hv
  obtain ⟨rfl, hsz, ⟨hP, hK, hD0⟩, hN⟩ := hv
  have hx := B.exec
  have hb := B.bytes
  have hr := B.returns
  have hts := atoms_spec (ws := wsX12_contact) B.pre
  have hown : s.vm.findClass RX12 = some m.cls := findClass_of_methodNamed (x := yX12_contact) B.named
  have hlocks := B.notSynchronized
  subst hsz
  have hD := hD0.self (sz := s.heap.size)
  generalize hAe : va_A (X ++ PL cy S) s.heap.size = A at hD ⊢
  have hA : ∀ q : Nat, s.heap.size ≤ q → A q := fun q h => by rw [← hAe]; exact Or.inr h
  have hS : va_S A s.heap s.heap [] := va_S.rf
  have hl := lv_entry ([.ref o1, .int x1, .int x2]) (n := 3) (Nat.le_of_ble_eq_true rfl)
  rw [lg_entry_eq]
  generalize (lg_sl ([.ref o1, .int x1, .int x2]) ++ List.replicate (3 - (lg_sl ([.ref o1, .int x1, .int x2])).length) Slot.unset).toArray = ls at hl ⊢
  have hl : lv_has ls 3 [(0, .ref o1), (1, .int x1), (2, .int x2)] := hl
  have t0 : stp [(12, 15)] [] [] S S := stp.rf hW
  have F1 := ((hW.at h_o1 List.not_mem_nil).to_12 h_o1.2.1).F0
  refine lv_aload_n hx hb dX12_contact_0 rfl (lv_at hl 0 rfl) ?_
  refine lv_iload_n hx hb dX12_contact_1 rfl (lv_at hl 1 rfl) ?_
  refine lv_iload_n hx hb dX12_contact_2 rfl (lv_at hl 2 rfl) ?_
  refine lv_iconst (v := 1) hx hb dX12_contact_3 (by decide) ?_
  refine lv_iconst (v := 2) hx hb dX12_contact_4 (by decide) ?_
  have l32_1 : (1 : Int32).toInt = 1 := rfl
  have l32_2 : (2 : Int32).toInt = 2 := rfl
  have hFc := free_all hD hS hA
  obtain ⟨k2, gk2, hk2⟩ := wGt (cy := cy) X S h_o1.1 h_o1.2.1
  refine va_calli (va_runV (As := [.int x1, .int x2, .int (1 : Int32), .int (2 : Int32)]) (rest := []) ⟨hx, hb, hml, hown, hts⟩ (c_X12_isAsked l (cy := cy) (X := X) (D := D) S _ o1 h_o1 x1 x2 (hW)) (cwV 4 hts gX12_contact_X12_isAsked rfl rfl rfl hd_X12_isAsked ⟨Nat.le_of_ble_eq_true rfl, Nat.le_of_ble_eq_true rfl⟩) (pV (va_recv hK hP (q := (RX12, TX12, 34)) (ci := 16) (q0 := k2) rfl hk2) hP hK hD hN) rfl rfl hl.1 rfl (lv_room (Nat.le_of_ble_eq_true rfl)) dX12_contact_5 ⟨(Nat.zero_le _), (Nat.zero_le _)⟩) hS (fun q _ h => hFc q h) hFc (fun r3 u t H1 locs ht hvm hw hB hz1 hk1 hS => ?_)
  obtain ⟨c4, w5, y6, y7⟩ := hw
  obtain ⟨hP, hD⟩ := wd_post hFc ht hB
  generalize H1 = H at hP hS ⊢
  obtain ⟨S8, rfl⟩ : ∃ z, z = u := ⟨_, rfl⟩
  have t9 : stp [(12, 15)] [] [] S S8 := t0.tr w5 (by decide) (fun _ q => absurd q List.not_mem_nil)
  have xe10 : ext S S8 := w5.x
  have k11 : (S8.I (S.f o1 0) 2).toInt = (S.I (S.f o1 0) 2).toInt := by rw [(w5.fR (S.f o1 0) F1.2.1.1 List.not_mem_nil).1 2 (by rw [F1.2.1.2.1]; decide) |>.1]
  refine lv_if_eq (tgt := 28) hx hb dX12_contact_8 (by decide) (fun c12 => ?_) (fun c12 => ?_)
  · have c12i : r3.toInt = 0 := eq_v rfl rfl c12
    refine lv_lconst (v := 0) hx hb dX12_contact_28 (by decide) ?_
    refine W.widen (k := 0) (n := 0) (Nat.le_of_ble_eq_true rfl) (Nat.le_of_ble_eq_true rfl) ?_
    exact W.lret (v := (0 : Int64)) hx hb hr (fun t ht hW9 => ⟨⟨(0 : Int64), S8, rfl, ⟨(by show ((0 : Int64), S8) = f_X12_contact S o1 x1 x2; unfold f_X12_contact; rw [l2_eq c4.symm, if_pos c12]), t9⟩, wd_end hP hK hD ht hW9.alike⟩, hS.F ht⟩) hS.2.2 dX12_contact_29 hlocks
  · have c12i : ¬ r3.toInt = 0 := neq_v rfl rfl c12
    refine lv_aload_n hx hb dX12_contact_11 rfl (lv_at hl 0 rfl) ?_
    refine lv_aload_n hx hb dX12_contact_12 rfl (lv_at hl 0 rfl) ?_
    refine lv_iload_n hx hb dX12_contact_13 rfl (lv_at hl 1 rfl) ?_
    have hFc := free_all hD hS hA
    obtain ⟨k13, gk13, hk13⟩ := wGt (cy := cy) X S8 (xe10.A h_o1).1 (xe10.A h_o1).2.1
    refine va_callq (va_runV (As := [.int x1]) (rest := [.ref o1]) ⟨hx, hb, hml, hown, hts⟩ (c_X12_gearAt l (cy := cy) (X := X) (D := D) S8 _ o1 (xe10.A h_o1) x1 (t9.w) (by rw [f_of (xe10.F h_o1 (by decide) F1.1)]; omega)) (cwV 1 hts gX12_contact_X12_gearAt rfl rfl rfl hd_X12_gearAt ⟨Nat.le_of_ble_eq_true rfl, Nat.le_of_ble_eq_true rfl⟩) (pV (va_recv hK hP (q := (RX12, TX12, 34)) (ci := 16) (q0 := k13) rfl hk13) hP hK hD hN) rfl rfl hl.1 rfl (lv_room (Nat.le_of_ble_eq_true rfl)) dX12_contact_14 ⟨(Nat.zero_le _), (Nat.zero_le _)⟩) hS (fun q _ h => hFc q h) hFc (fun r14 u t H1 locs ht hvm hw hB hz1 hk1 hS => ?_)
    obtain ⟨r14, rfl, c15, o16⟩ := hw
    obtain ⟨hP, hD⟩ := wd_post hFc ht hB
    generalize H1 = H at hP hS ⊢
    refine W.eq (g2 := F0 m 17 ls [.ref r14, .ref o1]) rfl ?_
    refine lv_aload_n hx hb dX12_contact_17 rfl (lv_at hl 0 rfl) ?_
    refine lv_iload_n hx hb dX12_contact_18 rfl (lv_at hl 2 rfl) ?_
    have hFc := free_all hD hS hA
    obtain ⟨k17, gk17, hk17⟩ := wGt (cy := cy) X S8 (xe10.A h_o1).1 (xe10.A h_o1).2.1
    refine va_callq (va_runV (As := [.int x2]) (rest := [.ref r14, .ref o1]) ⟨hx, hb, hml, hown, hts⟩ (c_X12_gearAt l (cy := cy) (X := X) (D := D) S8 _ o1 (xe10.A h_o1) x2 (t9.w) (by rw [f_of (xe10.F h_o1 (by decide) F1.1)]; omega)) (cwV 1 hts gX12_contact_X12_gearAt rfl rfl rfl hd_X12_gearAt ⟨Nat.le_of_ble_eq_true rfl, Nat.le_of_ble_eq_true rfl⟩) (pV (va_recv hK hP (q := (RX12, TX12, 34)) (ci := 16) (q0 := k17) rfl hk17) hP hK hD hN) rfl rfl hl.1 rfl (lv_room (Nat.le_of_ble_eq_true rfl)) dX12_contact_19 ⟨(Nat.zero_le _), (Nat.zero_le _)⟩) hS (fun q _ h => hFc q h) hFc (fun r18 u t H1 locs ht hvm hw hB hz1 hk1 hS => ?_)
    obtain ⟨r18, rfl, c19, o20⟩ := hw
    obtain ⟨hP, hD⟩ := wd_post hFc ht hB
    generalize H1 = H at hP hS ⊢
    refine W.eq (g2 := F0 m 22 ls [.ref r18, .ref r14, .ref o1]) rfl ?_
    have hFc := free_all hD hS hA
    obtain ⟨k21, gk21, hk21⟩ := wGt (cy := cy) X S8 (xe10.A h_o1).1 (xe10.A h_o1).2.1
    refine va_calll (va_runV (As := [.ref r14, .ref r18]) (rest := []) ⟨hx, hb, hml, hown, hts⟩ (c_X12_contactOf l (cy := cy) (X := X) (D := D) S8 _ o1 (xe10.A h_o1) r14 o16 r18 o20 (t9.w)) (cwV 2 hts gX12_contact_X12_contactOf rfl rfl rfl hd_X12_contactOf ⟨Nat.le_of_ble_eq_true rfl, Nat.le_of_ble_eq_true rfl⟩) (pV (va_recv hK hP (q := (RX12, TX12, 34)) (ci := 16) (q0 := k21) rfl hk21) hP hK hD hN) rfl rfl hl.1 rfl (lv_room (Nat.le_of_ble_eq_true rfl)) dX12_contact_22 ⟨(Nat.zero_le _), (Nat.zero_le _)⟩) hS (fun q _ h => hFc q h) hFc (fun r22 u t H1 locs ht hvm hw hB hz1 hk1 hS => ?_)
    have c23 := hw
    obtain ⟨hP, hD⟩ := wd_post hFc ht hB
    generalize H1 = H at hP hS ⊢
    obtain rfl : f_X12_contactOf S8 o1 r14 r18 = r22 := c23.symm
    refine lv_goto (tgt := 29) hx hb dX12_contact_25 (by decide) ?_
    refine W.widen (k := 0) (n := 0) (Nat.le_of_ble_eq_true rfl) (Nat.le_of_ble_eq_true rfl) ?_
    exact W.lret (v := f_X12_contactOf S8 o1 r14 r18) hx hb hr (fun t ht hW9 => ⟨⟨f_X12_contactOf S8 o1 r14 r18, S8, rfl, ⟨(by show (f_X12_contactOf S8 o1 r14 r18, S8) = f_X12_contact S o1 x1 x2; unfold f_X12_contact; rw [l2_eq c4.symm, if_neg c12, l1_eq c15.symm, l1_eq c19.symm]), t9⟩, wd_end hP hK hD ht hW9.alike⟩, hS.F ht⟩) hS.2.2 dX12_contact_29 hlocks
def f_X12_overlap (S : wPS) (o1 : Nat) (x1 : Int32) (x2 : Int32) : (Int64 × wPS) := l2 (f_X12_isAsked S o1 x1 x2) (fun r3 S8 => if r3 = (0 : Int32) then ((0 : Int64), S8) else l1 (f_X12_gearAt S8 o1 x1) (fun r14 => l1 (f_X12_gearAt S8 o1 x2) (fun r18 => (f_X12_overlapOf S8 r14 r18, S8))))
theorem hd_X12_overlap : yX12_overlap.cls = RX12 ∧ yX12_overlap.cls ≠ "java/lang/invoke/MethodHandle" ∧ yX12_overlap.cls ≠ "java/lang/invoke/VarHandle" ∧ (parseMethodDescriptor yX12_overlap.desc).map (fun d => d.parameters.length) = some 2 := by decide +kernel
set_option maxHeartbeats 4000000 in
set_option maxRecDepth 100000 in
theorem c_X12_overlap (l : Launch) {D : va_G} {cy : Nat → ClassId} {X : va_W} (S : wPS) (sz : Nat) (o1 : Nat) (h_o1 : isA S o1 12) (x1 : Int32) (x2 : Int32) (hW : wtB S [])  : Met l yX12_overlap wsX12_overlap ({ frames := 6, cells := 0, slots := 0, locals := 133 }) (va_Pc [.ref o1, .int x1, .int x2] (fun U => U.heap.size = sz ∧ WD D cy X (fun _ => True) S U ∧ NW U)) (va_Ql (fun r (u : wPS) => (r, u) = f_X12_overlap S o1 x1 x2 ∧ stp [(12, 15)] [] [] S u) (fun u t => WD D cy X (va_A (X ++ PL cy S) sz) u t) (va_A (X ++ PL cy S) sz)) 0 0 (va_A (X ++ PL cy S) sz) := by
  refine Met.ofW (cc := cX12_overlap) (maxL := 3) (ret := (some .long)) (by decide) rfl ?_
  intro p e s m args below meth c s₁ B hml hv
  obtain ⟨rfl, hsz, ⟨hP, hK, hD0⟩, hN⟩ := hv
  have hx := B.exec
  have hb := B.bytes
  have hr := B.returns
  have hts := atoms_spec (ws := wsX12_overlap) B.pre
  have hown : s.vm.findClass RX12 = some m.cls := findClass_of_methodNamed (x := yX12_overlap) B.named
  have hlocks := B.notSynchronized
  subst hsz
  have hD := hD0.self (sz := s.heap.size)
  generalize hAe : va_A (X ++ PL cy S) s.heap.size = A at hD ⊢
  have hA : ∀ q : Nat, s.heap.size ≤ q → A q := fun q h => by rw [← hAe]; exact Or.inr h
  have hS : va_S A s.heap s.heap [] := va_S.rf
  have hl := lv_entry ([.ref o1, .int x1, .int x2]) (n := 3) (Nat.le_of_ble_eq_true rfl)
  rw [lg_entry_eq]
  generalize (lg_sl ([.ref o1, .int x1, .int x2]) ++ List.replicate (3 - (lg_sl ([.ref o1, .int x1, .int x2])).length) Slot.unset).toArray = ls at hl ⊢
  have hl : lv_has ls 3 [(0, .ref o1), (1, .int x1), (2, .int x2)] := hl
  have t0 : stp [(12, 15)] [] [] S S := stp.rf hW
  have F1 := ((hW.at h_o1 List.not_mem_nil).to_12 h_o1.2.1).F0
  refine lv_aload_n hx hb dX12_overlap_0 rfl (lv_at hl 0 rfl) ?_
  refine lv_iload_n hx hb dX12_overlap_1 rfl (lv_at hl 1 rfl) ?_
  refine lv_iload_n hx hb dX12_overlap_2 rfl (lv_at hl 2 rfl) ?_
  refine lv_iconst (v := 1) hx hb dX12_overlap_3 (by decide) ?_
  refine lv_iconst (v := 2) hx hb dX12_overlap_4 (by decide) ?_
  have l32_1 : (1 : Int32).toInt = 1 := rfl
  have l32_2 : (2 : Int32).toInt = 2 := rfl
  have hFc := free_all hD hS hA
  obtain ⟨k2, gk2, hk2⟩ := wGt (cy := cy) X S h_o1.1 h_o1.2.1
  refine va_calli (va_runV (As := [.int x1, .int x2, .int (1 : Int32), .int (2 : Int32)]) (rest := []) ⟨hx, hb, hml, hown, hts⟩ (c_X12_isAsked l (cy := cy) (X := X) (D := D) S _ o1 h_o1 x1 x2 (hW)) (cwV 4 hts gX12_overlap_X12_isAsked rfl rfl rfl hd_X12_isAsked ⟨Nat.le_of_ble_eq_true rfl, Nat.le_of_ble_eq_true rfl⟩) (pV (va_recv hK hP (q := (RX12, TX12, 34)) (ci := 16) (q0 := k2) rfl hk2) hP hK hD hN) rfl rfl hl.1 rfl (lv_room (Nat.le_of_ble_eq_true rfl)) dX12_overlap_5 ⟨(Nat.zero_le _), (Nat.zero_le _)⟩) hS (fun q _ h => hFc q h) hFc (fun r3 u t H1 locs ht hvm hw hB hz1 hk1 hS => ?_)
  obtain ⟨c4, w5, y6, y7⟩ := hw
  obtain ⟨hP, hD⟩ := wd_post hFc ht hB
  generalize H1 = H at hP hS ⊢
  obtain ⟨S8, rfl⟩ : ∃ z, z = u := ⟨_, rfl⟩
  have t9 : stp [(12, 15)] [] [] S S8 := t0.tr w5 (by decide) (fun _ q => absurd q List.not_mem_nil)
  have xe10 : ext S S8 := w5.x
  have k11 : (S8.I (S.f o1 0) 2).toInt = (S.I (S.f o1 0) 2).toInt := by rw [(w5.fR (S.f o1 0) F1.2.1.1 List.not_mem_nil).1 2 (by rw [F1.2.1.2.1]; decide) |>.1]
  refine lv_if_eq (tgt := 27) hx hb dX12_overlap_8 (by decide) (fun c12 => ?_) (fun c12 => ?_)
  · have c12i : r3.toInt = 0 := eq_v rfl rfl c12
    refine lv_lconst (v := 0) hx hb dX12_overlap_27 (by decide) ?_
    refine W.widen (k := 0) (n := 0) (Nat.le_of_ble_eq_true rfl) (Nat.le_of_ble_eq_true rfl) ?_
    exact W.lret (v := (0 : Int64)) hx hb hr (fun t ht hW9 => ⟨⟨(0 : Int64), S8, rfl, ⟨(by show ((0 : Int64), S8) = f_X12_overlap S o1 x1 x2; unfold f_X12_overlap; rw [l2_eq c4.symm, if_pos c12]), t9⟩, wd_end hP hK hD ht hW9.alike⟩, hS.F ht⟩) hS.2.2 dX12_overlap_28 hlocks
  · have c12i : ¬ r3.toInt = 0 := neq_v rfl rfl c12
    refine lv_aload_n hx hb dX12_overlap_11 rfl (lv_at hl 0 rfl) ?_
    refine lv_iload_n hx hb dX12_overlap_12 rfl (lv_at hl 1 rfl) ?_
    have hFc := free_all hD hS hA
    obtain ⟨k13, gk13, hk13⟩ := wGt (cy := cy) X S8 (xe10.A h_o1).1 (xe10.A h_o1).2.1
    refine va_callq (va_runV (As := [.int x1]) (rest := []) ⟨hx, hb, hml, hown, hts⟩ (c_X12_gearAt l (cy := cy) (X := X) (D := D) S8 _ o1 (xe10.A h_o1) x1 (t9.w) (by rw [f_of (xe10.F h_o1 (by decide) F1.1)]; omega)) (cwV 1 hts gX12_overlap_X12_gearAt rfl rfl rfl hd_X12_gearAt ⟨Nat.le_of_ble_eq_true rfl, Nat.le_of_ble_eq_true rfl⟩) (pV (va_recv hK hP (q := (RX12, TX12, 34)) (ci := 16) (q0 := k13) rfl hk13) hP hK hD hN) rfl rfl hl.1 rfl (lv_room (Nat.le_of_ble_eq_true rfl)) dX12_overlap_13 ⟨(Nat.zero_le _), (Nat.zero_le _)⟩) hS (fun q _ h => hFc q h) hFc (fun r14 u t H1 locs ht hvm hw hB hz1 hk1 hS => ?_)
    obtain ⟨r14, rfl, c15, o16⟩ := hw
    obtain ⟨hP, hD⟩ := wd_post hFc ht hB
    generalize H1 = H at hP hS ⊢
    refine W.eq (g2 := F0 m 16 ls [.ref r14]) rfl ?_
    refine lv_aload_n hx hb dX12_overlap_16 rfl (lv_at hl 0 rfl) ?_
    refine lv_iload_n hx hb dX12_overlap_17 rfl (lv_at hl 2 rfl) ?_
    have hFc := free_all hD hS hA
    obtain ⟨k17, gk17, hk17⟩ := wGt (cy := cy) X S8 (xe10.A h_o1).1 (xe10.A h_o1).2.1
    refine va_callq (va_runV (As := [.int x2]) (rest := [.ref r14]) ⟨hx, hb, hml, hown, hts⟩ (c_X12_gearAt l (cy := cy) (X := X) (D := D) S8 _ o1 (xe10.A h_o1) x2 (t9.w) (by rw [f_of (xe10.F h_o1 (by decide) F1.1)]; omega)) (cwV 1 hts gX12_overlap_X12_gearAt rfl rfl rfl hd_X12_gearAt ⟨Nat.le_of_ble_eq_true rfl, Nat.le_of_ble_eq_true rfl⟩) (pV (va_recv hK hP (q := (RX12, TX12, 34)) (ci := 16) (q0 := k17) rfl hk17) hP hK hD hN) rfl rfl hl.1 rfl (lv_room (Nat.le_of_ble_eq_true rfl)) dX12_overlap_18 ⟨(Nat.zero_le _), (Nat.zero_le _)⟩) hS (fun q _ h => hFc q h) hFc (fun r18 u t H1 locs ht hvm hw hB hz1 hk1 hS => ?_)
    obtain ⟨r18, rfl, c19, o20⟩ := hw
    obtain ⟨hP, hD⟩ := wd_post hFc ht hB
    generalize H1 = H at hP hS ⊢
    refine W.eq (g2 := F0 m 21 ls [.ref r18, .ref r14]) rfl ?_
    have hFc := free_all hD hS hA
    refine va_calll (va_runS (As := [.ref r14, .ref r18]) (rest := []) ⟨hx, hb, hml, hown, hts⟩ (c_X12_overlapOf l (cy := cy) (X := X) (D := D) S8 _ r14 o16 r18 o20 (t9.w)) (cwS 2 hts gX12_overlap_X12_overlapOf rfl rfl rfl hd_X12_overlapOf ⟨Nat.le_of_ble_eq_true rfl, Nat.le_of_ble_eq_true rfl⟩) (pS hP hK hD hN) rfl rfl hl.1 rfl (lv_room (Nat.le_of_ble_eq_true rfl)) dX12_overlap_21 ⟨(Nat.zero_le _), (Nat.zero_le _)⟩) hS (fun q _ h => hFc q h) hFc (fun r21 u t H1 locs ht hvm hw hB hz1 hk1 hS => ?_)
    have c22 := hw
    obtain ⟨hP, hD⟩ := wd_post hFc ht hB
    generalize H1 = H at hP hS ⊢
    obtain rfl : f_X12_overlapOf S8 r14 r18 = r21 := c22.symm
    refine lv_goto (tgt := 28) hx hb dX12_overlap_24 (by decide) ?_
    refine W.widen (k := 0) (n := 0) (Nat.le_of_ble_eq_true rfl) (Nat.le_of_ble_eq_true rfl) ?_
    exact W.lret (v := f_X12_overlapOf S8 r14 r18) hx hb hr (fun t ht hW9 => ⟨⟨f_X12_overlapOf S8 r14 r18, S8, rfl, ⟨(by show (f_X12_overlapOf S8 r14 r18, S8) = f_X12_overlap S o1 x1 x2; unfold f_X12_overlap; rw [l2_eq c4.symm, if_neg c12, l1_eq c15.symm, l1_eq c19.symm]), t9⟩, wd_end hP hK hD ht hW9.alike⟩, hS.F ht⟩) hS.2.2 dX12_overlap_28 hlocks
def f_X12_runsWell (S : wPS) (o1 : Nat) (x1 : Int32) (x2 : Int32) : (Int32 × wPS) := l2 (f_X12_isAsked S o1 x1 x2) (fun r3 S8 => if r3 = (0 : Int32) then ((0 : Int32), S8) else l1 (f_X12_gearAt S8 o1 x1) (fun r14 => l1 (f_X12_gearAt S8 o1 x2) (fun r18 => if (f_X10_isFine S8 r14 (S8.I r14 7)) = (0 : Int32) then ((0 : Int32), S8) else if (f_X10_isFine S8 r18 (S8.I r18 7)) = (0 : Int32) then ((0 : Int32), S8) else if (lg_cmp ((f_X12_contactOf S8 o1 r14 r18) + (f_X12_overlapOf S8 r14 r18)) (1200 : Int64)) < (0 : Int32) then ((0 : Int32), S8) else ((1 : Int32), S8))))
theorem hi_X12_runsWell_X10 : ∀ w ∈ u_ws RX10 TX10 23, w ∈ wsX12_runsWell := by decide +kernel
theorem hd_X12_runsWell : yX12_runsWell.cls = RX12 ∧ yX12_runsWell.cls ≠ "java/lang/invoke/MethodHandle" ∧ yX12_runsWell.cls ≠ "java/lang/invoke/VarHandle" ∧ (parseMethodDescriptor yX12_runsWell.desc).map (fun d => d.parameters.length) = some 2 := by decide +kernel
set_option maxHeartbeats 4000000 in
set_option maxRecDepth 100000 in
theorem c_X12_runsWell (l : Launch) {D : va_G} {cy : Nat → ClassId} {X : va_W} (S : wPS) (sz : Nat) (o1 : Nat) (h_o1 : isA S o1 12) (x1 : Int32) (x2 : Int32) (hW : wtB S [])  : Met l yX12_runsWell wsX12_runsWell ({ frames := 6, cells := 0, slots := 0, locals := 133 }) (va_Pc [.ref o1, .int x1, .int x2] (fun U => U.heap.size = sz ∧ WD D cy X (fun _ => True) S U ∧ NW U)) (va_Qi (fun r (u : wPS) => (r, u) = f_X12_runsWell S o1 x1 x2 ∧ stp [(12, 15)] [] [] S u ∧ narrow .boolean (.int r) = .int r) (fun u t => WD D cy X (va_A (X ++ PL cy S) sz) u t) (va_A (X ++ PL cy S) sz)) 0 0 (va_A (X ++ PL cy S) sz) := by
  refine Met.ofW (cc := cX12_runsWell) (maxL := 5) (ret := (some .boolean)) (by decide) rfl ?_
  intro p e s m args below meth c s₁ B hml hv
  obtain ⟨rfl, hsz, ⟨hP, hK, hD0⟩, hN⟩ := hv
  have hx := B.exec
  have hb := B.bytes
  have hr := B.returns
  have hts := atoms_spec (ws := wsX12_runsWell) B.pre
  have hown : s.vm.findClass RX12 = some m.cls := findClass_of_methodNamed (x := yX12_runsWell) B.named
  have hlocks := B.notSynchronized
  subst hsz
  have hD := hD0.self (sz := s.heap.size)
  generalize hAe : va_A (X ++ PL cy S) s.heap.size = A at hD ⊢
  have hA : ∀ q : Nat, s.heap.size ≤ q → A q := fun q h => by rw [← hAe]; exact Or.inr h
  have hS : va_S A s.heap s.heap [] := va_S.rf
  have hl := lv_entry ([.ref o1, .int x1, .int x2]) (n := 5) (Nat.le_of_ble_eq_true rfl)
  rw [lg_entry_eq]
  generalize (lg_sl ([.ref o1, .int x1, .int x2]) ++ List.replicate (5 - (lg_sl ([.ref o1, .int x1, .int x2])).length) Slot.unset).toArray = ls at hl ⊢
  have hl : lv_has ls 5 [(0, .ref o1), (1, .int x1), (2, .int x2)] := hl
  have t0 : stp [(12, 15)] [] [] S S := stp.rf hW
  have F1 := ((hW.at h_o1 List.not_mem_nil).to_12 h_o1.2.1).F0
  refine lv_aload_n hx hb dX12_runsWell_0 rfl (lv_at hl 0 rfl) ?_
  refine lv_iload_n hx hb dX12_runsWell_1 rfl (lv_at hl 1 rfl) ?_
  refine lv_iload_n hx hb dX12_runsWell_2 rfl (lv_at hl 2 rfl) ?_
  refine lv_iconst (v := 1) hx hb dX12_runsWell_3 (by decide) ?_
  refine lv_iconst (v := 2) hx hb dX12_runsWell_4 (by decide) ?_
  have l32_1 : (1 : Int32).toInt = 1 := rfl
  have l32_2 : (2 : Int32).toInt = 2 := rfl
  have hFc := free_all hD hS hA
  obtain ⟨k2, gk2, hk2⟩ := wGt (cy := cy) X S h_o1.1 h_o1.2.1
  refine va_calli (va_runV (As := [.int x1, .int x2, .int (1 : Int32), .int (2 : Int32)]) (rest := []) ⟨hx, hb, hml, hown, hts⟩ (c_X12_isAsked l (cy := cy) (X := X) (D := D) S _ o1 h_o1 x1 x2 (hW)) (cwV 4 hts gX12_runsWell_X12_isAsked rfl rfl rfl hd_X12_isAsked ⟨Nat.le_of_ble_eq_true rfl, Nat.le_of_ble_eq_true rfl⟩) (pV (va_recv hK hP (q := (RX12, TX12, 34)) (ci := 16) (q0 := k2) rfl hk2) hP hK hD hN) rfl rfl hl.1 rfl (lv_room (Nat.le_of_ble_eq_true rfl)) dX12_runsWell_5 ⟨(Nat.zero_le _), (Nat.zero_le _)⟩) hS (fun q _ h => hFc q h) hFc (fun r3 u t H1 locs ht hvm hw hB hz1 hk1 hS => ?_)
  obtain ⟨c4, w5, y6, y7⟩ := hw
  obtain ⟨hP, hD⟩ := wd_post hFc ht hB
  generalize H1 = H at hP hS ⊢
  obtain ⟨S8, rfl⟩ : ∃ z, z = u := ⟨_, rfl⟩
  have t9 : stp [(12, 15)] [] [] S S8 := t0.tr w5 (by decide) (fun _ q => absurd q List.not_mem_nil)
  have xe10 : ext S S8 := w5.x
  have k11 : (S8.I (S.f o1 0) 2).toInt = (S.I (S.f o1 0) 2).toInt := by rw [(w5.fR (S.f o1 0) F1.2.1.1 List.not_mem_nil).1 2 (by rw [F1.2.1.2.1]; decide) |>.1]
  refine lv_if_ne (tgt := 13) hx hb dX12_runsWell_8 (by decide) (fun c12 => ?_) (fun c12 => ?_)
  · have c12i : ¬ r3.toInt = 0 := neq_v rfl rfl c12
    refine lv_aload_n hx hb dX12_runsWell_13 rfl (lv_at hl 0 rfl) ?_
    refine lv_iload_n hx hb dX12_runsWell_14 rfl (lv_at hl 1 rfl) ?_
    have hFc := free_all hD hS hA
    obtain ⟨k13, gk13, hk13⟩ := wGt (cy := cy) X S8 (xe10.A h_o1).1 (xe10.A h_o1).2.1
    refine va_callq (va_runV (As := [.int x1]) (rest := []) ⟨hx, hb, hml, hown, hts⟩ (c_X12_gearAt l (cy := cy) (X := X) (D := D) S8 _ o1 (xe10.A h_o1) x1 (t9.w) (by rw [f_of (xe10.F h_o1 (by decide) F1.1)]; omega)) (cwV 1 hts gX12_runsWell_X12_gearAt rfl rfl rfl hd_X12_gearAt ⟨Nat.le_of_ble_eq_true rfl, Nat.le_of_ble_eq_true rfl⟩) (pV (va_recv hK hP (q := (RX12, TX12, 34)) (ci := 16) (q0 := k13) rfl hk13) hP hK hD hN) rfl rfl hl.1 rfl (lv_room (Nat.le_of_ble_eq_true rfl)) dX12_runsWell_15 ⟨(Nat.zero_le _), (Nat.zero_le _)⟩) hS (fun q _ h => hFc q h) hFc (fun r14 u t H1 locs ht hvm hw hB hz1 hk1 hS => ?_)
    obtain ⟨r14, rfl, c15, o16⟩ := hw
    obtain ⟨hP, hD⟩ := wd_post hFc ht hB
    generalize H1 = H at hP hS ⊢
    refine W.eq (g2 := F0 m 18 ls [.ref r14]) rfl ?_
    refine lv_astore_n (lv' := [(3, .ref r14), (0, .ref o1), (1, .int x1), (2, .int x2)]) hx hb dX12_runsWell_18 rfl hl (by decide) rfl (fun ls hl => ?_)
    refine lv_aload_n hx hb dX12_runsWell_19 rfl (lv_at hl 1 rfl) ?_
    refine lv_iload_n hx hb dX12_runsWell_20 rfl (lv_at hl 3 rfl) ?_
    have hFc := free_all hD hS hA
    obtain ⟨k17, gk17, hk17⟩ := wGt (cy := cy) X S8 (xe10.A h_o1).1 (xe10.A h_o1).2.1
    refine va_callq (va_runV (As := [.int x2]) (rest := []) ⟨hx, hb, hml, hown, hts⟩ (c_X12_gearAt l (cy := cy) (X := X) (D := D) S8 _ o1 (xe10.A h_o1) x2 (t9.w) (by rw [f_of (xe10.F h_o1 (by decide) F1.1)]; omega)) (cwV 1 hts gX12_runsWell_X12_gearAt rfl rfl rfl hd_X12_gearAt ⟨Nat.le_of_ble_eq_true rfl, Nat.le_of_ble_eq_true rfl⟩) (pV (va_recv hK hP (q := (RX12, TX12, 34)) (ci := 16) (q0 := k17) rfl hk17) hP hK hD hN) rfl rfl hl.1 rfl (lv_room (Nat.le_of_ble_eq_true rfl)) dX12_runsWell_21 ⟨(Nat.zero_le _), (Nat.zero_le _)⟩) hS (fun q _ h => hFc q h) hFc (fun r18 u t H1 locs ht hvm hw hB hz1 hk1 hS => ?_)
    obtain ⟨r18, rfl, c19, o20⟩ := hw
    obtain ⟨hP, hD⟩ := wd_post hFc ht hB
    generalize H1 = H at hP hS ⊢
    refine W.eq (g2 := F0 m 24 ls [.ref r18]) rfl ?_
    refine lv_astore (lv' := [(4, .ref r18), (3, .ref r14), (0, .ref o1), (1, .int x1), (2, .int x2)]) hx hb dX12_runsWell_24 hl (by decide) rfl (fun ls hl => ?_)
    refine lv_aload_n hx hb dX12_runsWell_26 rfl (lv_at hl 1 rfl) ?_
    refine lv_aload_n hx hb dX12_runsWell_27 rfl (lv_at hl 1 rfl) ?_
    obtain ⟨k21, gk21, hk21⟩ := wGt (cy := cy) X S8 o16.1 o16.2.1
    refine va_getN (D := D) (ci := 14) (v := .int (S8.I r14 7)) (C := RX10) (T := TX10) (N := 23) hx hb hts hi_X12_runsWell_X10 hown hK hP k21 hk21 rfl 7 (by decide) (va_Nw.use rfl (hN (.fieldLinkNest RX12 164 "HobhouseModel$Gear" "shift" "I" "HobhouseModel") (by decide +kernel))) (fun _ h9 => h9) rfl dX12_runsWell_28 ?_
    have hFc := free_all hD hS hA
    obtain ⟨k22, gk22, hk22⟩ := wGt (cy := cy) X S8 o16.1 o16.2.1
    refine va_calli (va_runV (As := [.int (S8.I r14 7)]) (rest := []) ⟨hx, hb, hml, hown, hts⟩ (c_X10_isFine l (cy := cy) (X := X) (D := D) S8 _ r14 o16 (S8.I r14 7)) (cwV 1 hts gX12_runsWell_X10_isFine rfl rfl rfl hd_X10_isFine ⟨Nat.le_of_ble_eq_true rfl, Nat.le_of_ble_eq_true rfl⟩) (pV (va_recv hK hP (q := (RX10, TX10, 23)) (ci := 14) (q0 := k22) rfl hk22) hP hK hD hN) rfl rfl hl.1 rfl (lv_room (Nat.le_of_ble_eq_true rfl)) dX12_runsWell_31 ⟨(Nat.zero_le _), (Nat.zero_le _)⟩) hS (fun q _ h => hFc q h) hFc (fun r23 u t H1 locs ht hvm hw hB hz1 hk1 hS => ?_)
    have c24 := hw
    obtain ⟨hP, hD⟩ := wd_post hFc ht hB
    generalize H1 = H at hP hS ⊢
    obtain rfl : f_X10_isFine S8 r14 (S8.I r14 7) = r23 := c24.symm
    refine lv_if_eq (tgt := 75) hx hb dX12_runsWell_34 (by decide) (fun c25 => ?_) (fun c25 => ?_)
    · have c25i : (f_X10_isFine S8 r14 (S8.I r14 7)).toInt = 0 := eq_v rfl rfl c25
      refine lv_iconst (v := 0) hx hb dX12_runsWell_75 (by decide) ?_
      refine W.widen (k := 0) (n := 0) (Nat.le_of_ble_eq_true rfl) (Nat.le_of_ble_eq_true rfl) ?_
      exact W.zret (v := (0 : Int32)) hx hb hr (by rfl) (fun t ht hW9 => ⟨⟨(0 : Int32), S8, rfl, ⟨(by show ((0 : Int32), S8) = f_X12_runsWell S o1 x1 x2; unfold f_X12_runsWell; rw [l2_eq c4.symm, if_neg c12, l1_eq c15.symm, l1_eq c19.symm, if_pos c25]), t9, (by rfl)⟩, wd_end hP hK hD ht hW9.alike⟩, hS.F ht⟩) hS.2.2 dX12_runsWell_76 hlocks
    · have c25i : ¬ (f_X10_isFine S8 r14 (S8.I r14 7)).toInt = 0 := neq_v rfl rfl c25
      refine lv_aload hx hb dX12_runsWell_37 (lv_at hl 0 rfl) ?_
      refine lv_aload hx hb dX12_runsWell_39 (lv_at hl 0 rfl) ?_
      obtain ⟨k26, gk26, hk26⟩ := wGt (cy := cy) X S8 o20.1 o20.2.1
      refine va_getN (D := D) (ci := 14) (v := .int (S8.I r18 7)) (C := RX10) (T := TX10) (N := 23) hx hb hts hi_X12_runsWell_X10 hown hK hP k26 hk26 rfl 7 (by decide) (va_Nw.use rfl (hN (.fieldLinkNest RX12 164 "HobhouseModel$Gear" "shift" "I" "HobhouseModel") (by decide +kernel))) (fun _ h9 => h9) rfl dX12_runsWell_41 ?_
      have hFc := free_all hD hS hA
      obtain ⟨k27, gk27, hk27⟩ := wGt (cy := cy) X S8 o20.1 o20.2.1
      refine va_calli (va_runV (As := [.int (S8.I r18 7)]) (rest := []) ⟨hx, hb, hml, hown, hts⟩ (c_X10_isFine l (cy := cy) (X := X) (D := D) S8 _ r18 o20 (S8.I r18 7)) (cwV 1 hts gX12_runsWell_X10_isFine rfl rfl rfl hd_X10_isFine ⟨Nat.le_of_ble_eq_true rfl, Nat.le_of_ble_eq_true rfl⟩) (pV (va_recv hK hP (q := (RX10, TX10, 23)) (ci := 14) (q0 := k27) rfl hk27) hP hK hD hN) rfl rfl hl.1 rfl (lv_room (Nat.le_of_ble_eq_true rfl)) dX12_runsWell_44 ⟨(Nat.zero_le _), (Nat.zero_le _)⟩) hS (fun q _ h => hFc q h) hFc (fun r28 u t H1 locs ht hvm hw hB hz1 hk1 hS => ?_)
      have c29 := hw
      obtain ⟨hP, hD⟩ := wd_post hFc ht hB
      generalize H1 = H at hP hS ⊢
      obtain rfl : f_X10_isFine S8 r18 (S8.I r18 7) = r28 := c29.symm
      refine lv_if_eq (tgt := 75) hx hb dX12_runsWell_47 (by decide) (fun c30 => ?_) (fun c30 => ?_)
      · have c30i : (f_X10_isFine S8 r18 (S8.I r18 7)).toInt = 0 := eq_v rfl rfl c30
        refine lv_iconst (v := 0) hx hb dX12_runsWell_75 (by decide) ?_
        refine W.widen (k := 0) (n := 0) (Nat.le_of_ble_eq_true rfl) (Nat.le_of_ble_eq_true rfl) ?_
        exact W.zret (v := (0 : Int32)) hx hb hr (by rfl) (fun t ht hW9 => ⟨⟨(0 : Int32), S8, rfl, ⟨(by show ((0 : Int32), S8) = f_X12_runsWell S o1 x1 x2; unfold f_X12_runsWell; rw [l2_eq c4.symm, if_neg c12, l1_eq c15.symm, l1_eq c19.symm, if_neg c25, if_pos c30]), t9, (by rfl)⟩, wd_end hP hK hD ht hW9.alike⟩, hS.F ht⟩) hS.2.2 dX12_runsWell_76 hlocks
      · have c30i : ¬ (f_X10_isFine S8 r18 (S8.I r18 7)).toInt = 0 := neq_v rfl rfl c30
        refine lv_aload_n hx hb dX12_runsWell_50 rfl (lv_at hl 2 rfl) ?_
        refine lv_aload_n hx hb dX12_runsWell_51 rfl (lv_at hl 1 rfl) ?_
        refine lv_aload hx hb dX12_runsWell_52 (lv_at hl 0 rfl) ?_
        have hFc := free_all hD hS hA
        obtain ⟨k31, gk31, hk31⟩ := wGt (cy := cy) X S8 (xe10.A h_o1).1 (xe10.A h_o1).2.1
        refine va_calll (va_runV (As := [.ref r14, .ref r18]) (rest := []) ⟨hx, hb, hml, hown, hts⟩ (c_X12_contactOf l (cy := cy) (X := X) (D := D) S8 _ o1 (xe10.A h_o1) r14 o16 r18 o20 (t9.w)) (cwV 2 hts gX12_runsWell_X12_contactOf rfl rfl rfl hd_X12_contactOf ⟨Nat.le_of_ble_eq_true rfl, Nat.le_of_ble_eq_true rfl⟩) (pV (va_recv hK hP (q := (RX12, TX12, 34)) (ci := 16) (q0 := k31) rfl hk31) hP hK hD hN) rfl rfl hl.1 rfl (lv_room (Nat.le_of_ble_eq_true rfl)) dX12_runsWell_54 ⟨(Nat.zero_le _), (Nat.zero_le _)⟩) hS (fun q _ h => hFc q h) hFc (fun r32 u t H1 locs ht hvm hw hB hz1 hk1 hS => ?_)
        have c33 := hw
        obtain ⟨hP, hD⟩ := wd_post hFc ht hB
        generalize H1 = H at hP hS ⊢
        obtain rfl : f_X12_contactOf S8 o1 r14 r18 = r32 := c33.symm
        refine lv_aload_n hx hb dX12_runsWell_57 rfl (lv_at hl 1 rfl) ?_
        refine lv_aload hx hb dX12_runsWell_58 (lv_at hl 0 rfl) ?_
        have hFc := free_all hD hS hA
        refine va_calll (va_runS (As := [.ref r14, .ref r18]) (rest := [.long (f_X12_contactOf S8 o1 r14 r18)]) ⟨hx, hb, hml, hown, hts⟩ (c_X12_overlapOf l (cy := cy) (X := X) (D := D) S8 _ r14 o16 r18 o20 (t9.w)) (cwS 2 hts gX12_runsWell_X12_overlapOf rfl rfl rfl hd_X12_overlapOf ⟨Nat.le_of_ble_eq_true rfl, Nat.le_of_ble_eq_true rfl⟩) (pS hP hK hD hN) rfl rfl hl.1 rfl (lv_room (Nat.le_of_ble_eq_true rfl)) dX12_runsWell_60 ⟨(Nat.zero_le _), (Nat.zero_le _)⟩) hS (fun q _ h => hFc q h) hFc (fun r34 u t H1 locs ht hvm hw hB hz1 hk1 hS => ?_)
        have c35 := hw
        obtain ⟨hP, hD⟩ := wd_post hFc ht hB
        generalize H1 = H at hP hS ⊢
        obtain rfl : f_X12_overlapOf S8 r14 r18 = r34 := c35.symm
        refine lv_ladd hx hb dX12_runsWell_63 ?_
        refine lv_ldc2 (own := RX12) (v := 1200) hx hb hown (hts (.constantLong RX12 234 (1200)) (by decide +kernel)) dX12_runsWell_64 ?_
        refine W.lcmp hx hb dX12_runsWell_67 ?_
        refine lv_if_lt (tgt := 75) hx hb dX12_runsWell_68 (by decide) (fun c36 => ?_) (fun c36 => ?_)
        · have c36i := lc_lt c36
          refine lv_iconst (v := 0) hx hb dX12_runsWell_75 (by decide) ?_
          refine W.widen (k := 0) (n := 0) (Nat.le_of_ble_eq_true rfl) (Nat.le_of_ble_eq_true rfl) ?_
          exact W.zret (v := (0 : Int32)) hx hb hr (by rfl) (fun t ht hW9 => ⟨⟨(0 : Int32), S8, rfl, ⟨(by show ((0 : Int32), S8) = f_X12_runsWell S o1 x1 x2; unfold f_X12_runsWell; rw [l2_eq c4.symm, if_neg c12, l1_eq c15.symm, l1_eq c19.symm, if_neg c25, if_neg c30, if_pos c36]), t9, (by rfl)⟩, wd_end hP hK hD ht hW9.alike⟩, hS.F ht⟩) hS.2.2 dX12_runsWell_76 hlocks
        · have c36i := lc_nlt c36
          refine lv_iconst (v := 1) hx hb dX12_runsWell_71 (by decide) ?_
          refine lv_goto (tgt := 76) hx hb dX12_runsWell_72 (by decide) ?_
          refine W.widen (k := 0) (n := 0) (Nat.le_of_ble_eq_true rfl) (Nat.le_of_ble_eq_true rfl) ?_
          exact W.zret (v := (1 : Int32)) hx hb hr (by rfl) (fun t ht hW9 => ⟨⟨(1 : Int32), S8, rfl, ⟨(by show ((1 : Int32), S8) = f_X12_runsWell S o1 x1 x2; unfold f_X12_runsWell; rw [l2_eq c4.symm, if_neg c12, l1_eq c15.symm, l1_eq c19.symm, if_neg c25, if_neg c30, if_neg c36]), t9, (by rfl)⟩, wd_end hP hK hD ht hW9.alike⟩, hS.F ht⟩) hS.2.2 dX12_runsWell_76 hlocks
  · have c12i : r3.toInt = 0 := eq_v rfl rfl c12
    refine lv_iconst (v := 0) hx hb dX12_runsWell_11 (by decide) ?_
    refine W.widen (k := 0) (n := 0) (Nat.le_of_ble_eq_true rfl) (Nat.le_of_ble_eq_true rfl) ?_
    exact W.zret (v := (0 : Int32)) hx hb hr (by rfl) (fun t ht hW9 => ⟨⟨(0 : Int32), S8, rfl, ⟨(by show ((0 : Int32), S8) = f_X12_runsWell S o1 x1 x2; unfold f_X12_runsWell; rw [l2_eq c4.symm, if_pos c12]), t9, (by rfl)⟩, wd_end hP hK hD ht hW9.alike⟩, hS.F ht⟩) hS.2.2 dX12_runsWell_12 hlocks
def f_X12_slide (S : wPS) (o1 : Nat) (x1 : Int32) (x2 : Int32) : (Int64 × wPS) := l2 (f_X12_isAsked S o1 x1 x2) (fun r3 S8 => if r3 = (0 : Int32) then ((0 : Int64), S8) else l1 (f_X12_gearAt S8 o1 x1) (fun r14 => l1 (f_X12_gearAt S8 o1 x2) (fun r18 => l1 (f_X12_gearAt S8 o1 x1) (fun r22 => l1 (f_X12_gearAt S8 o1 x2) (fun r27 => (f_X12_slideOf S8 r14 r18 (S8.I r22 7) (S8.I r27 7), S8))))))
theorem hi_X12_slide_X10 : ∀ w ∈ u_ws RX10 TX10 23, w ∈ wsX12_slide := by decide +kernel
theorem hd_X12_slide : yX12_slide.cls = RX12 ∧ yX12_slide.cls ≠ "java/lang/invoke/MethodHandle" ∧ yX12_slide.cls ≠ "java/lang/invoke/VarHandle" ∧ (parseMethodDescriptor yX12_slide.desc).map (fun d => d.parameters.length) = some 2 := by decide +kernel
set_option maxHeartbeats 4000000 in
set_option maxRecDepth 100000 in
theorem c_X12_slide (l : Launch) {D : va_G} {cy : Nat → ClassId} {X : va_W} (S : wPS) (sz : Nat) (o1 : Nat) (h_o1 : isA S o1 12) (x1 : Int32) (x2 : Int32) (hW : wtB S [])  : Met l yX12_slide wsX12_slide ({ frames := 6, cells := 0, slots := 0, locals := 133 }) (va_Pc [.ref o1, .int x1, .int x2] (fun U => U.heap.size = sz ∧ WD D cy X (fun _ => True) S U ∧ NW U)) (va_Ql (fun r (u : wPS) => (r, u) = f_X12_slide S o1 x1 x2 ∧ stp [(12, 15)] [] [] S u) (fun u t => WD D cy X (va_A (X ++ PL cy S) sz) u t) (va_A (X ++ PL cy S) sz)) 0 0 (va_A (X ++ PL cy S) sz) := by
  refine Met.ofW (cc := cX12_slide) (maxL := 3) (ret := (some .long)) (by decide) rfl ?_
  intro p e s m args below meth c s₁ B hml hv
  obtain ⟨rfl, hsz, ⟨hP, hK, hD0⟩, hN⟩ := hv
  have hx := B.exec
  have hb := B.bytes
  have hr := B.returns
  have hts := atoms_spec (ws := wsX12_slide) B.pre
  have hown : s.vm.findClass RX12 = some m.cls := findClass_of_methodNamed (x := yX12_slide) B.named
  have hlocks := B.notSynchronized
  subst hsz
  have hD := hD0.self (sz := s.heap.size)
  generalize hAe : va_A (X ++ PL cy S) s.heap.size = A at hD ⊢
  have hA : ∀ q : Nat, s.heap.size ≤ q → A q := fun q h => by rw [← hAe]; exact Or.inr h
  have hS : va_S A s.heap s.heap [] := va_S.rf
  have hl := lv_entry ([.ref o1, .int x1, .int x2]) (n := 3) (Nat.le_of_ble_eq_true rfl)
  rw [lg_entry_eq]
  generalize (lg_sl ([.ref o1, .int x1, .int x2]) ++ List.replicate (3 - (lg_sl ([.ref o1, .int x1, .int x2])).length) Slot.unset).toArray = ls at hl ⊢
  have hl : lv_has ls 3 [(0, .ref o1), (1, .int x1), (2, .int x2)] := hl
  have t0 : stp [(12, 15)] [] [] S S := stp.rf hW
  have F1 := ((hW.at h_o1 List.not_mem_nil).to_12 h_o1.2.1).F0
  refine lv_aload_n hx hb dX12_slide_0 rfl (lv_at hl 0 rfl) ?_
  refine lv_iload_n hx hb dX12_slide_1 rfl (lv_at hl 1 rfl) ?_
  refine lv_iload_n hx hb dX12_slide_2 rfl (lv_at hl 2 rfl) ?_
  refine lv_iconst (v := 1) hx hb dX12_slide_3 (by decide) ?_
  refine lv_iconst (v := 2) hx hb dX12_slide_4 (by decide) ?_
  have l32_1 : (1 : Int32).toInt = 1 := rfl
  have l32_2 : (2 : Int32).toInt = 2 := rfl
  have hFc := free_all hD hS hA
  obtain ⟨k2, gk2, hk2⟩ := wGt (cy := cy) X S h_o1.1 h_o1.2.1
  refine va_calli (va_runV (As := [.int x1, .int x2, .int (1 : Int32), .int (2 : Int32)]) (rest := []) ⟨hx, hb, hml, hown, hts⟩ (c_X12_isAsked l (cy := cy) (X := X) (D := D) S _ o1 h_o1 x1 x2 (hW)) (cwV 4 hts gX12_slide_X12_isAsked rfl rfl rfl hd_X12_isAsked ⟨Nat.le_of_ble_eq_true rfl, Nat.le_of_ble_eq_true rfl⟩) (pV (va_recv hK hP (q := (RX12, TX12, 34)) (ci := 16) (q0 := k2) rfl hk2) hP hK hD hN) rfl rfl hl.1 rfl (lv_room (Nat.le_of_ble_eq_true rfl)) dX12_slide_5 ⟨(Nat.zero_le _), (Nat.zero_le _)⟩) hS (fun q _ h => hFc q h) hFc (fun r3 u t H1 locs ht hvm hw hB hz1 hk1 hS => ?_)
  obtain ⟨c4, w5, y6, y7⟩ := hw
  obtain ⟨hP, hD⟩ := wd_post hFc ht hB
  generalize H1 = H at hP hS ⊢
  obtain ⟨S8, rfl⟩ : ∃ z, z = u := ⟨_, rfl⟩
  have t9 : stp [(12, 15)] [] [] S S8 := t0.tr w5 (by decide) (fun _ q => absurd q List.not_mem_nil)
  have xe10 : ext S S8 := w5.x
  have k11 : (S8.I (S.f o1 0) 2).toInt = (S.I (S.f o1 0) 2).toInt := by rw [(w5.fR (S.f o1 0) F1.2.1.1 List.not_mem_nil).1 2 (by rw [F1.2.1.2.1]; decide) |>.1]
  refine lv_if_eq (tgt := 43) hx hb dX12_slide_8 (by decide) (fun c12 => ?_) (fun c12 => ?_)
  · have c12i : r3.toInt = 0 := eq_v rfl rfl c12
    refine lv_lconst (v := 0) hx hb dX12_slide_43 (by decide) ?_
    refine W.widen (k := 0) (n := 0) (Nat.le_of_ble_eq_true rfl) (Nat.le_of_ble_eq_true rfl) ?_
    exact W.lret (v := (0 : Int64)) hx hb hr (fun t ht hW9 => ⟨⟨(0 : Int64), S8, rfl, ⟨(by show ((0 : Int64), S8) = f_X12_slide S o1 x1 x2; unfold f_X12_slide; rw [l2_eq c4.symm, if_pos c12]), t9⟩, wd_end hP hK hD ht hW9.alike⟩, hS.F ht⟩) hS.2.2 dX12_slide_44 hlocks
  · have c12i : ¬ r3.toInt = 0 := neq_v rfl rfl c12
    refine lv_aload_n hx hb dX12_slide_11 rfl (lv_at hl 0 rfl) ?_
    refine lv_iload_n hx hb dX12_slide_12 rfl (lv_at hl 1 rfl) ?_
    have hFc := free_all hD hS hA
    obtain ⟨k13, gk13, hk13⟩ := wGt (cy := cy) X S8 (xe10.A h_o1).1 (xe10.A h_o1).2.1
    refine va_callq (va_runV (As := [.int x1]) (rest := []) ⟨hx, hb, hml, hown, hts⟩ (c_X12_gearAt l (cy := cy) (X := X) (D := D) S8 _ o1 (xe10.A h_o1) x1 (t9.w) (by rw [f_of (xe10.F h_o1 (by decide) F1.1)]; omega)) (cwV 1 hts gX12_slide_X12_gearAt rfl rfl rfl hd_X12_gearAt ⟨Nat.le_of_ble_eq_true rfl, Nat.le_of_ble_eq_true rfl⟩) (pV (va_recv hK hP (q := (RX12, TX12, 34)) (ci := 16) (q0 := k13) rfl hk13) hP hK hD hN) rfl rfl hl.1 rfl (lv_room (Nat.le_of_ble_eq_true rfl)) dX12_slide_13 ⟨(Nat.zero_le _), (Nat.zero_le _)⟩) hS (fun q _ h => hFc q h) hFc (fun r14 u t H1 locs ht hvm hw hB hz1 hk1 hS => ?_)
    obtain ⟨r14, rfl, c15, o16⟩ := hw
    obtain ⟨hP, hD⟩ := wd_post hFc ht hB
    generalize H1 = H at hP hS ⊢
    refine W.eq (g2 := F0 m 16 ls [.ref r14]) rfl ?_
    refine lv_aload_n hx hb dX12_slide_16 rfl (lv_at hl 0 rfl) ?_
    refine lv_iload_n hx hb dX12_slide_17 rfl (lv_at hl 2 rfl) ?_
    have hFc := free_all hD hS hA
    obtain ⟨k17, gk17, hk17⟩ := wGt (cy := cy) X S8 (xe10.A h_o1).1 (xe10.A h_o1).2.1
    refine va_callq (va_runV (As := [.int x2]) (rest := [.ref r14]) ⟨hx, hb, hml, hown, hts⟩ (c_X12_gearAt l (cy := cy) (X := X) (D := D) S8 _ o1 (xe10.A h_o1) x2 (t9.w) (by rw [f_of (xe10.F h_o1 (by decide) F1.1)]; omega)) (cwV 1 hts gX12_slide_X12_gearAt rfl rfl rfl hd_X12_gearAt ⟨Nat.le_of_ble_eq_true rfl, Nat.le_of_ble_eq_true rfl⟩) (pV (va_recv hK hP (q := (RX12, TX12, 34)) (ci := 16) (q0 := k17) rfl hk17) hP hK hD hN) rfl rfl hl.1 rfl (lv_room (Nat.le_of_ble_eq_true rfl)) dX12_slide_18 ⟨(Nat.zero_le _), (Nat.zero_le _)⟩) hS (fun q _ h => hFc q h) hFc (fun r18 u t H1 locs ht hvm hw hB hz1 hk1 hS => ?_)
    obtain ⟨r18, rfl, c19, o20⟩ := hw
    obtain ⟨hP, hD⟩ := wd_post hFc ht hB
    generalize H1 = H at hP hS ⊢
    refine W.eq (g2 := F0 m 21 ls [.ref r18, .ref r14]) rfl ?_
    refine lv_aload_n hx hb dX12_slide_21 rfl (lv_at hl 0 rfl) ?_
    refine lv_iload_n hx hb dX12_slide_22 rfl (lv_at hl 1 rfl) ?_
    have hFc := free_all hD hS hA
    obtain ⟨k21, gk21, hk21⟩ := wGt (cy := cy) X S8 (xe10.A h_o1).1 (xe10.A h_o1).2.1
    refine va_callq (va_runV (As := [.int x1]) (rest := [.ref r18, .ref r14]) ⟨hx, hb, hml, hown, hts⟩ (c_X12_gearAt l (cy := cy) (X := X) (D := D) S8 _ o1 (xe10.A h_o1) x1 (t9.w) (by rw [f_of (xe10.F h_o1 (by decide) F1.1)]; omega)) (cwV 1 hts gX12_slide_X12_gearAt rfl rfl rfl hd_X12_gearAt ⟨Nat.le_of_ble_eq_true rfl, Nat.le_of_ble_eq_true rfl⟩) (pV (va_recv hK hP (q := (RX12, TX12, 34)) (ci := 16) (q0 := k21) rfl hk21) hP hK hD hN) rfl rfl hl.1 rfl (lv_room (Nat.le_of_ble_eq_true rfl)) dX12_slide_23 ⟨(Nat.zero_le _), (Nat.zero_le _)⟩) hS (fun q _ h => hFc q h) hFc (fun r22 u t H1 locs ht hvm hw hB hz1 hk1 hS => ?_)
    obtain ⟨r22, rfl, c23, o24⟩ := hw
    obtain ⟨hP, hD⟩ := wd_post hFc ht hB
    generalize H1 = H at hP hS ⊢
    refine W.eq (g2 := F0 m 26 ls [.ref r22, .ref r18, .ref r14]) rfl ?_
    obtain ⟨k25, gk25, hk25⟩ := wGt (cy := cy) X S8 o24.1 o24.2.1
    refine va_getN (D := D) (ci := 14) (v := .int (S8.I r22 7)) (C := RX10) (T := TX10) (N := 23) hx hb hts hi_X12_slide_X10 hown hK hP k25 hk25 rfl 7 (by decide) (va_Nw.use rfl (hN (.fieldLinkNest RX12 164 "HobhouseModel$Gear" "shift" "I" "HobhouseModel") (by decide +kernel))) (fun _ h9 => h9) rfl dX12_slide_26 ?_
    refine lv_aload_n hx hb dX12_slide_29 rfl (lv_at hl 0 rfl) ?_
    refine lv_iload_n hx hb dX12_slide_30 rfl (lv_at hl 2 rfl) ?_
    have hFc := free_all hD hS hA
    obtain ⟨k26, gk26, hk26⟩ := wGt (cy := cy) X S8 (xe10.A h_o1).1 (xe10.A h_o1).2.1
    refine va_callq (va_runV (As := [.int x2]) (rest := [.int (S8.I r22 7), .ref r18, .ref r14]) ⟨hx, hb, hml, hown, hts⟩ (c_X12_gearAt l (cy := cy) (X := X) (D := D) S8 _ o1 (xe10.A h_o1) x2 (t9.w) (by rw [f_of (xe10.F h_o1 (by decide) F1.1)]; omega)) (cwV 1 hts gX12_slide_X12_gearAt rfl rfl rfl hd_X12_gearAt ⟨Nat.le_of_ble_eq_true rfl, Nat.le_of_ble_eq_true rfl⟩) (pV (va_recv hK hP (q := (RX12, TX12, 34)) (ci := 16) (q0 := k26) rfl hk26) hP hK hD hN) rfl rfl hl.1 rfl (lv_room (Nat.le_of_ble_eq_true rfl)) dX12_slide_31 ⟨(Nat.zero_le _), (Nat.zero_le _)⟩) hS (fun q _ h => hFc q h) hFc (fun r27 u t H1 locs ht hvm hw hB hz1 hk1 hS => ?_)
    obtain ⟨r27, rfl, c28, o29⟩ := hw
    obtain ⟨hP, hD⟩ := wd_post hFc ht hB
    generalize H1 = H at hP hS ⊢
    refine W.eq (g2 := F0 m 34 ls [.ref r27, .int (S8.I r22 7), .ref r18, .ref r14]) rfl ?_
    obtain ⟨k30, gk30, hk30⟩ := wGt (cy := cy) X S8 o29.1 o29.2.1
    refine va_getN (D := D) (ci := 14) (v := .int (S8.I r27 7)) (C := RX10) (T := TX10) (N := 23) hx hb hts hi_X12_slide_X10 hown hK hP k30 hk30 rfl 7 (by decide) (va_Nw.use rfl (hN (.fieldLinkNest RX12 164 "HobhouseModel$Gear" "shift" "I" "HobhouseModel") (by decide +kernel))) (fun _ h9 => h9) rfl dX12_slide_34 ?_
    have hFc := free_all hD hS hA
    refine va_calll (va_runS (As := [.ref r14, .ref r18, .int (S8.I r22 7), .int (S8.I r27 7)]) (rest := []) ⟨hx, hb, hml, hown, hts⟩ (c_X12_slideOf l (cy := cy) (X := X) (D := D) S8 _ r14 o16 r18 o20 (S8.I r22 7) (S8.I r27 7)) (cwS 4 hts gX12_slide_X12_slideOf rfl rfl rfl hd_X12_slideOf ⟨Nat.le_of_ble_eq_true rfl, Nat.le_of_ble_eq_true rfl⟩) (pS hP hK hD hN) rfl rfl hl.1 rfl (lv_room (Nat.le_of_ble_eq_true rfl)) dX12_slide_37 ⟨(Nat.zero_le _), (Nat.zero_le _)⟩) hS (fun q _ h => hFc q h) hFc (fun r31 u t H1 locs ht hvm hw hB hz1 hk1 hS => ?_)
    have c32 := hw
    obtain ⟨hP, hD⟩ := wd_post hFc ht hB
    generalize H1 = H at hP hS ⊢
    obtain rfl : f_X12_slideOf S8 r14 r18 (S8.I r22 7) (S8.I r27 7) = r31 := c32.symm
    refine lv_goto (tgt := 44) hx hb dX12_slide_40 (by decide) ?_
    refine W.widen (k := 0) (n := 0) (Nat.le_of_ble_eq_true rfl) (Nat.le_of_ble_eq_true rfl) ?_
    exact W.lret (v := f_X12_slideOf S8 r14 r18 (S8.I r22 7) (S8.I r27 7)) hx hb hr (fun t ht hW9 => ⟨⟨f_X12_slideOf S8 r14 r18 (S8.I r22 7) (S8.I r27 7), S8, rfl, ⟨(by show (f_X12_slideOf S8 r14 r18 (S8.I r22 7) (S8.I r27 7), S8) = f_X12_slide S o1 x1 x2; unfold f_X12_slide; rw [l2_eq c4.symm, if_neg c12, l1_eq c15.symm, l1_eq c19.symm, l1_eq c23.symm, l1_eq c28.symm]), t9⟩, wd_end hP hK hD ht hW9.alike⟩, hS.F ht⟩) hS.2.2 dX12_slide_44 hlocks
theorem hi_X12_balance_X10 : ∀ w ∈ u_ws RX10 TX10 23, w ∈ wsX12_balance := by decide +kernel
theorem hd_X12_balance : yX12_balance.cls = RX12 ∧ yX12_balance.cls ≠ "java/lang/invoke/MethodHandle" ∧ yX12_balance.cls ≠ "java/lang/invoke/VarHandle" ∧ (parseMethodDescriptor yX12_balance.desc).map (fun d => d.parameters.length) = some 2 := by decide +kernel
set_option maxHeartbeats 4000000 in
set_option maxRecDepth 100000 in
theorem c_X12_balance (l : Launch) {D : va_G} {cy : Nat → ClassId} {X : va_W} (S : wPS) (sz : Nat) (o1 : Nat) (h_o1 : isA S o1 12) (x1 : Int32) (x2 : Int32) (hW : wtB S [])  : Met l yX12_balance wsX12_balance ({ frames := 5, cells := 0, slots := 0, locals := 109 }) (va_Pc [.ref o1, .int x1, .int x2] (fun U => U.heap.size = sz ∧ WD D cy X (fun _ => True) S U ∧ NW U)) (va_Qi (fun r (u : wPS) => stp [(10, 7), (12, 15)] [] [] S u) (fun u t => WD D cy X (va_A (X ++ PL cy S) sz) u t) (va_A (X ++ PL cy S) sz)) 0 0 (va_A (X ++ PL cy S) sz) := by
  refine Met.ofW (cc := cX12_balance) (maxL := 9) (ret := (some .int)) (by decide) rfl ?_
  intro p e s m args below meth c s₁ B hml hv
  obtain ⟨rfl, hsz, ⟨hP, hK, hD0⟩, hN⟩ := hv
  have hx := B.exec
  have hb := B.bytes
  have hr := B.returns
  have hts := atoms_spec (ws := wsX12_balance) B.pre
  have hown : s.vm.findClass RX12 = some m.cls := findClass_of_methodNamed (x := yX12_balance) B.named
  have hlocks := B.notSynchronized
  subst hsz
  have hD := hD0.self (sz := s.heap.size)
  generalize hAe : va_A (X ++ PL cy S) s.heap.size = A at hD ⊢
  have hA : ∀ q : Nat, s.heap.size ≤ q → A q := fun q h => by rw [← hAe]; exact Or.inr h
  have hS : va_S A s.heap s.heap [] := va_S.rf
  have hl := lv_entry ([.ref o1, .int x1, .int x2]) (n := 9) (Nat.le_of_ble_eq_true rfl)
  rw [lg_entry_eq]
  generalize (lg_sl ([.ref o1, .int x1, .int x2]) ++ List.replicate (9 - (lg_sl ([.ref o1, .int x1, .int x2])).length) Slot.unset).toArray = ls at hl ⊢
  have hl : lv_has ls 9 [(0, .ref o1), (1, .int x1), (2, .int x2)] := hl
  have t0 : stp [(10, 7), (12, 15)] [] [] S S := stp.rf hW
  refine lv_aload_n hx hb dX12_balance_0 rfl (lv_at hl 0 rfl) ?_
  refine lv_iload_n hx hb dX12_balance_1 rfl (lv_at hl 1 rfl) ?_
  have hFc := free_all hD hS hA
  obtain ⟨k1, gk1, hk1⟩ := wGt (cy := cy) X S h_o1.1 h_o1.2.1
  refine va_calli (va_runV (As := [.int x1]) (rest := []) ⟨hx, hb, hml, hown, hts⟩ (c_X12_isGear l (cy := cy) (X := X) (D := D) S _ o1 h_o1 x1 (hW)) (cwV 1 hts gX12_balance_X12_isGear rfl rfl rfl hd_X12_isGear ⟨Nat.le_of_ble_eq_true rfl, Nat.le_of_ble_eq_true rfl⟩) (pV (va_recv hK hP (q := (RX12, TX12, 34)) (ci := 16) (q0 := k1) rfl hk1) hP hK hD hN) rfl rfl hl.1 rfl (lv_room (Nat.le_of_ble_eq_true rfl)) dX12_balance_2 ⟨(Nat.zero_le _), (Nat.zero_le _)⟩) hS (fun q _ h => hFc q h) hFc (fun r2 u t H1 locs ht hvm hw hB hz1 hk1 hS => ?_)
  have c3 := hw
  obtain ⟨hP, hD⟩ := wd_post hFc ht hB
  generalize H1 = H at hP hS ⊢
  obtain rfl : f_X12_isGear S o1 x1 = r2 := c3.symm
  have F4 := ((hW.at h_o1 List.not_mem_nil).to_12 h_o1.2.1).F0
  have i5 : (f_X12_isGear S o1 x1).toInt = 0 ∨ (0 ≤ x1.toInt ∧ x1.toInt < (S.I (S.f o1 0) 2).toInt) := by have h9 := ig_rng x1 ((hW.at h_o1 List.not_mem_nil).to_12 h_o1.2.1) hW; rw [f_of F4.1] at h9; exact h9
  refine lv_if_eq (tgt := 16) hx hb dX12_balance_5 (by decide) (fun c6 => ?_) (fun c6 => ?_)
  · have c6i : (f_X12_isGear S o1 x1).toInt = 0 := eq_v rfl rfl c6
    refine lv_aload_n hx hb dX12_balance_16 rfl (lv_at hl 0 rfl) ?_
    refine lv_iconst (v := 1) hx hb dX12_balance_17 (by decide) ?_
    have l32_1 : (1 : Int32).toInt = 1 := rfl
    have hFc := free_all hD hS hA
    obtain ⟨k7, gk7, hk7⟩ := wGt (cy := cy) X S h_o1.1 h_o1.2.1
    refine va_calli (va_runV (As := [.int (1 : Int32)]) (rest := []) ⟨hx, hb, hml, hown, hts⟩ (c_X12_fails l (cy := cy) (X := X) (D := D) S _ o1 h_o1 (1 : Int32) (hW)) (cwV 1 hts gX12_balance_X12_fails rfl rfl rfl hd_X12_fails ⟨Nat.le_of_ble_eq_true rfl, Nat.le_of_ble_eq_true rfl⟩) (pV (va_recv hK hP (q := (RX12, TX12, 34)) (ci := 16) (q0 := k7) rfl hk7) hP hK hD hN) rfl rfl hl.1 rfl (lv_room (Nat.le_of_ble_eq_true rfl)) dX12_balance_18 ⟨(Nat.zero_le _), (Nat.zero_le _)⟩) hS (fun q _ h => hFc q h) hFc (fun r8 u t H1 locs ht hvm hw hB hz1 hk1 hS => ?_)
    obtain ⟨c9, w10⟩ := hw
    obtain ⟨hP, hD⟩ := wd_post hFc ht hB
    generalize H1 = H at hP hS ⊢
    obtain ⟨S11, rfl⟩ : ∃ z, z = u := ⟨_, rfl⟩
    have t12 : stp [(10, 7), (12, 15)] [] [] S S11 := t0.tr w10 (by decide) (fun _ q => absurd q List.not_mem_nil)
    have xe13 : ext S S11 := w10.x
    refine W.widen (k := 0) (n := 0) (Nat.le_of_ble_eq_true rfl) (Nat.le_of_ble_eq_true rfl) ?_
    exact W.iret (v := r8) hx hb hr (fun t ht hW9 => ⟨⟨r8, S11, rfl, t12, wd_end hP hK hD ht hW9.alike⟩, hS.F ht⟩) hS.2.2 dX12_balance_21 hlocks
  · have c6i : ¬ (f_X12_isGear S o1 x1).toInt = 0 := neq_v rfl rfl c6
    refine lv_aload_n hx hb dX12_balance_8 rfl (lv_at hl 0 rfl) ?_
    refine lv_iload_n hx hb dX12_balance_9 rfl (lv_at hl 2 rfl) ?_
    have hFc := free_all hD hS hA
    obtain ⟨k14, gk14, hk14⟩ := wGt (cy := cy) X S h_o1.1 h_o1.2.1
    refine va_calli (va_runV (As := [.int x2]) (rest := []) ⟨hx, hb, hml, hown, hts⟩ (c_X12_isGear l (cy := cy) (X := X) (D := D) S _ o1 h_o1 x2 (hW)) (cwV 1 hts gX12_balance_X12_isGear rfl rfl rfl hd_X12_isGear ⟨Nat.le_of_ble_eq_true rfl, Nat.le_of_ble_eq_true rfl⟩) (pV (va_recv hK hP (q := (RX12, TX12, 34)) (ci := 16) (q0 := k14) rfl hk14) hP hK hD hN) rfl rfl hl.1 rfl (lv_room (Nat.le_of_ble_eq_true rfl)) dX12_balance_10 ⟨(Nat.zero_le _), (Nat.zero_le _)⟩) hS (fun q _ h => hFc q h) hFc (fun r15 u t H1 locs ht hvm hw hB hz1 hk1 hS => ?_)
    have c16 := hw
    obtain ⟨hP, hD⟩ := wd_post hFc ht hB
    generalize H1 = H at hP hS ⊢
    obtain rfl : f_X12_isGear S o1 x2 = r15 := c16.symm
    have i17 : (f_X12_isGear S o1 x2).toInt = 0 ∨ (0 ≤ x2.toInt ∧ x2.toInt < (S.I (S.f o1 0) 2).toInt) := by have h9 := ig_rng x2 ((hW.at h_o1 List.not_mem_nil).to_12 h_o1.2.1) hW; rw [f_of F4.1] at h9; exact h9
    refine lv_if_ne (tgt := 22) hx hb dX12_balance_13 (by decide) (fun c18 => ?_) (fun c18 => ?_)
    · have c18i : ¬ (f_X12_isGear S o1 x2).toInt = 0 := neq_v rfl rfl c18
      refine lv_aload_n hx hb dX12_balance_22 rfl (lv_at hl 0 rfl) ?_
      refine lv_iload_n hx hb dX12_balance_23 rfl (lv_at hl 1 rfl) ?_
      refine lv_iload_n hx hb dX12_balance_24 rfl (lv_at hl 2 rfl) ?_
      have hFc := free_all hD hS hA
      obtain ⟨k19, gk19, hk19⟩ := wGt (cy := cy) X S h_o1.1 h_o1.2.1
      refine va_calli (va_runV (As := [.int x1, .int x2]) (rest := []) ⟨hx, hb, hml, hown, hts⟩ (c_X12_isPair l (cy := cy) (X := X) (D := D) S _ o1 h_o1 x1 x2 (hW) (by rw [f_of F4.1]; omega) (by rw [f_of F4.1]; omega)) (cwV 2 hts gX12_balance_X12_isPair rfl rfl rfl hd_X12_isPair ⟨Nat.le_of_ble_eq_true rfl, Nat.le_of_ble_eq_true rfl⟩) (pV (va_recv hK hP (q := (RX12, TX12, 34)) (ci := 16) (q0 := k19) rfl hk19) hP hK hD hN) rfl rfl hl.1 rfl (lv_room (Nat.le_of_ble_eq_true rfl)) dX12_balance_25 ⟨(Nat.zero_le _), (Nat.zero_le _)⟩) hS (fun q _ h => hFc q h) hFc (fun r20 u t H1 locs ht hvm hw hB hz1 hk1 hS => ?_)
      obtain ⟨c21, y22⟩ := hw
      obtain ⟨hP, hD⟩ := wd_post hFc ht hB
      generalize H1 = H at hP hS ⊢
      obtain rfl : f_X12_isPair S o1 x1 x2 = r20 := c21.symm
      refine lv_if_eq (tgt := 53) hx hb dX12_balance_28 (by decide) (fun c23 => ?_) (fun c23 => ?_)
      · have c23i : (f_X12_isPair S o1 x1 x2).toInt = 0 := eq_v rfl rfl c23
        refine lv_aload_n hx hb dX12_balance_53 rfl (lv_at hl 0 rfl) ?_
        refine lv_iconst (v := 2) hx hb dX12_balance_54 (by decide) ?_
        have l32_2 : (2 : Int32).toInt = 2 := rfl
        have hFc := free_all hD hS hA
        obtain ⟨k24, gk24, hk24⟩ := wGt (cy := cy) X S h_o1.1 h_o1.2.1
        refine va_calli (va_runV (As := [.int (2 : Int32)]) (rest := []) ⟨hx, hb, hml, hown, hts⟩ (c_X12_fails l (cy := cy) (X := X) (D := D) S _ o1 h_o1 (2 : Int32) (hW)) (cwV 1 hts gX12_balance_X12_fails rfl rfl rfl hd_X12_fails ⟨Nat.le_of_ble_eq_true rfl, Nat.le_of_ble_eq_true rfl⟩) (pV (va_recv hK hP (q := (RX12, TX12, 34)) (ci := 16) (q0 := k24) rfl hk24) hP hK hD hN) rfl rfl hl.1 rfl (lv_room (Nat.le_of_ble_eq_true rfl)) dX12_balance_55 ⟨(Nat.zero_le _), (Nat.zero_le _)⟩) hS (fun q _ h => hFc q h) hFc (fun r25 u t H1 locs ht hvm hw hB hz1 hk1 hS => ?_)
        obtain ⟨c26, w27⟩ := hw
        obtain ⟨hP, hD⟩ := wd_post hFc ht hB
        generalize H1 = H at hP hS ⊢
        obtain ⟨S28, rfl⟩ : ∃ z, z = u := ⟨_, rfl⟩
        have t29 : stp [(10, 7), (12, 15)] [] [] S S28 := t0.tr w27 (by decide) (fun _ q => absurd q List.not_mem_nil)
        have xe30 : ext S S28 := w27.x
        refine W.widen (k := 0) (n := 0) (Nat.le_of_ble_eq_true rfl) (Nat.le_of_ble_eq_true rfl) ?_
        exact W.iret (v := r25) hx hb hr (fun t ht hW9 => ⟨⟨r25, S28, rfl, t29, wd_end hP hK hD ht hW9.alike⟩, hS.F ht⟩) hS.2.2 dX12_balance_58 hlocks
      · have c23i : ¬ (f_X12_isPair S o1 x1 x2).toInt = 0 := neq_v rfl rfl c23
        refine lv_aload_n hx hb dX12_balance_31 rfl (lv_at hl 0 rfl) ?_
        refine lv_iload_n hx hb dX12_balance_32 rfl (lv_at hl 1 rfl) ?_
        have hFc := free_all hD hS hA
        obtain ⟨k31, gk31, hk31⟩ := wGt (cy := cy) X S h_o1.1 h_o1.2.1
        refine va_callq (va_runV (As := [.int x1]) (rest := []) ⟨hx, hb, hml, hown, hts⟩ (c_X12_gearAt l (cy := cy) (X := X) (D := D) S _ o1 h_o1 x1 (hW) (by rw [f_of F4.1]; omega)) (cwV 1 hts gX12_balance_X12_gearAt rfl rfl rfl hd_X12_gearAt ⟨Nat.le_of_ble_eq_true rfl, Nat.le_of_ble_eq_true rfl⟩) (pV (va_recv hK hP (q := (RX12, TX12, 34)) (ci := 16) (q0 := k31) rfl hk31) hP hK hD hN) rfl rfl hl.1 rfl (lv_room (Nat.le_of_ble_eq_true rfl)) dX12_balance_33 ⟨(Nat.zero_le _), (Nat.zero_le _)⟩) hS (fun q _ h => hFc q h) hFc (fun r32 u t H1 locs ht hvm hw hB hz1 hk1 hS => ?_)
        obtain ⟨r32, rfl, c33, o34⟩ := hw
        obtain ⟨hP, hD⟩ := wd_post hFc ht hB
        generalize H1 = H at hP hS ⊢
        refine W.eq (g2 := F0 m 36 ls [.ref r32]) rfl ?_
        obtain ⟨k35, gk35, hk35⟩ := wGt (cy := cy) X S o34.1 o34.2.1
        have i36 := ((hW.at o34 List.not_mem_nil).to_10 o34.2.1).R18
        refine va_getN (D := D) (ci := 14) (v := .int (S.I r32 18)) (C := RX10) (T := TX10) (N := 23) hx hb hts hi_X12_balance_X10 hown hK hP k35 hk35 rfl 18 (by decide) (va_Nw.use rfl (hN (.fieldLinkNest RX12 160 "HobhouseModel$Gear" "isCut" "Z" "HobhouseModel") (by decide +kernel))) (fun _ h9 => h9) rfl dX12_balance_36 ?_
        refine lv_if_ne (tgt := 53) hx hb dX12_balance_39 (by decide) (fun c37 => ?_) (fun c37 => ?_)
        · have c37i : ¬ (S.I r32 18).toInt = 0 := neq_v rfl rfl c37
          refine lv_aload_n hx hb dX12_balance_53 rfl (lv_at hl 0 rfl) ?_
          refine lv_iconst (v := 2) hx hb dX12_balance_54 (by decide) ?_
          have l32_2 : (2 : Int32).toInt = 2 := rfl
          have hFc := free_all hD hS hA
          obtain ⟨k38, gk38, hk38⟩ := wGt (cy := cy) X S h_o1.1 h_o1.2.1
          refine va_calli (va_runV (As := [.int (2 : Int32)]) (rest := []) ⟨hx, hb, hml, hown, hts⟩ (c_X12_fails l (cy := cy) (X := X) (D := D) S _ o1 h_o1 (2 : Int32) (hW)) (cwV 1 hts gX12_balance_X12_fails rfl rfl rfl hd_X12_fails ⟨Nat.le_of_ble_eq_true rfl, Nat.le_of_ble_eq_true rfl⟩) (pV (va_recv hK hP (q := (RX12, TX12, 34)) (ci := 16) (q0 := k38) rfl hk38) hP hK hD hN) rfl rfl hl.1 rfl (lv_room (Nat.le_of_ble_eq_true rfl)) dX12_balance_55 ⟨(Nat.zero_le _), (Nat.zero_le _)⟩) hS (fun q _ h => hFc q h) hFc (fun r39 u t H1 locs ht hvm hw hB hz1 hk1 hS => ?_)
          obtain ⟨c40, w41⟩ := hw
          obtain ⟨hP, hD⟩ := wd_post hFc ht hB
          generalize H1 = H at hP hS ⊢
          obtain ⟨S42, rfl⟩ : ∃ z, z = u := ⟨_, rfl⟩
          have t43 : stp [(10, 7), (12, 15)] [] [] S S42 := t0.tr w41 (by decide) (fun _ q => absurd q List.not_mem_nil)
          have xe44 : ext S S42 := w41.x
          refine W.widen (k := 0) (n := 0) (Nat.le_of_ble_eq_true rfl) (Nat.le_of_ble_eq_true rfl) ?_
          exact W.iret (v := r39) hx hb hr (fun t ht hW9 => ⟨⟨r39, S42, rfl, t43, wd_end hP hK hD ht hW9.alike⟩, hS.F ht⟩) hS.2.2 dX12_balance_58 hlocks
        · have c37i : (S.I r32 18).toInt = 0 := eq_v rfl rfl c37
          refine lv_aload_n hx hb dX12_balance_42 rfl (lv_at hl 0 rfl) ?_
          refine lv_iload_n hx hb dX12_balance_43 rfl (lv_at hl 2 rfl) ?_
          have hFc := free_all hD hS hA
          obtain ⟨k45, gk45, hk45⟩ := wGt (cy := cy) X S h_o1.1 h_o1.2.1
          refine va_callq (va_runV (As := [.int x2]) (rest := []) ⟨hx, hb, hml, hown, hts⟩ (c_X12_gearAt l (cy := cy) (X := X) (D := D) S _ o1 h_o1 x2 (hW) (by rw [f_of F4.1]; omega)) (cwV 1 hts gX12_balance_X12_gearAt rfl rfl rfl hd_X12_gearAt ⟨Nat.le_of_ble_eq_true rfl, Nat.le_of_ble_eq_true rfl⟩) (pV (va_recv hK hP (q := (RX12, TX12, 34)) (ci := 16) (q0 := k45) rfl hk45) hP hK hD hN) rfl rfl hl.1 rfl (lv_room (Nat.le_of_ble_eq_true rfl)) dX12_balance_44 ⟨(Nat.zero_le _), (Nat.zero_le _)⟩) hS (fun q _ h => hFc q h) hFc (fun r46 u t H1 locs ht hvm hw hB hz1 hk1 hS => ?_)
          obtain ⟨r46, rfl, c47, o48⟩ := hw
          obtain ⟨hP, hD⟩ := wd_post hFc ht hB
          generalize H1 = H at hP hS ⊢
          refine W.eq (g2 := F0 m 47 ls [.ref r46]) rfl ?_
          obtain ⟨k49, gk49, hk49⟩ := wGt (cy := cy) X S o48.1 o48.2.1
          have i50 := ((hW.at o48 List.not_mem_nil).to_10 o48.2.1).R18
          refine va_getN (D := D) (ci := 14) (v := .int (S.I r46 18)) (C := RX10) (T := TX10) (N := 23) hx hb hts hi_X12_balance_X10 hown hK hP k49 hk49 rfl 18 (by decide) (va_Nw.use rfl (hN (.fieldLinkNest RX12 160 "HobhouseModel$Gear" "isCut" "Z" "HobhouseModel") (by decide +kernel))) (fun _ h9 => h9) rfl dX12_balance_47 ?_
          refine lv_if_eq (tgt := 59) hx hb dX12_balance_50 (by decide) (fun c51 => ?_) (fun c51 => ?_)
          · have c51i : (S.I r46 18).toInt = 0 := eq_v rfl rfl c51
            refine lv_aload_n hx hb dX12_balance_59 rfl (lv_at hl 0 rfl) ?_
            refine lv_iload_n hx hb dX12_balance_60 rfl (lv_at hl 1 rfl) ?_
            have hFc := free_all hD hS hA
            obtain ⟨k52, gk52, hk52⟩ := wGt (cy := cy) X S h_o1.1 h_o1.2.1
            refine va_callq (va_runV (As := [.int x1]) (rest := []) ⟨hx, hb, hml, hown, hts⟩ (c_X12_gearAt l (cy := cy) (X := X) (D := D) S _ o1 h_o1 x1 (hW) (by rw [f_of F4.1]; omega)) (cwV 1 hts gX12_balance_X12_gearAt rfl rfl rfl hd_X12_gearAt ⟨Nat.le_of_ble_eq_true rfl, Nat.le_of_ble_eq_true rfl⟩) (pV (va_recv hK hP (q := (RX12, TX12, 34)) (ci := 16) (q0 := k52) rfl hk52) hP hK hD hN) rfl rfl hl.1 rfl (lv_room (Nat.le_of_ble_eq_true rfl)) dX12_balance_61 ⟨(Nat.zero_le _), (Nat.zero_le _)⟩) hS (fun q _ h => hFc q h) hFc (fun r53 u t H1 locs ht hvm hw hB hz1 hk1 hS => ?_)
            obtain ⟨r53, rfl, c54, o55⟩ := hw
            obtain ⟨hP, hD⟩ := wd_post hFc ht hB
            generalize H1 = H at hP hS ⊢
            refine W.eq (g2 := F0 m 64 ls [.ref r53]) rfl ?_
            refine lv_astore_n (lv' := [(3, .ref r53), (0, .ref o1), (1, .int x1), (2, .int x2)]) hx hb dX12_balance_64 rfl hl (by decide) rfl (fun ls hl => ?_)
            refine lv_aload_n hx hb dX12_balance_65 rfl (lv_at hl 1 rfl) ?_
            refine lv_iload_n hx hb dX12_balance_66 rfl (lv_at hl 3 rfl) ?_
            have hFc := free_all hD hS hA
            obtain ⟨k56, gk56, hk56⟩ := wGt (cy := cy) X S h_o1.1 h_o1.2.1
            refine va_callq (va_runV (As := [.int x2]) (rest := []) ⟨hx, hb, hml, hown, hts⟩ (c_X12_gearAt l (cy := cy) (X := X) (D := D) S _ o1 h_o1 x2 (hW) (by rw [f_of F4.1]; omega)) (cwV 1 hts gX12_balance_X12_gearAt rfl rfl rfl hd_X12_gearAt ⟨Nat.le_of_ble_eq_true rfl, Nat.le_of_ble_eq_true rfl⟩) (pV (va_recv hK hP (q := (RX12, TX12, 34)) (ci := 16) (q0 := k56) rfl hk56) hP hK hD hN) rfl rfl hl.1 rfl (lv_room (Nat.le_of_ble_eq_true rfl)) dX12_balance_67 ⟨(Nat.zero_le _), (Nat.zero_le _)⟩) hS (fun q _ h => hFc q h) hFc (fun r57 u t H1 locs ht hvm hw hB hz1 hk1 hS => ?_)
            obtain ⟨r57, rfl, c58, o59⟩ := hw
            obtain ⟨hP, hD⟩ := wd_post hFc ht hB
            generalize H1 = H at hP hS ⊢
            refine W.eq (g2 := F0 m 70 ls [.ref r57]) rfl ?_
            refine lv_astore (lv' := [(4, .ref r57), (3, .ref r53), (0, .ref o1), (1, .int x1), (2, .int x2)]) hx hb dX12_balance_70 hl (by decide) rfl (fun ls hl => ?_)
            refine lv_bipush (v := 99) hx hb dX12_balance_72 (by decide +kernel) ?_
            refine lv_istore (lv' := [(5, .int (99 : Int32)), (4, .ref r57), (3, .ref r53), (0, .ref o1), (1, .int x1), (2, .int x2)]) hx hb dX12_balance_74 hl (by decide) rfl (fun ls hl => ?_)
            refine lv_iconst (v := 0) hx hb dX12_balance_76 (by decide) ?_
            refine lv_istore (lv' := [(6, .int (0 : Int32)), (5, .int (99 : Int32)), (4, .ref r57), (3, .ref r53), (0, .ref o1), (1, .int x1), (2, .int x2)]) hx hb dX12_balance_77 hl (by decide) rfl (fun ls hl => ?_)
            have l32_0 : (0 : Int32).toInt = 0 := rfl
            have loop79 : ∀ (n : Nat) (w79_5 : Int32) (w79_6 : Int32) (H : Heap) (locs : List Loc) (ls : Array Slot), (51 - w79_6.toInt).toNat < n → 0 ≤ w79_6.toInt ∧ w79_6.toInt ≤ 51 → va_P D vwCl (X ++ PL cy S) H → va_S A s.heap H locs → lv_has ls 9 [(6, .int w79_6), (5, .int w79_5), (4, .ref r57), (3, .ref r53), (0, .ref o1), (1, .int x1), (2, .int x2)] → (∀ (w79_5x : Int32) (w79_6x : Int32) (H : Heap) (locs : List Loc) (ls : Array Slot), 0 ≤ w79_6x.toInt ∧ w79_6x.toInt ≤ 51 → va_P D vwCl (X ++ PL cy S) H → va_S A s.heap H locs → lv_has ls 9 [(6, .int w79_6x), (5, .int w79_5x), (4, .ref r57), (3, .ref r53), (0, .ref o1), (1, .int x1), (2, .int x2)] → W p l e (headSpec wsX12_balance ({ frames := 5, cells := 0, slots := 0, locals := 109 } : Room)).room s m [.ref o1, .int x1, .int x2].toArray below meth c H locs 0 0 (MQ below (va_Qi (fun r (u : wPS) => stp [(10, 7), (12, 15)] [] [] S u) (fun u t => WD D cy X A u t) A) [.ref o1, .int x1, .int x2].toArray s 0 0 A) (F0 m 174 ls [])) → W p l e (headSpec wsX12_balance ({ frames := 5, cells := 0, slots := 0, locals := 109 } : Room)).room s m [.ref o1, .int x1, .int x2].toArray below meth c H locs 0 0 (MQ below (va_Qi (fun r (u : wPS) => stp [(10, 7), (12, 15)] [] [] S u) (fun u t => WD D cy X A u t) A) [.ref o1, .int x1, .int x2].toArray s 0 0 A) (F0 m 79 ls []) := by
              intro n79
              induction n79 with
              | zero => intro w79_5 w79_6 H locs ls hm; exact absurd hm (Nat.not_lt_zero _)
              | succ n79 ih79 =>
                intro w79_5 w79_6 H locs ls hm79 hi79 hP hS hl ko79
                refine lv_iload hx hb dX12_balance_79 (lv_at hl 0 rfl) ?_
                refine lv_bipush (v := 50) hx hb dX12_balance_81 (by decide +kernel) ?_
                refine lv_icmp_gt (tgt := 174) hx hb dX12_balance_83 (by decide) (fun c60 => ?_) (fun c60 => ?_)
                · have c60i : 50 < w79_6.toInt := lt_v rfl rfl c60
                  exact ko79 w79_5 w79_6 _ _ _ (by omega) hP hS (lv_sub hl [0, 1, 2, 3, 4, 5, 6] rfl)
                · have c60i : w79_6.toInt ≤ 50 := nlt_v rfl rfl c60
                  refine lv_iconst (v := 1) hx hb dX12_balance_86 (by decide) ?_
                  refine lv_istore (lv' := [(7, .int (1 : Int32)), (6, .int w79_6), (5, .int w79_5), (4, .ref r57), (3, .ref r53), (0, .ref o1), (1, .int x1), (2, .int x2)]) hx hb dX12_balance_87 hl (by decide) rfl (fun ls hl => ?_)
                  have l32_1 : (1 : Int32).toInt = 1 := rfl
                  have loop89 : ∀ (n : Nat) (w89_5 : Int32) (w89_7 : Int32) (H : Heap) (locs : List Loc) (ls : Array Slot), (w89_7.toInt + 3).toNat < n → -3 ≤ w89_7.toInt ∧ w89_7.toInt ≤ 1 → va_P D vwCl (X ++ PL cy S) H → va_S A s.heap H locs → lv_has ls 9 [(7, .int w89_7), (6, .int w79_6), (5, .int w89_5), (4, .ref r57), (3, .ref r53), (0, .ref o1), (1, .int x1), (2, .int x2)] → (∀ (w89_5x : Int32) (w89_7x : Int32) (H : Heap) (locs : List Loc) (ls : Array Slot), -3 ≤ w89_7x.toInt ∧ w89_7x.toInt ≤ 1 → va_P D vwCl (X ++ PL cy S) H → va_S A s.heap H locs → lv_has ls 9 [(7, .int w89_7x), (6, .int w79_6), (5, .int w89_5x), (4, .ref r57), (3, .ref r53), (0, .ref o1), (1, .int x1), (2, .int x2)] → W p l e (headSpec wsX12_balance ({ frames := 5, cells := 0, slots := 0, locals := 109 } : Room)).room s m [.ref o1, .int x1, .int x2].toArray below meth c H locs 0 0 (MQ below (va_Qi (fun r (u : wPS) => stp [(10, 7), (12, 15)] [] [] S u) (fun u t => WD D cy X A u t) A) [.ref o1, .int x1, .int x2].toArray s 0 0 A) (F0 m 168 ls [])) → W p l e (headSpec wsX12_balance ({ frames := 5, cells := 0, slots := 0, locals := 109 } : Room)).room s m [.ref o1, .int x1, .int x2].toArray below meth c H locs 0 0 (MQ below (va_Qi (fun r (u : wPS) => stp [(10, 7), (12, 15)] [] [] S u) (fun u t => WD D cy X A u t) A) [.ref o1, .int x1, .int x2].toArray s 0 0 A) (F0 m 89 ls []) := by
                    intro n89
                    induction n89 with
                    | zero => intro w89_5 w89_7 H locs ls hm; exact absurd hm (Nat.not_lt_zero _)
                    | succ n89 ih89 =>
                      intro w89_5 w89_7 H locs ls hm89 hi89 hP hS hl ko89
                      refine lv_iload hx hb dX12_balance_89 (lv_at hl 0 rfl) ?_
                      refine lv_iconst (v := -1) hx hb dX12_balance_91 (by decide) ?_
                      refine lv_icmp_lt (tgt := 168) hx hb dX12_balance_92 (by decide) (fun c61 => ?_) (fun c61 => ?_)
                      · have c61i : w89_7.toInt < -1 := lt_v rfl rfl c61
                        exact ko89 w89_5 w89_7 _ _ _ (by omega) hP hS (lv_sub hl [0, 1, 2, 3, 4, 5, 6, 7] rfl)
                      · have c61i : -1 ≤ w89_7.toInt := nlt_v rfl rfl c61
                        refine lv_iload hx hb dX12_balance_95 (lv_at hl 0 rfl) ?_
                        refine lv_iload hx hb dX12_balance_97 (lv_at hl 1 rfl) ?_
                        refine lv_imul hx hb dX12_balance_99 ?_
                        refine lv_istore (lv' := [(8, .int (w89_7 * w79_6)), (7, .int w89_7), (6, .int w79_6), (5, .int w89_5), (4, .ref r57), (3, .ref r53), (0, .ref o1), (1, .int x1), (2, .int x2)]) hx hb dX12_balance_100 hl (by decide) rfl (fun ls hl => ?_)
                        refine lv_aload_n hx hb dX12_balance_102 rfl (lv_at hl 5 rfl) ?_
                        refine lv_iload hx hb dX12_balance_103 (lv_at hl 0 rfl) ?_
                        have hFc := free_all hD hS hA
                        obtain ⟨k62, gk62, hk62⟩ := wGt (cy := cy) X S o55.1 o55.2.1
                        refine va_calli (va_runV (As := [.int (w89_7 * w79_6)]) (rest := []) ⟨hx, hb, hml, hown, hts⟩ (c_X10_isFine l (cy := cy) (X := X) (D := D) S _ r53 o55 (w89_7 * w79_6)) (cwV 1 hts gX12_balance_X10_isFine rfl rfl rfl hd_X10_isFine ⟨Nat.le_of_ble_eq_true rfl, Nat.le_of_ble_eq_true rfl⟩) (pV (va_recv hK hP (q := (RX10, TX10, 23)) (ci := 14) (q0 := k62) rfl hk62) hP hK hD hN) rfl rfl hl.1 rfl (lv_room (Nat.le_of_ble_eq_true rfl)) dX12_balance_105 ⟨(Nat.zero_le _), (Nat.zero_le _)⟩) hS (fun q _ h => hFc q h) hFc (fun r63 u t H1 locs ht hvm hw hB hz1 hk1 hS => ?_)
                        have c64 := hw
                        obtain ⟨hP, hD⟩ := wd_post hFc ht hB
                        generalize H1 = H at hP hS ⊢
                        obtain rfl : f_X10_isFine S r53 (w89_7 * w79_6) = r63 := c64.symm
                        refine lv_if_eq (tgt := 162) hx hb dX12_balance_108 (by decide) (fun c65 => ?_) (fun c65 => ?_)
                        · have c65i : (f_X10_isFine S r53 (w89_7 * w79_6)).toInt = 0 := eq_v rfl rfl c65
                          obtain ⟨v66, hv66⟩ : ∃ z : Int32, w89_7 + (-2 : Int32) = z := ⟨_, rfl⟩
                          have iv66 : v66.toInt = w89_7.toInt - 2 := by rw [← hv66]; exact t_addr (n := -2) rfl (by omega)
                          refine lv_iinc (v := v66) (lv' := [(7, .int v66), (8, .int (w89_7 * w79_6)), (6, .int w79_6), (5, .int w89_5), (4, .ref r57), (3, .ref r53), (0, .ref o1), (1, .int x1), (2, .int x2)]) hx hb dX12_balance_162 hl (k := 1) rfl (by rw [← hv66]; rfl) (by decide) rfl (fun ls hl => ?_)
                          refine lv_goto (tgt := 89) hx hb dX12_balance_165 (by decide) ?_
                          exact ih89 w89_5 v66 _ _ _ (Nat.lt_of_lt_of_le (by omega) (Nat.le_of_lt_succ hm89)) (by omega) hP hS (lv_sub hl [0, 2, 3, 4, 5, 6, 7, 8] rfl) ko89
                        · have c65i : ¬ (f_X10_isFine S r53 (w89_7 * w79_6)).toInt = 0 := neq_v rfl rfl c65
                          refine lv_aload hx hb dX12_balance_111 (lv_at hl 4 rfl) ?_
                          refine lv_iload hx hb dX12_balance_113 (lv_at hl 0 rfl) ?_
                          refine lv_ineg hx hb dX12_balance_115 ?_
                          have hFc := free_all hD hS hA
                          obtain ⟨k67, gk67, hk67⟩ := wGt (cy := cy) X S o59.1 o59.2.1
                          refine va_calli (va_runV (As := [.int (-(w89_7 * w79_6))]) (rest := []) ⟨hx, hb, hml, hown, hts⟩ (c_X10_isFine l (cy := cy) (X := X) (D := D) S _ r57 o59 (-(w89_7 * w79_6))) (cwV 1 hts gX12_balance_X10_isFine rfl rfl rfl hd_X10_isFine ⟨Nat.le_of_ble_eq_true rfl, Nat.le_of_ble_eq_true rfl⟩) (pV (va_recv hK hP (q := (RX10, TX10, 23)) (ci := 14) (q0 := k67) rfl hk67) hP hK hD hN) rfl rfl hl.1 rfl (lv_room (Nat.le_of_ble_eq_true rfl)) dX12_balance_116 ⟨(Nat.zero_le _), (Nat.zero_le _)⟩) hS (fun q _ h => hFc q h) hFc (fun r68 u t H1 locs ht hvm hw hB hz1 hk1 hS => ?_)
                          have c69 := hw
                          obtain ⟨hP, hD⟩ := wd_post hFc ht hB
                          generalize H1 = H at hP hS ⊢
                          obtain rfl : f_X10_isFine S r57 (-(w89_7 * w79_6)) = r68 := c69.symm
                          refine lv_if_ne (tgt := 125) hx hb dX12_balance_119 (by decide) (fun c70 => ?_) (fun c70 => ?_)
                          · have c70i : ¬ (f_X10_isFine S r57 (-(w89_7 * w79_6))).toInt = 0 := neq_v rfl rfl c70
                            refine lv_iload hx hb dX12_balance_125 (lv_at hl 3 rfl) ?_
                            refine lv_bipush (v := 99) hx hb dX12_balance_127 (by decide +kernel) ?_
                            refine lv_icmp_eq (tgt := 158) hx hb dX12_balance_129 (by decide) (fun c71 => ?_) (fun c71 => ?_)
                            · have c71i : w89_5.toInt = 99 := eq_v rfl rfl c71
                              refine lv_iload hx hb dX12_balance_158 (lv_at hl 0 rfl) ?_
                              refine lv_istore (lv' := [(5, .int (w89_7 * w79_6)), (8, .int (w89_7 * w79_6)), (7, .int w89_7), (6, .int w79_6), (4, .ref r57), (3, .ref r53), (0, .ref o1), (1, .int x1), (2, .int x2)]) hx hb dX12_balance_160 hl (by decide) rfl (fun ls hl => ?_)
                              obtain ⟨v72, hv72⟩ : ∃ z : Int32, w89_7 + (-2 : Int32) = z := ⟨_, rfl⟩
                              have iv72 : v72.toInt = w89_7.toInt - 2 := by rw [← hv72]; exact t_addr (n := -2) rfl (by omega)
                              refine lv_iinc (v := v72) (lv' := [(7, .int v72), (5, .int (w89_7 * w79_6)), (8, .int (w89_7 * w79_6)), (6, .int w79_6), (4, .ref r57), (3, .ref r53), (0, .ref o1), (1, .int x1), (2, .int x2)]) hx hb dX12_balance_162 hl (k := 2) rfl (by rw [← hv72]; rfl) (by decide) rfl (fun ls hl => ?_)
                              refine lv_goto (tgt := 89) hx hb dX12_balance_165 (by decide) ?_
                              exact ih89 (w89_7 * w79_6) v72 _ _ _ (Nat.lt_of_lt_of_le (by omega) (Nat.le_of_lt_succ hm89)) (by omega) hP hS (lv_sub hl [0, 3, 1, 4, 5, 6, 7, 8] rfl) ko89
                            · have c71i : ¬ w89_5.toInt = 99 := neq_v rfl rfl c71
                              refine lv_aload_n hx hb dX12_balance_132 rfl (lv_at hl 5 rfl) ?_
                              refine lv_aload hx hb dX12_balance_133 (lv_at hl 4 rfl) ?_
                              refine lv_iload hx hb dX12_balance_135 (lv_at hl 0 rfl) ?_
                              refine lv_iload hx hb dX12_balance_137 (lv_at hl 0 rfl) ?_
                              refine lv_ineg hx hb dX12_balance_139 ?_
                              have hFc := free_all hD hS hA
                              refine va_calll (va_runS (As := [.ref r53, .ref r57, .int (w89_7 * w79_6), .int (-(w89_7 * w79_6))]) (rest := []) ⟨hx, hb, hml, hown, hts⟩ (c_X12_slideOf l (cy := cy) (X := X) (D := D) S _ r53 o55 r57 o59 (w89_7 * w79_6) (-(w89_7 * w79_6))) (cwS 4 hts gX12_balance_X12_slideOf rfl rfl rfl hd_X12_slideOf ⟨Nat.le_of_ble_eq_true rfl, Nat.le_of_ble_eq_true rfl⟩) (pS hP hK hD hN) rfl rfl hl.1 rfl (lv_room (Nat.le_of_ble_eq_true rfl)) dX12_balance_140 ⟨(Nat.zero_le _), (Nat.zero_le _)⟩) hS (fun q _ h => hFc q h) hFc (fun r73 u t H1 locs ht hvm hw hB hz1 hk1 hS => ?_)
                              have c74 := hw
                              obtain ⟨hP, hD⟩ := wd_post hFc ht hB
                              generalize H1 = H at hP hS ⊢
                              obtain rfl : f_X12_slideOf S r53 r57 (w89_7 * w79_6) (-(w89_7 * w79_6)) = r73 := c74.symm
                              refine lv_aload_n hx hb dX12_balance_143 rfl (lv_at hl 5 rfl) ?_
                              refine lv_aload hx hb dX12_balance_144 (lv_at hl 4 rfl) ?_
                              refine lv_iload hx hb dX12_balance_146 (lv_at hl 3 rfl) ?_
                              refine lv_iload hx hb dX12_balance_148 (lv_at hl 3 rfl) ?_
                              refine lv_ineg hx hb dX12_balance_150 ?_
                              have hFc := free_all hD hS hA
                              refine va_calll (va_runS (As := [.ref r53, .ref r57, .int w89_5, .int (-w89_5)]) (rest := [.long (f_X12_slideOf S r53 r57 (w89_7 * w79_6) (-(w89_7 * w79_6)))]) ⟨hx, hb, hml, hown, hts⟩ (c_X12_slideOf l (cy := cy) (X := X) (D := D) S _ r53 o55 r57 o59 w89_5 (-w89_5)) (cwS 4 hts gX12_balance_X12_slideOf rfl rfl rfl hd_X12_slideOf ⟨Nat.le_of_ble_eq_true rfl, Nat.le_of_ble_eq_true rfl⟩) (pS hP hK hD hN) rfl rfl hl.1 rfl (lv_room (Nat.le_of_ble_eq_true rfl)) dX12_balance_151 ⟨(Nat.zero_le _), (Nat.zero_le _)⟩) hS (fun q _ h => hFc q h) hFc (fun r75 u t H1 locs ht hvm hw hB hz1 hk1 hS => ?_)
                              have c76 := hw
                              obtain ⟨hP, hD⟩ := wd_post hFc ht hB
                              generalize H1 = H at hP hS ⊢
                              obtain rfl : f_X12_slideOf S r53 r57 w89_5 (-w89_5) = r75 := c76.symm
                              refine W.lcmp hx hb dX12_balance_154 ?_
                              refine lv_if_ge (tgt := 162) hx hb dX12_balance_155 (by decide) (fun c77 => ?_) (fun c77 => ?_)
                              · obtain ⟨v78, hv78⟩ : ∃ z : Int32, w89_7 + (-2 : Int32) = z := ⟨_, rfl⟩
                                have iv78 : v78.toInt = w89_7.toInt - 2 := by rw [← hv78]; exact t_addr (n := -2) rfl (by omega)
                                refine lv_iinc (v := v78) (lv' := [(7, .int v78), (8, .int (w89_7 * w79_6)), (6, .int w79_6), (5, .int w89_5), (4, .ref r57), (3, .ref r53), (0, .ref o1), (1, .int x1), (2, .int x2)]) hx hb dX12_balance_162 hl (k := 1) rfl (by rw [← hv78]; rfl) (by decide) rfl (fun ls hl => ?_)
                                refine lv_goto (tgt := 89) hx hb dX12_balance_165 (by decide) ?_
                                exact ih89 w89_5 v78 _ _ _ (Nat.lt_of_lt_of_le (by omega) (Nat.le_of_lt_succ hm89)) (by omega) hP hS (lv_sub hl [0, 2, 3, 4, 5, 6, 7, 8] rfl) ko89
                              · refine lv_iload hx hb dX12_balance_158 (lv_at hl 0 rfl) ?_
                                refine lv_istore (lv' := [(5, .int (w89_7 * w79_6)), (8, .int (w89_7 * w79_6)), (7, .int w89_7), (6, .int w79_6), (4, .ref r57), (3, .ref r53), (0, .ref o1), (1, .int x1), (2, .int x2)]) hx hb dX12_balance_160 hl (by decide) rfl (fun ls hl => ?_)
                                obtain ⟨v79, hv79⟩ : ∃ z : Int32, w89_7 + (-2 : Int32) = z := ⟨_, rfl⟩
                                have iv79 : v79.toInt = w89_7.toInt - 2 := by rw [← hv79]; exact t_addr (n := -2) rfl (by omega)
                                refine lv_iinc (v := v79) (lv' := [(7, .int v79), (5, .int (w89_7 * w79_6)), (8, .int (w89_7 * w79_6)), (6, .int w79_6), (4, .ref r57), (3, .ref r53), (0, .ref o1), (1, .int x1), (2, .int x2)]) hx hb dX12_balance_162 hl (k := 2) rfl (by rw [← hv79]; rfl) (by decide) rfl (fun ls hl => ?_)
                                refine lv_goto (tgt := 89) hx hb dX12_balance_165 (by decide) ?_
                                exact ih89 (w89_7 * w79_6) v79 _ _ _ (Nat.lt_of_lt_of_le (by omega) (Nat.le_of_lt_succ hm89)) (by omega) hP hS (lv_sub hl [0, 3, 1, 4, 5, 6, 7, 8] rfl) ko89
                          · have c70i : (f_X10_isFine S r57 (-(w89_7 * w79_6))).toInt = 0 := eq_v rfl rfl c70
                            refine lv_goto (tgt := 162) hx hb dX12_balance_122 (by decide) ?_
                            obtain ⟨v80, hv80⟩ : ∃ z : Int32, w89_7 + (-2 : Int32) = z := ⟨_, rfl⟩
                            have iv80 : v80.toInt = w89_7.toInt - 2 := by rw [← hv80]; exact t_addr (n := -2) rfl (by omega)
                            refine lv_iinc (v := v80) (lv' := [(7, .int v80), (8, .int (w89_7 * w79_6)), (6, .int w79_6), (5, .int w89_5), (4, .ref r57), (3, .ref r53), (0, .ref o1), (1, .int x1), (2, .int x2)]) hx hb dX12_balance_162 hl (k := 1) rfl (by rw [← hv80]; rfl) (by decide) rfl (fun ls hl => ?_)
                            refine lv_goto (tgt := 89) hx hb dX12_balance_165 (by decide) ?_
                            exact ih89 w89_5 v80 _ _ _ (Nat.lt_of_lt_of_le (by omega) (Nat.le_of_lt_succ hm89)) (by omega) hP hS (lv_sub hl [0, 2, 3, 4, 5, 6, 7, 8] rfl) ko89
                  refine loop89 5 w79_5 (1 : Int32) _ _ _ (by omega) (by omega) hP hS (lv_sub hl [0, 1, 2, 3, 4, 5, 6, 7] rfl) (fun z82 z83 H locs ls hi89 hP hS hl => ?_)
                  refine lv_iinc (v := w79_6 + (1 : Int32)) (lv' := [(6, .int (w79_6 + (1 : Int32))), (7, .int z83), (5, .int z82), (4, .ref r57), (3, .ref r53), (0, .ref o1), (1, .int x1), (2, .int x2)]) hx hb dX12_balance_168 hl (k := 1) rfl (by rfl) (by decide) rfl (fun ls hl => ?_)
                  refine lv_goto (tgt := 79) hx hb dX12_balance_171 (by decide) ?_
                  have i84 : (w79_6 + (1 : Int32)).toInt = w79_6.toInt + 1 := t_addr (n := 1) rfl (by omega)
                  exact ih79 z82 (w79_6 + (1 : Int32)) _ _ _ (Nat.lt_of_lt_of_le (by omega) (Nat.le_of_lt_succ hm79)) (by omega) hP hS (lv_sub hl [0, 2, 3, 4, 5, 6, 7] rfl) ko79
            refine loop79 52 (99 : Int32) (0 : Int32) _ _ _ (by omega) (by omega) hP hS (lv_sub hl [0, 1, 2, 3, 4, 5, 6] rfl) (fun z86 z87 H locs ls hi79 hP hS hl => ?_)
            refine lv_iload hx hb dX12_balance_174 (lv_at hl 1 rfl) ?_
            refine lv_bipush (v := 99) hx hb dX12_balance_176 (by decide +kernel) ?_
            refine lv_icmp_ne (tgt := 187) hx hb dX12_balance_178 (by decide) (fun c88 => ?_) (fun c88 => ?_)
            · have c88i : ¬ z86.toInt = 99 := neq_v rfl rfl c88
              refine lv_aload_n hx hb dX12_balance_187 rfl (lv_at hl 3 rfl) ?_
              refine lv_iload hx hb dX12_balance_188 (lv_at hl 1 rfl) ?_
              obtain ⟨k89, gk89, hk89⟩ := wGt (cy := cy) X S o55.1 o55.2.1
              refine va_putN (D := D) (ci := 14) (v := .int z86) (ty := .int) (C := RX10) (T := TX10) (N := 23) hx hb hts hi_X12_balance_X10 tyX10 tyX10_ok nmX10 hown hK hP hD hS k89 hk89 rfl 7 (by decide) (va_Nw.use rfl (hN (.fieldLinkNest RX12 164 "HobhouseModel$Gear" "shift" "I" "HobhouseModel") (by decide +kernel))) (fun _ h9 => h9) rfl (by decide +kernel) (rfl) (rfl) (Nat.le_of_ble_eq_true rfl) dX12_balance_190 (fun H locs hP2 hD2 hS => ?_)
              have e9 := wPuI (cy := cy) (j := 7) (v := z86) hD o55.1 o55.2.1 gk89 rfl
              obtain ⟨S90, hS90⟩ : ∃ z, S.sI r53 7 z86 = z := ⟨_, rfl⟩
              have hP : va_P D vwCl (X ++ PL cy S90) H := by rw [← hS90, ← e9]; exact hP2
              have hD : va_D A (X ++ PL cy S90) := by rw [← hS90, ← e9]; exact hD2
              have xe91 : ext S S90 := by rw [← hS90]; exact ext.sI _ _ _ _
              have t92 : stp [(10, 7), (12, 15)] [] [] S S90 := by rw [← hS90]; exact t0.I 7 z86 o55 (by decide) (trivial) (Or.inl (by decide))
              refine lv_aload hx hb dX12_balance_193 (lv_at hl 2 rfl) ?_
              refine lv_iload hx hb dX12_balance_195 (lv_at hl 1 rfl) ?_
              refine lv_ineg hx hb dX12_balance_197 ?_
              obtain ⟨k93, gk93, hk93⟩ := wGt (cy := cy) X S90 (xe91.A o59).1 (xe91.A o59).2.1
              refine va_putN (D := D) (ci := 14) (v := .int (-z86)) (ty := .int) (C := RX10) (T := TX10) (N := 23) hx hb hts hi_X12_balance_X10 tyX10 tyX10_ok nmX10 hown hK hP hD hS k93 hk93 rfl 7 (by decide) (va_Nw.use rfl (hN (.fieldLinkNest RX12 164 "HobhouseModel$Gear" "shift" "I" "HobhouseModel") (by decide +kernel))) (fun _ h9 => h9) rfl (by decide +kernel) (rfl) (rfl) (Nat.le_of_ble_eq_true rfl) dX12_balance_198 (fun H locs hP2 hD2 hS => ?_)
              have e9 := wPuI (cy := cy) (j := 7) (v := (-z86)) hD (xe91.A o59).1 (xe91.A o59).2.1 gk93 rfl
              obtain ⟨S94, hS94⟩ : ∃ z, S90.sI r57 7 (-z86) = z := ⟨_, rfl⟩
              have hP : va_P D vwCl (X ++ PL cy S94) H := by rw [← hS94, ← e9]; exact hP2
              have hD : va_D A (X ++ PL cy S94) := by rw [← hS94, ← e9]; exact hD2
              have xe95 : ext S90 S94 := by rw [← hS94]; exact ext.sI _ _ _ _
              have t96 : stp [(10, 7), (12, 15)] [] [] S S94 := by rw [← hS94]; exact t92.I 7 (-z86) (xe91.A o59) (by decide) (trivial) (Or.inl (by decide))
              refine lv_aload_n hx hb dX12_balance_201 rfl (lv_at hl 4 rfl) ?_
              refine lv_iload hx hb dX12_balance_202 (lv_at hl 1 rfl) ?_
              have hFc := free_all hD hS hA
              obtain ⟨k97, gk97, hk97⟩ := wGt (cy := cy) X S94 ((xe91.tr xe95).A h_o1).1 ((xe91.tr xe95).A h_o1).2.1
              refine va_calli (va_runV (As := [.int z86]) (rest := []) ⟨hx, hb, hml, hown, hts⟩ (c_X12_answer l (cy := cy) (X := X) (D := D) S94 _ o1 ((xe91.tr xe95).A h_o1) z86 (t96.w)) (cwV 1 hts gX12_balance_X12_answer rfl rfl rfl hd_X12_answer ⟨Nat.le_of_ble_eq_true rfl, Nat.le_of_ble_eq_true rfl⟩) (pV (va_recv hK hP (q := (RX12, TX12, 34)) (ci := 16) (q0 := k97) rfl hk97) hP hK hD hN) rfl rfl hl.1 rfl (lv_room (Nat.le_of_ble_eq_true rfl)) dX12_balance_204 ⟨(Nat.zero_le _), (Nat.zero_le _)⟩) hS (fun q _ h => hFc q h) hFc (fun r98 u t H1 locs ht hvm hw hB hz1 hk1 hS => ?_)
              obtain ⟨c99, w100⟩ := hw
              obtain ⟨hP, hD⟩ := wd_post hFc ht hB
              generalize H1 = H at hP hS ⊢
              obtain ⟨S101, rfl⟩ : ∃ z, z = u := ⟨_, rfl⟩
              have t102 : stp [(10, 7), (12, 15)] [] [] S S101 := t96.tr w100 (by decide) (fun _ q => absurd q List.not_mem_nil)
              have xe103 : ext S94 S101 := w100.x
              refine W.widen (k := 0) (n := 0) (Nat.le_of_ble_eq_true rfl) (Nat.le_of_ble_eq_true rfl) ?_
              exact W.iret (v := r98) hx hb hr (fun t ht hW9 => ⟨⟨r98, S101, rfl, t102, wd_end hP hK hD ht hW9.alike⟩, hS.F ht⟩) hS.2.2 dX12_balance_207 hlocks
            · have c88i : z86.toInt = 99 := eq_v rfl rfl c88
              refine lv_aload_n hx hb dX12_balance_181 rfl (lv_at hl 4 rfl) ?_
              refine lv_iconst (v := 3) hx hb dX12_balance_182 (by decide) ?_
              have l32_3 : (3 : Int32).toInt = 3 := rfl
              have hFc := free_all hD hS hA
              obtain ⟨k104, gk104, hk104⟩ := wGt (cy := cy) X S h_o1.1 h_o1.2.1
              refine va_calli (va_runV (As := [.int (3 : Int32)]) (rest := []) ⟨hx, hb, hml, hown, hts⟩ (c_X12_fails l (cy := cy) (X := X) (D := D) S _ o1 h_o1 (3 : Int32) (hW)) (cwV 1 hts gX12_balance_X12_fails rfl rfl rfl hd_X12_fails ⟨Nat.le_of_ble_eq_true rfl, Nat.le_of_ble_eq_true rfl⟩) (pV (va_recv hK hP (q := (RX12, TX12, 34)) (ci := 16) (q0 := k104) rfl hk104) hP hK hD hN) rfl rfl hl.1 rfl (lv_room (Nat.le_of_ble_eq_true rfl)) dX12_balance_183 ⟨(Nat.zero_le _), (Nat.zero_le _)⟩) hS (fun q _ h => hFc q h) hFc (fun r105 u t H1 locs ht hvm hw hB hz1 hk1 hS => ?_)
              obtain ⟨c106, w107⟩ := hw
              obtain ⟨hP, hD⟩ := wd_post hFc ht hB
              generalize H1 = H at hP hS ⊢
              obtain ⟨S108, rfl⟩ : ∃ z, z = u := ⟨_, rfl⟩
              have t109 : stp [(10, 7), (12, 15)] [] [] S S108 := t0.tr w107 (by decide) (fun _ q => absurd q List.not_mem_nil)
              have xe110 : ext S S108 := w107.x
              refine W.widen (k := 0) (n := 0) (Nat.le_of_ble_eq_true rfl) (Nat.le_of_ble_eq_true rfl) ?_
              exact W.iret (v := r105) hx hb hr (fun t ht hW9 => ⟨⟨r105, S108, rfl, t109, wd_end hP hK hD ht hW9.alike⟩, hS.F ht⟩) hS.2.2 dX12_balance_186 hlocks
          · have c51i : ¬ (S.I r46 18).toInt = 0 := neq_v rfl rfl c51
            refine lv_aload_n hx hb dX12_balance_53 rfl (lv_at hl 0 rfl) ?_
            refine lv_iconst (v := 2) hx hb dX12_balance_54 (by decide) ?_
            have l32_2 : (2 : Int32).toInt = 2 := rfl
            have hFc := free_all hD hS hA
            obtain ⟨k111, gk111, hk111⟩ := wGt (cy := cy) X S h_o1.1 h_o1.2.1
            refine va_calli (va_runV (As := [.int (2 : Int32)]) (rest := []) ⟨hx, hb, hml, hown, hts⟩ (c_X12_fails l (cy := cy) (X := X) (D := D) S _ o1 h_o1 (2 : Int32) (hW)) (cwV 1 hts gX12_balance_X12_fails rfl rfl rfl hd_X12_fails ⟨Nat.le_of_ble_eq_true rfl, Nat.le_of_ble_eq_true rfl⟩) (pV (va_recv hK hP (q := (RX12, TX12, 34)) (ci := 16) (q0 := k111) rfl hk111) hP hK hD hN) rfl rfl hl.1 rfl (lv_room (Nat.le_of_ble_eq_true rfl)) dX12_balance_55 ⟨(Nat.zero_le _), (Nat.zero_le _)⟩) hS (fun q _ h => hFc q h) hFc (fun r112 u t H1 locs ht hvm hw hB hz1 hk1 hS => ?_)
            obtain ⟨c113, w114⟩ := hw
            obtain ⟨hP, hD⟩ := wd_post hFc ht hB
            generalize H1 = H at hP hS ⊢
            obtain ⟨S115, rfl⟩ : ∃ z, z = u := ⟨_, rfl⟩
            have t116 : stp [(10, 7), (12, 15)] [] [] S S115 := t0.tr w114 (by decide) (fun _ q => absurd q List.not_mem_nil)
            have xe117 : ext S S115 := w114.x
            refine W.widen (k := 0) (n := 0) (Nat.le_of_ble_eq_true rfl) (Nat.le_of_ble_eq_true rfl) ?_
            exact W.iret (v := r112) hx hb hr (fun t ht hW9 => ⟨⟨r112, S115, rfl, t116, wd_end hP hK hD ht hW9.alike⟩, hS.F ht⟩) hS.2.2 dX12_balance_58 hlocks
    · have c18i : (f_X12_isGear S o1 x2).toInt = 0 := eq_v rfl rfl c18
      refine lv_aload_n hx hb dX12_balance_16 rfl (lv_at hl 0 rfl) ?_
      refine lv_iconst (v := 1) hx hb dX12_balance_17 (by decide) ?_
      have l32_1 : (1 : Int32).toInt = 1 := rfl
      have hFc := free_all hD hS hA
      obtain ⟨k118, gk118, hk118⟩ := wGt (cy := cy) X S h_o1.1 h_o1.2.1
      refine va_calli (va_runV (As := [.int (1 : Int32)]) (rest := []) ⟨hx, hb, hml, hown, hts⟩ (c_X12_fails l (cy := cy) (X := X) (D := D) S _ o1 h_o1 (1 : Int32) (hW)) (cwV 1 hts gX12_balance_X12_fails rfl rfl rfl hd_X12_fails ⟨Nat.le_of_ble_eq_true rfl, Nat.le_of_ble_eq_true rfl⟩) (pV (va_recv hK hP (q := (RX12, TX12, 34)) (ci := 16) (q0 := k118) rfl hk118) hP hK hD hN) rfl rfl hl.1 rfl (lv_room (Nat.le_of_ble_eq_true rfl)) dX12_balance_18 ⟨(Nat.zero_le _), (Nat.zero_le _)⟩) hS (fun q _ h => hFc q h) hFc (fun r119 u t H1 locs ht hvm hw hB hz1 hk1 hS => ?_)
      obtain ⟨c120, w121⟩ := hw
      obtain ⟨hP, hD⟩ := wd_post hFc ht hB
      generalize H1 = H at hP hS ⊢
      obtain ⟨S122, rfl⟩ : ∃ z, z = u := ⟨_, rfl⟩
      have t123 : stp [(10, 7), (12, 15)] [] [] S S122 := t0.tr w121 (by decide) (fun _ q => absurd q List.not_mem_nil)
      have xe124 : ext S S122 := w121.x
      refine W.widen (k := 0) (n := 0) (Nat.le_of_ble_eq_true rfl) (Nat.le_of_ble_eq_true rfl) ?_
      exact W.iret (v := r119) hx hb hr (fun t ht hW9 => ⟨⟨r119, S122, rfl, t123, wd_end hP hK hD ht hW9.alike⟩, hS.F ht⟩) hS.2.2 dX12_balance_21 hlocks
def f_X12_section (S : wPS) (o1 : Nat) (x1 : Int32) (x2 : Int32) (x3 : Int32) (x4 : Int32) : (Int32 × wPS) := if (f_X12_isGear S o1 x1) = (0 : Int32) then l2 (f_X12_fails S o1 (1 : Int32)) (fun r8 S11 => (r8, S11)) else if (f_X12_isGear S o1 x2) = (0 : Int32) then l2 (f_X12_fails S o1 (1 : Int32)) (fun r100 S103 => (r100, S103)) else if (f_X12_in x4.toInt64 (1 : Int64) (50 : Int64)) = (0 : Int32) then l2 (f_X12_fails S o1 (2 : Int32)) (fun r25 S28 => (r25, S28)) else if (f_X12_in x3.toInt64 (0 : Int64) ((x4 - (1 : Int32)).toInt64)) = (0 : Int32) then l2 (f_X12_fails S o1 (2 : Int32)) (fun r93 S96 => (r93, S96)) else l1 (f_X12_gearAt S o1 x1) (fun r39 => l1 (f_X12_gearAt S o1 x2) (fun r43 => if (S.I r39 2) = (S.I r43 2) then if (lg_cmp ((3 : Int64) * ((S.I r39 4).toInt64)) ((f_X12_root (((f_X10_across S r39) * (f_X10_across S r39)) + ((f_X10_across S r43) * (f_X10_across S r43)))) / (2 : Int64))) ≤ (0 : Int32) then l2 (f_X12_answer S o1 (((((S.I r39 2).toInt64) * (((f_X12_root (((f_X10_across S r39) * (f_X10_across S r39)) + ((f_X10_across S r43) * (f_X10_across S r43)))) / (2 : Int64)) - ((((S.I r39 4).toInt64) * x3.toInt64) / x4.toInt64))) / ((f_X12_root (((f_X10_across S r39) * (f_X10_across S r39)) + ((f_X10_across S r43) * (f_X10_across S r43)))) / (2 : Int64))).toInt32)) (fun r79 S82 => (r79, S82)) else l2 (f_X12_fails S o1 (3 : Int32)) (fun r86 S89 => (r86, S89)) else l2 (f_X12_fails S o1 (3 : Int32)) (fun r67 S70 => (r67, S70))))
theorem hi_X12_section_X10 : ∀ w ∈ u_ws RX10 TX10 23, w ∈ wsX12_section := by decide +kernel
theorem hd_X12_section : yX12_section.cls = RX12 ∧ yX12_section.cls ≠ "java/lang/invoke/MethodHandle" ∧ yX12_section.cls ≠ "java/lang/invoke/VarHandle" ∧ (parseMethodDescriptor yX12_section.desc).map (fun d => d.parameters.length) = some 4 := by decide +kernel
set_option maxHeartbeats 4000000 in
set_option maxRecDepth 100000 in
theorem c_X12_section (l : Launch) {D : va_G} {cy : Nat → ClassId} {X : va_W} (S : wPS) (sz : Nat) (o1 : Nat) (h_o1 : isA S o1 12) (x1 : Int32) (x2 : Int32) (x3 : Int32) (x4 : Int32) (hW : wtB S [])  : Met l yX12_section wsX12_section ({ frames := 4, cells := 0, slots := 0, locals := 85 }) (va_Pc [.ref o1, .int x1, .int x2, .int x3, .int x4] (fun U => U.heap.size = sz ∧ WD D cy X (fun _ => True) S U ∧ NW U)) (va_Qi (fun r (u : wPS) => (r, u) = f_X12_section S o1 x1 x2 x3 x4 ∧ stp [(12, 15)] [] [] S u) (fun u t => WD D cy X (va_A (X ++ PL cy S) sz) u t) (va_A (X ++ PL cy S) sz)) 0 0 (va_A (X ++ PL cy S) sz) := by
  refine Met.ofW (cc := cX12_section) (maxL := 11) (ret := (some .int)) (by decide) rfl ?_
  intro p e s m args below meth c s₁ B hml hv
  obtain ⟨rfl, hsz, ⟨hP, hK, hD0⟩, hN⟩ := hv
  have hx := B.exec
  have hb := B.bytes
  have hr := B.returns
  have hts := atoms_spec (ws := wsX12_section) B.pre
  have hown : s.vm.findClass RX12 = some m.cls := findClass_of_methodNamed (x := yX12_section) B.named
  have hlocks := B.notSynchronized
  subst hsz
  have hD := hD0.self (sz := s.heap.size)
  generalize hAe : va_A (X ++ PL cy S) s.heap.size = A at hD ⊢
  have hA : ∀ q : Nat, s.heap.size ≤ q → A q := fun q h => by rw [← hAe]; exact Or.inr h
  have hS : va_S A s.heap s.heap [] := va_S.rf
  have hl := lv_entry ([.ref o1, .int x1, .int x2, .int x3, .int x4]) (n := 11) (Nat.le_of_ble_eq_true rfl)
  rw [lg_entry_eq]
  generalize (lg_sl ([.ref o1, .int x1, .int x2, .int x3, .int x4]) ++ List.replicate (11 - (lg_sl ([.ref o1, .int x1, .int x2, .int x3, .int x4])).length) Slot.unset).toArray = ls at hl ⊢
  have hl : lv_has ls 11 [(0, .ref o1), (1, .int x1), (2, .int x2), (3, .int x3), (4, .int x4)] := hl
  have t0 : stp [(12, 15)] [] [] S S := stp.rf hW
  refine lv_aload_n hx hb dX12_section_0 rfl (lv_at hl 0 rfl) ?_
  refine lv_iload_n hx hb dX12_section_1 rfl (lv_at hl 1 rfl) ?_
  have hFc := free_all hD hS hA
  obtain ⟨k1, gk1, hk1⟩ := wGt (cy := cy) X S h_o1.1 h_o1.2.1
  refine va_calli (va_runV (As := [.int x1]) (rest := []) ⟨hx, hb, hml, hown, hts⟩ (c_X12_isGear l (cy := cy) (X := X) (D := D) S _ o1 h_o1 x1 (hW)) (cwV 1 hts gX12_section_X12_isGear rfl rfl rfl hd_X12_isGear ⟨Nat.le_of_ble_eq_true rfl, Nat.le_of_ble_eq_true rfl⟩) (pV (va_recv hK hP (q := (RX12, TX12, 34)) (ci := 16) (q0 := k1) rfl hk1) hP hK hD hN) rfl rfl hl.1 rfl (lv_room (Nat.le_of_ble_eq_true rfl)) dX12_section_2 ⟨(Nat.zero_le _), (Nat.zero_le _)⟩) hS (fun q _ h => hFc q h) hFc (fun r2 u t H1 locs ht hvm hw hB hz1 hk1 hS => ?_)
  have c3 := hw
  obtain ⟨hP, hD⟩ := wd_post hFc ht hB
  generalize H1 = H at hP hS ⊢
  obtain rfl : f_X12_isGear S o1 x1 = r2 := c3.symm
  have F4 := ((hW.at h_o1 List.not_mem_nil).to_12 h_o1.2.1).F0
  have i5 : (f_X12_isGear S o1 x1).toInt = 0 ∨ (0 ≤ x1.toInt ∧ x1.toInt < (S.I (S.f o1 0) 2).toInt) := by have h9 := ig_rng x1 ((hW.at h_o1 List.not_mem_nil).to_12 h_o1.2.1) hW; rw [f_of F4.1] at h9; exact h9
  refine lv_if_eq (tgt := 16) hx hb dX12_section_5 (by decide) (fun c6 => ?_) (fun c6 => ?_)
  · have c6i : (f_X12_isGear S o1 x1).toInt = 0 := eq_v rfl rfl c6
    refine lv_aload_n hx hb dX12_section_16 rfl (lv_at hl 0 rfl) ?_
    refine lv_iconst (v := 1) hx hb dX12_section_17 (by decide) ?_
    have l32_1 : (1 : Int32).toInt = 1 := rfl
    have hFc := free_all hD hS hA
    obtain ⟨k7, gk7, hk7⟩ := wGt (cy := cy) X S h_o1.1 h_o1.2.1
    refine va_calli (va_runV (As := [.int (1 : Int32)]) (rest := []) ⟨hx, hb, hml, hown, hts⟩ (c_X12_fails l (cy := cy) (X := X) (D := D) S _ o1 h_o1 (1 : Int32) (hW)) (cwV 1 hts gX12_section_X12_fails rfl rfl rfl hd_X12_fails ⟨Nat.le_of_ble_eq_true rfl, Nat.le_of_ble_eq_true rfl⟩) (pV (va_recv hK hP (q := (RX12, TX12, 34)) (ci := 16) (q0 := k7) rfl hk7) hP hK hD hN) rfl rfl hl.1 rfl (lv_room (Nat.le_of_ble_eq_true rfl)) dX12_section_18 ⟨(Nat.zero_le _), (Nat.zero_le _)⟩) hS (fun q _ h => hFc q h) hFc (fun r8 u t H1 locs ht hvm hw hB hz1 hk1 hS => ?_)
    obtain ⟨c9, w10⟩ := hw
    obtain ⟨hP, hD⟩ := wd_post hFc ht hB
    generalize H1 = H at hP hS ⊢
    obtain ⟨S11, rfl⟩ : ∃ z, z = u := ⟨_, rfl⟩
    have t12 : stp [(12, 15)] [] [] S S11 := t0.tr w10 (by decide) (fun _ q => absurd q List.not_mem_nil)
    have xe13 : ext S S11 := w10.x
    refine W.widen (k := 0) (n := 0) (Nat.le_of_ble_eq_true rfl) (Nat.le_of_ble_eq_true rfl) ?_
    exact W.iret (v := r8) hx hb hr (fun t ht hW9 => ⟨⟨r8, S11, rfl, ⟨(by show (r8, S11) = f_X12_section S o1 x1 x2 x3 x4; unfold f_X12_section; rw [if_pos c6, l2_eq c9.symm]), t12⟩, wd_end hP hK hD ht hW9.alike⟩, hS.F ht⟩) hS.2.2 dX12_section_21 hlocks
  · have c6i : ¬ (f_X12_isGear S o1 x1).toInt = 0 := neq_v rfl rfl c6
    refine lv_aload_n hx hb dX12_section_8 rfl (lv_at hl 0 rfl) ?_
    refine lv_iload_n hx hb dX12_section_9 rfl (lv_at hl 2 rfl) ?_
    have hFc := free_all hD hS hA
    obtain ⟨k14, gk14, hk14⟩ := wGt (cy := cy) X S h_o1.1 h_o1.2.1
    refine va_calli (va_runV (As := [.int x2]) (rest := []) ⟨hx, hb, hml, hown, hts⟩ (c_X12_isGear l (cy := cy) (X := X) (D := D) S _ o1 h_o1 x2 (hW)) (cwV 1 hts gX12_section_X12_isGear rfl rfl rfl hd_X12_isGear ⟨Nat.le_of_ble_eq_true rfl, Nat.le_of_ble_eq_true rfl⟩) (pV (va_recv hK hP (q := (RX12, TX12, 34)) (ci := 16) (q0 := k14) rfl hk14) hP hK hD hN) rfl rfl hl.1 rfl (lv_room (Nat.le_of_ble_eq_true rfl)) dX12_section_10 ⟨(Nat.zero_le _), (Nat.zero_le _)⟩) hS (fun q _ h => hFc q h) hFc (fun r15 u t H1 locs ht hvm hw hB hz1 hk1 hS => ?_)
    have c16 := hw
    obtain ⟨hP, hD⟩ := wd_post hFc ht hB
    generalize H1 = H at hP hS ⊢
    obtain rfl : f_X12_isGear S o1 x2 = r15 := c16.symm
    have i17 : (f_X12_isGear S o1 x2).toInt = 0 ∨ (0 ≤ x2.toInt ∧ x2.toInt < (S.I (S.f o1 0) 2).toInt) := by have h9 := ig_rng x2 ((hW.at h_o1 List.not_mem_nil).to_12 h_o1.2.1) hW; rw [f_of F4.1] at h9; exact h9
    refine lv_if_ne (tgt := 22) hx hb dX12_section_13 (by decide) (fun c18 => ?_) (fun c18 => ?_)
    · have c18i : ¬ (f_X12_isGear S o1 x2).toInt = 0 := neq_v rfl rfl c18
      refine lv_iload hx hb dX12_section_22 (lv_at hl 4 rfl) ?_
      refine lv_i2l hx hb dX12_section_24 rfl ?_
      refine lv_lconst (v := 1) hx hb dX12_section_25 (by decide) ?_
      refine lv_ldc2 (own := RX12) (v := 50) hx hb hown (hts (.constantLong RX12 245 (50)) (by decide +kernel)) dX12_section_26 ?_
      have hFc := free_all hD hS hA
      refine va_calli (va_runS (As := [.long x4.toInt64, .long (1 : Int64), .long (50 : Int64)]) (rest := []) ⟨hx, hb, hml, hown, hts⟩ (c_X12_in l (cy := cy) (X := X) (D := D) S _ x4.toInt64 (1 : Int64) (50 : Int64)) (cwS 3 hts gX12_section_X12_in rfl rfl rfl hd_X12_in ⟨Nat.le_of_ble_eq_true rfl, Nat.le_of_ble_eq_true rfl⟩) (pS hP hK hD hN) rfl rfl hl.1 rfl (lv_room (Nat.le_of_ble_eq_true rfl)) dX12_section_29 ⟨(Nat.zero_le _), (Nat.zero_le _)⟩) hS (fun q _ h => hFc q h) hFc (fun r19 u t H1 locs ht hvm hw hB hz1 hk1 hS => ?_)
      have c20 := hw
      obtain ⟨hP, hD⟩ := wd_post hFc ht hB
      generalize H1 = H at hP hS ⊢
      obtain rfl : f_X12_in x4.toInt64 (1 : Int64) (50 : Int64) = r19 := c20.symm
      have i21 := i64_i x4
      have l64_1 : (1 : Int64).toInt = 1 := rfl
      have l64_50 : (50 : Int64).toInt = 50 := rfl
      have i22 := in_rng x4.toInt64 (1 : Int64) (50 : Int64)
      refine lv_if_eq (tgt := 49) hx hb dX12_section_32 (by decide) (fun c23 => ?_) (fun c23 => ?_)
      · have c23i : (f_X12_in x4.toInt64 (1 : Int64) (50 : Int64)).toInt = 0 := eq_v rfl rfl c23
        refine lv_aload_n hx hb dX12_section_49 rfl (lv_at hl 0 rfl) ?_
        refine lv_iconst (v := 2) hx hb dX12_section_50 (by decide) ?_
        have l32_2 : (2 : Int32).toInt = 2 := rfl
        have hFc := free_all hD hS hA
        obtain ⟨k24, gk24, hk24⟩ := wGt (cy := cy) X S h_o1.1 h_o1.2.1
        refine va_calli (va_runV (As := [.int (2 : Int32)]) (rest := []) ⟨hx, hb, hml, hown, hts⟩ (c_X12_fails l (cy := cy) (X := X) (D := D) S _ o1 h_o1 (2 : Int32) (hW)) (cwV 1 hts gX12_section_X12_fails rfl rfl rfl hd_X12_fails ⟨Nat.le_of_ble_eq_true rfl, Nat.le_of_ble_eq_true rfl⟩) (pV (va_recv hK hP (q := (RX12, TX12, 34)) (ci := 16) (q0 := k24) rfl hk24) hP hK hD hN) rfl rfl hl.1 rfl (lv_room (Nat.le_of_ble_eq_true rfl)) dX12_section_51 ⟨(Nat.zero_le _), (Nat.zero_le _)⟩) hS (fun q _ h => hFc q h) hFc (fun r25 u t H1 locs ht hvm hw hB hz1 hk1 hS => ?_)
        obtain ⟨c26, w27⟩ := hw
        obtain ⟨hP, hD⟩ := wd_post hFc ht hB
        generalize H1 = H at hP hS ⊢
        obtain ⟨S28, rfl⟩ : ∃ z, z = u := ⟨_, rfl⟩
        have t29 : stp [(12, 15)] [] [] S S28 := t0.tr w27 (by decide) (fun _ q => absurd q List.not_mem_nil)
        have xe30 : ext S S28 := w27.x
        refine W.widen (k := 0) (n := 0) (Nat.le_of_ble_eq_true rfl) (Nat.le_of_ble_eq_true rfl) ?_
        exact W.iret (v := r25) hx hb hr (fun t ht hW9 => ⟨⟨r25, S28, rfl, ⟨(by show (r25, S28) = f_X12_section S o1 x1 x2 x3 x4; unfold f_X12_section; rw [if_neg c6, if_neg c18, if_pos c23, l2_eq c26.symm]), t29⟩, wd_end hP hK hD ht hW9.alike⟩, hS.F ht⟩) hS.2.2 dX12_section_54 hlocks
      · have c23i : ¬ (f_X12_in x4.toInt64 (1 : Int64) (50 : Int64)).toInt = 0 := neq_v rfl rfl c23
        refine lv_iload_n hx hb dX12_section_35 rfl (lv_at hl 3 rfl) ?_
        refine lv_i2l hx hb dX12_section_36 rfl ?_
        refine lv_lconst (v := 0) hx hb dX12_section_37 (by decide) ?_
        refine lv_iload hx hb dX12_section_38 (lv_at hl 4 rfl) ?_
        refine lv_iconst (v := 1) hx hb dX12_section_40 (by decide) ?_
        refine lv_isub hx hb dX12_section_41 ?_
        refine lv_i2l hx hb dX12_section_42 rfl ?_
        have hFc := free_all hD hS hA
        refine va_calli (va_runS (As := [.long x3.toInt64, .long (0 : Int64), .long ((x4 - (1 : Int32)).toInt64)]) (rest := []) ⟨hx, hb, hml, hown, hts⟩ (c_X12_in l (cy := cy) (X := X) (D := D) S _ x3.toInt64 (0 : Int64) ((x4 - (1 : Int32)).toInt64)) (cwS 3 hts gX12_section_X12_in rfl rfl rfl hd_X12_in ⟨Nat.le_of_ble_eq_true rfl, Nat.le_of_ble_eq_true rfl⟩) (pS hP hK hD hN) rfl rfl hl.1 rfl (lv_room (Nat.le_of_ble_eq_true rfl)) dX12_section_43 ⟨(Nat.zero_le _), (Nat.zero_le _)⟩) hS (fun q _ h => hFc q h) hFc (fun r31 u t H1 locs ht hvm hw hB hz1 hk1 hS => ?_)
        have c32 := hw
        obtain ⟨hP, hD⟩ := wd_post hFc ht hB
        generalize H1 = H at hP hS ⊢
        obtain rfl : f_X12_in x3.toInt64 (0 : Int64) ((x4 - (1 : Int32)).toInt64) = r31 := c32.symm
        have i33 := i64_i x3
        have l64_0 : (0 : Int64).toInt = 0 := rfl
        have l32_1 : (1 : Int32).toInt = 1 := rfl
        have i34 : (x4 - (1 : Int32)).toInt = x4.toInt - 1 := t_subr (n := 1) rfl (by omega)
        have i35 := i64_i (x4 - (1 : Int32))
        have i36 := in_rng x3.toInt64 (0 : Int64) ((x4 - (1 : Int32)).toInt64)
        refine lv_if_ne (tgt := 55) hx hb dX12_section_46 (by decide) (fun c37 => ?_) (fun c37 => ?_)
        · have c37i : ¬ (f_X12_in x3.toInt64 (0 : Int64) ((x4 - (1 : Int32)).toInt64)).toInt = 0 := neq_v rfl rfl c37
          refine lv_aload_n hx hb dX12_section_55 rfl (lv_at hl 0 rfl) ?_
          refine lv_iload_n hx hb dX12_section_56 rfl (lv_at hl 1 rfl) ?_
          have hFc := free_all hD hS hA
          obtain ⟨k38, gk38, hk38⟩ := wGt (cy := cy) X S h_o1.1 h_o1.2.1
          refine va_callq (va_runV (As := [.int x1]) (rest := []) ⟨hx, hb, hml, hown, hts⟩ (c_X12_gearAt l (cy := cy) (X := X) (D := D) S _ o1 h_o1 x1 (hW) (by rw [f_of F4.1]; omega)) (cwV 1 hts gX12_section_X12_gearAt rfl rfl rfl hd_X12_gearAt ⟨Nat.le_of_ble_eq_true rfl, Nat.le_of_ble_eq_true rfl⟩) (pV (va_recv hK hP (q := (RX12, TX12, 34)) (ci := 16) (q0 := k38) rfl hk38) hP hK hD hN) rfl rfl hl.1 rfl (lv_room (Nat.le_of_ble_eq_true rfl)) dX12_section_57 ⟨(Nat.zero_le _), (Nat.zero_le _)⟩) hS (fun q _ h => hFc q h) hFc (fun r39 u t H1 locs ht hvm hw hB hz1 hk1 hS => ?_)
          obtain ⟨r39, rfl, c40, o41⟩ := hw
          obtain ⟨hP, hD⟩ := wd_post hFc ht hB
          generalize H1 = H at hP hS ⊢
          refine W.eq (g2 := F0 m 60 ls [.ref r39]) rfl ?_
          refine lv_astore (lv' := [(5, .ref r39), (0, .ref o1), (1, .int x1), (2, .int x2), (3, .int x3), (4, .int x4)]) hx hb dX12_section_60 hl (by decide) rfl (fun ls hl => ?_)
          refine lv_aload_n hx hb dX12_section_62 rfl (lv_at hl 1 rfl) ?_
          refine lv_iload_n hx hb dX12_section_63 rfl (lv_at hl 3 rfl) ?_
          have hFc := free_all hD hS hA
          obtain ⟨k42, gk42, hk42⟩ := wGt (cy := cy) X S h_o1.1 h_o1.2.1
          refine va_callq (va_runV (As := [.int x2]) (rest := []) ⟨hx, hb, hml, hown, hts⟩ (c_X12_gearAt l (cy := cy) (X := X) (D := D) S _ o1 h_o1 x2 (hW) (by rw [f_of F4.1]; omega)) (cwV 1 hts gX12_section_X12_gearAt rfl rfl rfl hd_X12_gearAt ⟨Nat.le_of_ble_eq_true rfl, Nat.le_of_ble_eq_true rfl⟩) (pV (va_recv hK hP (q := (RX12, TX12, 34)) (ci := 16) (q0 := k42) rfl hk42) hP hK hD hN) rfl rfl hl.1 rfl (lv_room (Nat.le_of_ble_eq_true rfl)) dX12_section_64 ⟨(Nat.zero_le _), (Nat.zero_le _)⟩) hS (fun q _ h => hFc q h) hFc (fun r43 u t H1 locs ht hvm hw hB hz1 hk1 hS => ?_)
          obtain ⟨r43, rfl, c44, o45⟩ := hw
          obtain ⟨hP, hD⟩ := wd_post hFc ht hB
          generalize H1 = H at hP hS ⊢
          refine W.eq (g2 := F0 m 67 ls [.ref r43]) rfl ?_
          refine lv_astore (lv' := [(6, .ref r43), (5, .ref r39), (0, .ref o1), (1, .int x1), (2, .int x2), (3, .int x3), (4, .int x4)]) hx hb dX12_section_67 hl (by decide) rfl (fun ls hl => ?_)
          refine lv_aload hx hb dX12_section_69 (lv_at hl 1 rfl) ?_
          have hFc := free_all hD hS hA
          obtain ⟨k46, gk46, hk46⟩ := wGt (cy := cy) X S o41.1 o41.2.1
          refine va_calll (va_runV (As := []) (rest := []) ⟨hx, hb, hml, hown, hts⟩ (c_X10_across l (cy := cy) (X := X) (D := D) S _ r39 o41) (cwV 0 hts gX12_section_X10_across rfl rfl rfl hd_X10_across ⟨Nat.le_of_ble_eq_true rfl, Nat.le_of_ble_eq_true rfl⟩) (pV (va_recv hK hP (q := (RX10, TX10, 23)) (ci := 14) (q0 := k46) rfl hk46) hP hK hD hN) rfl rfl hl.1 rfl (lv_room (Nat.le_of_ble_eq_true rfl)) dX12_section_71 ⟨(Nat.zero_le _), (Nat.zero_le _)⟩) hS (fun q _ h => hFc q h) hFc (fun r47 u t H1 locs ht hvm hw hB hz1 hk1 hS => ?_)
          have c48 := hw
          obtain ⟨hP, hD⟩ := wd_post hFc ht hB
          generalize H1 = H at hP hS ⊢
          obtain rfl : f_X10_across S r39 = r47 := c48.symm
          refine lv_aload hx hb dX12_section_74 (lv_at hl 1 rfl) ?_
          have hFc := free_all hD hS hA
          obtain ⟨k49, gk49, hk49⟩ := wGt (cy := cy) X S o41.1 o41.2.1
          refine va_calll (va_runV (As := []) (rest := [.long (f_X10_across S r39)]) ⟨hx, hb, hml, hown, hts⟩ (c_X10_across l (cy := cy) (X := X) (D := D) S _ r39 o41) (cwV 0 hts gX12_section_X10_across rfl rfl rfl hd_X10_across ⟨Nat.le_of_ble_eq_true rfl, Nat.le_of_ble_eq_true rfl⟩) (pV (va_recv hK hP (q := (RX10, TX10, 23)) (ci := 14) (q0 := k49) rfl hk49) hP hK hD hN) rfl rfl hl.1 rfl (lv_room (Nat.le_of_ble_eq_true rfl)) dX12_section_76 ⟨(Nat.zero_le _), (Nat.zero_le _)⟩) hS (fun q _ h => hFc q h) hFc (fun r50 u t H1 locs ht hvm hw hB hz1 hk1 hS => ?_)
          have c51 := hw
          obtain ⟨hP, hD⟩ := wd_post hFc ht hB
          generalize H1 = H at hP hS ⊢
          obtain rfl : f_X10_across S r39 = r50 := c51.symm
          refine lv_lmul hx hb dX12_section_79 ?_
          refine lv_aload hx hb dX12_section_80 (lv_at hl 0 rfl) ?_
          have hFc := free_all hD hS hA
          obtain ⟨k52, gk52, hk52⟩ := wGt (cy := cy) X S o45.1 o45.2.1
          refine va_calll (va_runV (As := []) (rest := [.long ((f_X10_across S r39) * (f_X10_across S r39))]) ⟨hx, hb, hml, hown, hts⟩ (c_X10_across l (cy := cy) (X := X) (D := D) S _ r43 o45) (cwV 0 hts gX12_section_X10_across rfl rfl rfl hd_X10_across ⟨Nat.le_of_ble_eq_true rfl, Nat.le_of_ble_eq_true rfl⟩) (pV (va_recv hK hP (q := (RX10, TX10, 23)) (ci := 14) (q0 := k52) rfl hk52) hP hK hD hN) rfl rfl hl.1 rfl (lv_room (Nat.le_of_ble_eq_true rfl)) dX12_section_82 ⟨(Nat.zero_le _), (Nat.zero_le _)⟩) hS (fun q _ h => hFc q h) hFc (fun r53 u t H1 locs ht hvm hw hB hz1 hk1 hS => ?_)
          have c54 := hw
          obtain ⟨hP, hD⟩ := wd_post hFc ht hB
          generalize H1 = H at hP hS ⊢
          obtain rfl : f_X10_across S r43 = r53 := c54.symm
          refine lv_aload hx hb dX12_section_85 (lv_at hl 0 rfl) ?_
          have hFc := free_all hD hS hA
          obtain ⟨k55, gk55, hk55⟩ := wGt (cy := cy) X S o45.1 o45.2.1
          refine va_calll (va_runV (As := []) (rest := [.long (f_X10_across S r43), .long ((f_X10_across S r39) * (f_X10_across S r39))]) ⟨hx, hb, hml, hown, hts⟩ (c_X10_across l (cy := cy) (X := X) (D := D) S _ r43 o45) (cwV 0 hts gX12_section_X10_across rfl rfl rfl hd_X10_across ⟨Nat.le_of_ble_eq_true rfl, Nat.le_of_ble_eq_true rfl⟩) (pV (va_recv hK hP (q := (RX10, TX10, 23)) (ci := 14) (q0 := k55) rfl hk55) hP hK hD hN) rfl rfl hl.1 rfl (lv_room (Nat.le_of_ble_eq_true rfl)) dX12_section_87 ⟨(Nat.zero_le _), (Nat.zero_le _)⟩) hS (fun q _ h => hFc q h) hFc (fun r56 u t H1 locs ht hvm hw hB hz1 hk1 hS => ?_)
          have c57 := hw
          obtain ⟨hP, hD⟩ := wd_post hFc ht hB
          generalize H1 = H at hP hS ⊢
          obtain rfl : f_X10_across S r43 = r56 := c57.symm
          refine lv_lmul hx hb dX12_section_90 ?_
          refine lv_ladd hx hb dX12_section_91 ?_
          have hFc := free_all hD hS hA
          refine va_calll (va_runS (As := [.long (((f_X10_across S r39) * (f_X10_across S r39)) + ((f_X10_across S r43) * (f_X10_across S r43)))]) (rest := []) ⟨hx, hb, hml, hown, hts⟩ (c_X12_root l (cy := cy) (X := X) (D := D) S _ (((f_X10_across S r39) * (f_X10_across S r39)) + ((f_X10_across S r43) * (f_X10_across S r43)))) (cwS 1 hts gX12_section_X12_root rfl rfl rfl hd_X12_root ⟨Nat.le_of_ble_eq_true rfl, Nat.le_of_ble_eq_true rfl⟩) (pS hP hK hD hN) rfl rfl hl.1 rfl (lv_room (Nat.le_of_ble_eq_true rfl)) dX12_section_92 ⟨(Nat.zero_le _), (Nat.zero_le _)⟩) hS (fun q _ h => hFc q h) hFc (fun r58 u t H1 locs ht hvm hw hB hz1 hk1 hS => ?_)
          obtain ⟨c59, y60⟩ := hw
          obtain ⟨hP, hD⟩ := wd_post hFc ht hB
          generalize H1 = H at hP hS ⊢
          obtain rfl : f_X12_root (((f_X10_across S r39) * (f_X10_across S r39)) + ((f_X10_across S r43) * (f_X10_across S r43))) = r58 := c59.symm
          refine lv_ldc2 (own := RX12) (v := 2) hx hb hown (hts (.constantLong RX12 3 (2)) (by decide +kernel)) dX12_section_95 ?_
          refine lv_ldiv hx hb dX12_section_98 (by decide) ?_
          refine lv_lstore (lv' := [(7, .long ((f_X12_root (((f_X10_across S r39) * (f_X10_across S r39)) + ((f_X10_across S r43) * (f_X10_across S r43)))) / (2 : Int64))), (6, .ref r43), (5, .ref r39), (0, .ref o1), (1, .int x1), (2, .int x2), (3, .int x3), (4, .int x4)]) hx hb dX12_section_99 hl (by decide) rfl (fun ls hl => ?_)
          refine lv_aload hx hb dX12_section_101 (lv_at hl 2 rfl) ?_
          obtain ⟨k61, gk61, hk61⟩ := wGt (cy := cy) X S o41.1 o41.2.1
          have i62 := ((hW.at o41 List.not_mem_nil).to_10 o41.2.1).R2
          refine va_getN (D := D) (ci := 14) (v := .int (S.I r39 2)) (C := RX10) (T := TX10) (N := 23) hx hb hts hi_X12_section_X10 hown hK hP k61 hk61 rfl 2 (by decide) (va_Nw.use rfl (hN (.fieldLinkNest RX12 115 "HobhouseModel$Gear" "module" "I" "HobhouseModel") (by decide +kernel))) (fun _ h9 => h9) rfl dX12_section_103 ?_
          refine lv_aload hx hb dX12_section_106 (lv_at hl 1 rfl) ?_
          obtain ⟨k63, gk63, hk63⟩ := wGt (cy := cy) X S o45.1 o45.2.1
          have i64 := ((hW.at o45 List.not_mem_nil).to_10 o45.2.1).R2
          refine va_getN (D := D) (ci := 14) (v := .int (S.I r43 2)) (C := RX10) (T := TX10) (N := 23) hx hb hts hi_X12_section_X10 hown hK hP k63 hk63 rfl 2 (by decide) (va_Nw.use rfl (hN (.fieldLinkNest RX12 115 "HobhouseModel$Gear" "module" "I" "HobhouseModel") (by decide +kernel))) (fun _ h9 => h9) rfl dX12_section_108 ?_
          refine lv_icmp_ne (tgt := 130) hx hb dX12_section_111 (by decide) (fun c65 => ?_) (fun c65 => ?_)
          · have c65i : ¬ (S.I r39 2).toInt = (S.I r43 2).toInt := neq_v rfl rfl c65
            refine lv_aload_n hx hb dX12_section_130 rfl (lv_at hl 3 rfl) ?_
            refine lv_iconst (v := 3) hx hb dX12_section_131 (by decide) ?_
            have l32_3 : (3 : Int32).toInt = 3 := rfl
            have hFc := free_all hD hS hA
            obtain ⟨k66, gk66, hk66⟩ := wGt (cy := cy) X S h_o1.1 h_o1.2.1
            refine va_calli (va_runV (As := [.int (3 : Int32)]) (rest := []) ⟨hx, hb, hml, hown, hts⟩ (c_X12_fails l (cy := cy) (X := X) (D := D) S _ o1 h_o1 (3 : Int32) (hW)) (cwV 1 hts gX12_section_X12_fails rfl rfl rfl hd_X12_fails ⟨Nat.le_of_ble_eq_true rfl, Nat.le_of_ble_eq_true rfl⟩) (pV (va_recv hK hP (q := (RX12, TX12, 34)) (ci := 16) (q0 := k66) rfl hk66) hP hK hD hN) rfl rfl hl.1 rfl (lv_room (Nat.le_of_ble_eq_true rfl)) dX12_section_132 ⟨(Nat.zero_le _), (Nat.zero_le _)⟩) hS (fun q _ h => hFc q h) hFc (fun r67 u t H1 locs ht hvm hw hB hz1 hk1 hS => ?_)
            obtain ⟨c68, w69⟩ := hw
            obtain ⟨hP, hD⟩ := wd_post hFc ht hB
            generalize H1 = H at hP hS ⊢
            obtain ⟨S70, rfl⟩ : ∃ z, z = u := ⟨_, rfl⟩
            have t71 : stp [(12, 15)] [] [] S S70 := t0.tr w69 (by decide) (fun _ q => absurd q List.not_mem_nil)
            have xe72 : ext S S70 := w69.x
            refine W.widen (k := 0) (n := 0) (Nat.le_of_ble_eq_true rfl) (Nat.le_of_ble_eq_true rfl) ?_
            exact W.iret (v := r67) hx hb hr (fun t ht hW9 => ⟨⟨r67, S70, rfl, ⟨(by show (r67, S70) = f_X12_section S o1 x1 x2 x3 x4; unfold f_X12_section; rw [if_neg c6, if_neg c18, if_neg c23, if_neg c37, l1_eq c40.symm, l1_eq c44.symm, if_neg c65, l2_eq c68.symm]), t71⟩, wd_end hP hK hD ht hW9.alike⟩, hS.F ht⟩) hS.2.2 dX12_section_135 hlocks
          · have c65i : (S.I r39 2).toInt = (S.I r43 2).toInt := eq_v rfl rfl c65
            refine lv_ldc2 (own := RX12) (v := 3) hx hb hown (hts (.constantLong RX12 247 (3)) (by decide +kernel)) dX12_section_114 ?_
            refine lv_aload hx hb dX12_section_117 (lv_at hl 2 rfl) ?_
            obtain ⟨k73, gk73, hk73⟩ := wGt (cy := cy) X S o41.1 o41.2.1
            have i74 := ((hW.at o41 List.not_mem_nil).to_10 o41.2.1).R4
            refine va_getN (D := D) (ci := 14) (v := .int (S.I r39 4)) (C := RX10) (T := TX10) (N := 23) hx hb hts hi_X12_section_X10 hown hK hP k73 hk73 rfl 4 (by decide) (va_Nw.use rfl (hN (.fieldLinkNest RX12 209 "HobhouseModel$Gear" "width" "I" "HobhouseModel") (by decide +kernel))) (fun _ h9 => h9) rfl dX12_section_119 ?_
            refine lv_i2l hx hb dX12_section_122 rfl ?_
            refine lv_lmul hx hb dX12_section_123 ?_
            refine lv_lload hx hb dX12_section_124 (lv_at hl 0 rfl) ?_
            refine W.lcmp hx hb dX12_section_126 ?_
            refine lv_if_le (tgt := 136) hx hb dX12_section_127 (by decide) (fun c75 => ?_) (fun c75 => ?_)
            · refine lv_lload hx hb dX12_section_136 (lv_at hl 0 rfl) ?_
              refine lv_aload hx hb dX12_section_138 (lv_at hl 2 rfl) ?_
              obtain ⟨k76, gk76, hk76⟩ := wGt (cy := cy) X S o41.1 o41.2.1
              refine va_getN (D := D) (ci := 14) (v := .int (S.I r39 4)) (C := RX10) (T := TX10) (N := 23) hx hb hts hi_X12_section_X10 hown hK hP k76 hk76 rfl 4 (by decide) (va_Nw.use rfl (hN (.fieldLinkNest RX12 209 "HobhouseModel$Gear" "width" "I" "HobhouseModel") (by decide +kernel))) (fun _ h9 => h9) rfl dX12_section_140 ?_
              refine lv_i2l hx hb dX12_section_143 rfl ?_
              refine lv_iload_n hx hb dX12_section_144 rfl (lv_at hl 6 rfl) ?_
              refine lv_i2l hx hb dX12_section_145 rfl ?_
              refine lv_lmul hx hb dX12_section_146 ?_
              refine lv_iload hx hb dX12_section_147 (lv_at hl 7 rfl) ?_
              refine lv_i2l hx hb dX12_section_149 rfl ?_
              refine lv_ldiv hx hb dX12_section_150 (nz_l (by omega)) ?_
              refine lv_lsub hx hb dX12_section_151 ?_
              refine lv_lstore (lv' := [(9, .long (((f_X12_root (((f_X10_across S r39) * (f_X10_across S r39)) + ((f_X10_across S r43) * (f_X10_across S r43)))) / (2 : Int64)) - ((((S.I r39 4).toInt64) * x3.toInt64) / x4.toInt64))), (7, .long ((f_X12_root (((f_X10_across S r39) * (f_X10_across S r39)) + ((f_X10_across S r43) * (f_X10_across S r43)))) / (2 : Int64))), (6, .ref r43), (5, .ref r39), (0, .ref o1), (1, .int x1), (2, .int x2), (3, .int x3), (4, .int x4)]) hx hb dX12_section_152 hl (by decide) rfl (fun ls hl => ?_)
              refine lv_aload_n hx hb dX12_section_154 rfl (lv_at hl 4 rfl) ?_
              refine lv_aload hx hb dX12_section_155 (lv_at hl 3 rfl) ?_
              obtain ⟨k77, gk77, hk77⟩ := wGt (cy := cy) X S o41.1 o41.2.1
              refine va_getN (D := D) (ci := 14) (v := .int (S.I r39 2)) (C := RX10) (T := TX10) (N := 23) hx hb hts hi_X12_section_X10 hown hK hP k77 hk77 rfl 2 (by decide) (va_Nw.use rfl (hN (.fieldLinkNest RX12 115 "HobhouseModel$Gear" "module" "I" "HobhouseModel") (by decide +kernel))) (fun _ h9 => h9) rfl dX12_section_157 ?_
              refine lv_i2l hx hb dX12_section_160 rfl ?_
              refine lv_lload hx hb dX12_section_161 (lv_at hl 0 rfl) ?_
              refine lv_lmul hx hb dX12_section_163 ?_
              refine lv_lload hx hb dX12_section_164 (lv_at hl 1 rfl) ?_
              refine lv_ldiv hx hb dX12_section_166 (d2 (y60 (sq2 (ac_i ((hW.at o41 List.not_mem_nil).to_10 o41.2.1)) (ac_i ((hW.at o45 List.not_mem_nil).to_10 o45.2.1))))) ?_
              refine lv_l2i hx hb dX12_section_167 rfl ?_
              have l64_2 : (2 : Int64).toInt = 2 := rfl
              have hFc := free_all hD hS hA
              obtain ⟨k78, gk78, hk78⟩ := wGt (cy := cy) X S h_o1.1 h_o1.2.1
              refine va_calli (va_runV (As := [.int (((((S.I r39 2).toInt64) * (((f_X12_root (((f_X10_across S r39) * (f_X10_across S r39)) + ((f_X10_across S r43) * (f_X10_across S r43)))) / (2 : Int64)) - ((((S.I r39 4).toInt64) * x3.toInt64) / x4.toInt64))) / ((f_X12_root (((f_X10_across S r39) * (f_X10_across S r39)) + ((f_X10_across S r43) * (f_X10_across S r43)))) / (2 : Int64))).toInt32)]) (rest := []) ⟨hx, hb, hml, hown, hts⟩ (c_X12_answer l (cy := cy) (X := X) (D := D) S _ o1 h_o1 (((((S.I r39 2).toInt64) * (((f_X12_root (((f_X10_across S r39) * (f_X10_across S r39)) + ((f_X10_across S r43) * (f_X10_across S r43)))) / (2 : Int64)) - ((((S.I r39 4).toInt64) * x3.toInt64) / x4.toInt64))) / ((f_X12_root (((f_X10_across S r39) * (f_X10_across S r39)) + ((f_X10_across S r43) * (f_X10_across S r43)))) / (2 : Int64))).toInt32) (hW)) (cwV 1 hts gX12_section_X12_answer rfl rfl rfl hd_X12_answer ⟨Nat.le_of_ble_eq_true rfl, Nat.le_of_ble_eq_true rfl⟩) (pV (va_recv hK hP (q := (RX12, TX12, 34)) (ci := 16) (q0 := k78) rfl hk78) hP hK hD hN) rfl rfl hl.1 rfl (lv_room (Nat.le_of_ble_eq_true rfl)) dX12_section_168 ⟨(Nat.zero_le _), (Nat.zero_le _)⟩) hS (fun q _ h => hFc q h) hFc (fun r79 u t H1 locs ht hvm hw hB hz1 hk1 hS => ?_)
              obtain ⟨c80, w81⟩ := hw
              obtain ⟨hP, hD⟩ := wd_post hFc ht hB
              generalize H1 = H at hP hS ⊢
              obtain ⟨S82, rfl⟩ : ∃ z, z = u := ⟨_, rfl⟩
              have t83 : stp [(12, 15)] [] [] S S82 := t0.tr w81 (by decide) (fun _ q => absurd q List.not_mem_nil)
              have xe84 : ext S S82 := w81.x
              refine W.widen (k := 0) (n := 0) (Nat.le_of_ble_eq_true rfl) (Nat.le_of_ble_eq_true rfl) ?_
              exact W.iret (v := r79) hx hb hr (fun t ht hW9 => ⟨⟨r79, S82, rfl, ⟨(by show (r79, S82) = f_X12_section S o1 x1 x2 x3 x4; unfold f_X12_section; rw [if_neg c6, if_neg c18, if_neg c23, if_neg c37, l1_eq c40.symm, l1_eq c44.symm, if_pos c65, if_pos c75, l2_eq c80.symm]), t83⟩, wd_end hP hK hD ht hW9.alike⟩, hS.F ht⟩) hS.2.2 dX12_section_171 hlocks
            · refine lv_aload_n hx hb dX12_section_130 rfl (lv_at hl 3 rfl) ?_
              refine lv_iconst (v := 3) hx hb dX12_section_131 (by decide) ?_
              have l32_3 : (3 : Int32).toInt = 3 := rfl
              have hFc := free_all hD hS hA
              obtain ⟨k85, gk85, hk85⟩ := wGt (cy := cy) X S h_o1.1 h_o1.2.1
              refine va_calli (va_runV (As := [.int (3 : Int32)]) (rest := []) ⟨hx, hb, hml, hown, hts⟩ (c_X12_fails l (cy := cy) (X := X) (D := D) S _ o1 h_o1 (3 : Int32) (hW)) (cwV 1 hts gX12_section_X12_fails rfl rfl rfl hd_X12_fails ⟨Nat.le_of_ble_eq_true rfl, Nat.le_of_ble_eq_true rfl⟩) (pV (va_recv hK hP (q := (RX12, TX12, 34)) (ci := 16) (q0 := k85) rfl hk85) hP hK hD hN) rfl rfl hl.1 rfl (lv_room (Nat.le_of_ble_eq_true rfl)) dX12_section_132 ⟨(Nat.zero_le _), (Nat.zero_le _)⟩) hS (fun q _ h => hFc q h) hFc (fun r86 u t H1 locs ht hvm hw hB hz1 hk1 hS => ?_)
              obtain ⟨c87, w88⟩ := hw
              obtain ⟨hP, hD⟩ := wd_post hFc ht hB
              generalize H1 = H at hP hS ⊢
              obtain ⟨S89, rfl⟩ : ∃ z, z = u := ⟨_, rfl⟩
              have t90 : stp [(12, 15)] [] [] S S89 := t0.tr w88 (by decide) (fun _ q => absurd q List.not_mem_nil)
              have xe91 : ext S S89 := w88.x
              refine W.widen (k := 0) (n := 0) (Nat.le_of_ble_eq_true rfl) (Nat.le_of_ble_eq_true rfl) ?_
              exact W.iret (v := r86) hx hb hr (fun t ht hW9 => ⟨⟨r86, S89, rfl, ⟨(by show (r86, S89) = f_X12_section S o1 x1 x2 x3 x4; unfold f_X12_section; rw [if_neg c6, if_neg c18, if_neg c23, if_neg c37, l1_eq c40.symm, l1_eq c44.symm, if_pos c65, if_neg c75, l2_eq c87.symm]), t90⟩, wd_end hP hK hD ht hW9.alike⟩, hS.F ht⟩) hS.2.2 dX12_section_135 hlocks
        · have c37i : (f_X12_in x3.toInt64 (0 : Int64) ((x4 - (1 : Int32)).toInt64)).toInt = 0 := eq_v rfl rfl c37
          refine lv_aload_n hx hb dX12_section_49 rfl (lv_at hl 0 rfl) ?_
          refine lv_iconst (v := 2) hx hb dX12_section_50 (by decide) ?_
          have l32_2 : (2 : Int32).toInt = 2 := rfl
          have hFc := free_all hD hS hA
          obtain ⟨k92, gk92, hk92⟩ := wGt (cy := cy) X S h_o1.1 h_o1.2.1
          refine va_calli (va_runV (As := [.int (2 : Int32)]) (rest := []) ⟨hx, hb, hml, hown, hts⟩ (c_X12_fails l (cy := cy) (X := X) (D := D) S _ o1 h_o1 (2 : Int32) (hW)) (cwV 1 hts gX12_section_X12_fails rfl rfl rfl hd_X12_fails ⟨Nat.le_of_ble_eq_true rfl, Nat.le_of_ble_eq_true rfl⟩) (pV (va_recv hK hP (q := (RX12, TX12, 34)) (ci := 16) (q0 := k92) rfl hk92) hP hK hD hN) rfl rfl hl.1 rfl (lv_room (Nat.le_of_ble_eq_true rfl)) dX12_section_51 ⟨(Nat.zero_le _), (Nat.zero_le _)⟩) hS (fun q _ h => hFc q h) hFc (fun r93 u t H1 locs ht hvm hw hB hz1 hk1 hS => ?_)
          obtain ⟨c94, w95⟩ := hw
          obtain ⟨hP, hD⟩ := wd_post hFc ht hB
          generalize H1 = H at hP hS ⊢
          obtain ⟨S96, rfl⟩ : ∃ z, z = u := ⟨_, rfl⟩
          have t97 : stp [(12, 15)] [] [] S S96 := t0.tr w95 (by decide) (fun _ q => absurd q List.not_mem_nil)
          have xe98 : ext S S96 := w95.x
          refine W.widen (k := 0) (n := 0) (Nat.le_of_ble_eq_true rfl) (Nat.le_of_ble_eq_true rfl) ?_
          exact W.iret (v := r93) hx hb hr (fun t ht hW9 => ⟨⟨r93, S96, rfl, ⟨(by show (r93, S96) = f_X12_section S o1 x1 x2 x3 x4; unfold f_X12_section; rw [if_neg c6, if_neg c18, if_neg c23, if_pos c37, l2_eq c94.symm]), t97⟩, wd_end hP hK hD ht hW9.alike⟩, hS.F ht⟩) hS.2.2 dX12_section_54 hlocks
    · have c18i : (f_X12_isGear S o1 x2).toInt = 0 := eq_v rfl rfl c18
      refine lv_aload_n hx hb dX12_section_16 rfl (lv_at hl 0 rfl) ?_
      refine lv_iconst (v := 1) hx hb dX12_section_17 (by decide) ?_
      have l32_1 : (1 : Int32).toInt = 1 := rfl
      have hFc := free_all hD hS hA
      obtain ⟨k99, gk99, hk99⟩ := wGt (cy := cy) X S h_o1.1 h_o1.2.1
      refine va_calli (va_runV (As := [.int (1 : Int32)]) (rest := []) ⟨hx, hb, hml, hown, hts⟩ (c_X12_fails l (cy := cy) (X := X) (D := D) S _ o1 h_o1 (1 : Int32) (hW)) (cwV 1 hts gX12_section_X12_fails rfl rfl rfl hd_X12_fails ⟨Nat.le_of_ble_eq_true rfl, Nat.le_of_ble_eq_true rfl⟩) (pV (va_recv hK hP (q := (RX12, TX12, 34)) (ci := 16) (q0 := k99) rfl hk99) hP hK hD hN) rfl rfl hl.1 rfl (lv_room (Nat.le_of_ble_eq_true rfl)) dX12_section_18 ⟨(Nat.zero_le _), (Nat.zero_le _)⟩) hS (fun q _ h => hFc q h) hFc (fun r100 u t H1 locs ht hvm hw hB hz1 hk1 hS => ?_)
      obtain ⟨c101, w102⟩ := hw
      obtain ⟨hP, hD⟩ := wd_post hFc ht hB
      generalize H1 = H at hP hS ⊢
      obtain ⟨S103, rfl⟩ : ∃ z, z = u := ⟨_, rfl⟩
      have t104 : stp [(12, 15)] [] [] S S103 := t0.tr w102 (by decide) (fun _ q => absurd q List.not_mem_nil)
      have xe105 : ext S S103 := w102.x
      refine W.widen (k := 0) (n := 0) (Nat.le_of_ble_eq_true rfl) (Nat.le_of_ble_eq_true rfl) ?_
      exact W.iret (v := r100) hx hb hr (fun t ht hW9 => ⟨⟨r100, S103, rfl, ⟨(by show (r100, S103) = f_X12_section S o1 x1 x2 x3 x4; unfold f_X12_section; rw [if_neg c6, if_pos c18, l2_eq c101.symm]), t104⟩, wd_end hP hK hD ht hW9.alike⟩, hS.F ht⟩) hS.2.2 dX12_section_21 hlocks
theorem hd_X12_isBounds : yX12_isBounds.cls = RX12 ∧ yX12_isBounds.cls ≠ "java/lang/invoke/MethodHandle" ∧ yX12_isBounds.cls ≠ "java/lang/invoke/VarHandle" ∧ (parseMethodDescriptor yX12_isBounds.desc).map (fun d => d.parameters.length) = some 4 := by decide +kernel
set_option maxHeartbeats 4000000 in
set_option maxRecDepth 100000 in
theorem c_X12_isBounds (l : Launch) {D : va_G} {cy : Nat → ClassId} {X : va_W} (S : wPS) (sz : Nat) (o1 : Nat) (h_o1 : isA S o1 12) (x1 : Int32) (x2 : Int32) (x3 : Int32) (x4 : Int32)  : Met l yX12_isBounds wsX12_isBounds ({ frames := 1, cells := 0, slots := 0, locals := 25 }) (va_Pc [.ref o1, .int x1, .int x2, .int x3, .int x4] (fun U => U.heap.size = sz ∧ WD D cy X (fun _ => True) S U ∧ NW U)) (va_Qi (fun r (_ : Unit) => narrow .boolean (.int r) = .int r ∧ (r.toInt = 0 ∨ (((1 ≤ x1.toInt ∧ x1.toInt ≤ 9999) ∧ 1 ≤ x2.toInt ∧ x2.toInt ≤ 9999) ∧ 6 ≤ x3.toInt ∧ x3.toInt ≤ x4.toInt ∧ x4.toInt ≤ 200))) (fun _ t => WD D cy X (va_A (X ++ PL cy S) sz) S t) (va_A (X ++ PL cy S) sz)) 0 0 (va_A (X ++ PL cy S) sz) := by
  refine Met.ofW (cc := cX12_isBounds) (maxL := 5) (ret := (some .boolean)) (by decide) rfl ?_
  intro p e s m args below meth c s₁ B hml hv
  obtain ⟨rfl, hsz, ⟨hP, hK, hD0⟩, hN⟩ := hv
  have hx := B.exec
  have hb := B.bytes
  have hr := B.returns
  have hts := atoms_spec (ws := wsX12_isBounds) B.pre
  have hown : s.vm.findClass RX12 = some m.cls := findClass_of_methodNamed (x := yX12_isBounds) B.named
  have hlocks := B.notSynchronized
  subst hsz
  have hD := hD0.self (sz := s.heap.size)
  generalize hAe : va_A (X ++ PL cy S) s.heap.size = A at hD ⊢
  have hA : ∀ q : Nat, s.heap.size ≤ q → A q := fun q h => by rw [← hAe]; exact Or.inr h
  have hS : va_S A s.heap s.heap [] := va_S.rf
  have hl := lv_entry ([.ref o1, .int x1, .int x2, .int x3, .int x4]) (n := 5) (Nat.le_of_ble_eq_true rfl)
  rw [lg_entry_eq]
  generalize (lg_sl ([.ref o1, .int x1, .int x2, .int x3, .int x4]) ++ List.replicate (5 - (lg_sl ([.ref o1, .int x1, .int x2, .int x3, .int x4])).length) Slot.unset).toArray = ls at hl ⊢
  have hl : lv_has ls 5 [(0, .ref o1), (1, .int x1), (2, .int x2), (3, .int x3), (4, .int x4)] := hl
  refine lv_iload_n hx hb dX12_isBounds_0 rfl (lv_at hl 1 rfl) ?_
  refine lv_i2l hx hb dX12_isBounds_1 rfl ?_
  refine lv_lconst (v := 1) hx hb dX12_isBounds_2 (by decide) ?_
  refine lv_ldc2 (own := RX12) (v := 9999) hx hb hown (hts (.constantLong RX12 249 (9999)) (by decide +kernel)) dX12_isBounds_3 ?_
  have hFc := free_all hD hS hA
  refine va_calli (va_runS (As := [.long x1.toInt64, .long (1 : Int64), .long (9999 : Int64)]) (rest := []) ⟨hx, hb, hml, hown, hts⟩ (c_X12_in l (cy := cy) (X := X) (D := D) S _ x1.toInt64 (1 : Int64) (9999 : Int64)) (cwS 3 hts gX12_isBounds_X12_in rfl rfl rfl hd_X12_in ⟨Nat.le_of_ble_eq_true rfl, Nat.le_of_ble_eq_true rfl⟩) (pS hP hK hD hN) rfl rfl hl.1 rfl (lv_room (Nat.le_of_ble_eq_true rfl)) dX12_isBounds_6 ⟨(Nat.zero_le _), (Nat.zero_le _)⟩) hS (fun q _ h => hFc q h) hFc (fun r1 u t H1 locs ht hvm hw hB hz1 hk1 hS => ?_)
  have c2 := hw
  obtain ⟨hP, hD⟩ := wd_post hFc ht hB
  generalize H1 = H at hP hS ⊢
  obtain rfl : f_X12_in x1.toInt64 (1 : Int64) (9999 : Int64) = r1 := c2.symm
  have i3 := i64_i x1
  have l64_1 : (1 : Int64).toInt = 1 := rfl
  have l64_9999 : (9999 : Int64).toInt = 9999 := rfl
  have i4 := in_rng x1.toInt64 (1 : Int64) (9999 : Int64)
  refine lv_if_eq (tgt := 50) hx hb dX12_isBounds_9 (by decide) (fun c5 => ?_) (fun c5 => ?_)
  · have c5i : (f_X12_in x1.toInt64 (1 : Int64) (9999 : Int64)).toInt = 0 := eq_v rfl rfl c5
    refine lv_iconst (v := 0) hx hb dX12_isBounds_50 (by decide) ?_
    have l0 : (0 : Int32).toInt = 0 := rfl
    have l1 : (1 : Int32).toInt = 1 := rfl
    have l0 : (0 : Int32).toInt = 0 := rfl
    have l1 : (1 : Int32).toInt = 1 := rfl
    refine W.widen (k := 0) (n := 0) (Nat.le_of_ble_eq_true rfl) (Nat.le_of_ble_eq_true rfl) ?_
    exact W.zret (v := (0 : Int32)) hx hb hr (by rfl) (fun t ht hW9 => ⟨⟨(0 : Int32), (), rfl, ⟨(by rfl), (by omega)⟩, wd_end hP hK hD ht hW9.alike⟩, hS.F ht⟩) hS.2.2 dX12_isBounds_51 hlocks
  · have c5i : ¬ (f_X12_in x1.toInt64 (1 : Int64) (9999 : Int64)).toInt = 0 := neq_v rfl rfl c5
    refine lv_iload_n hx hb dX12_isBounds_12 rfl (lv_at hl 2 rfl) ?_
    refine lv_i2l hx hb dX12_isBounds_13 rfl ?_
    refine lv_lconst (v := 1) hx hb dX12_isBounds_14 (by decide) ?_
    refine lv_ldc2 (own := RX12) (v := 9999) hx hb hown (hts (.constantLong RX12 249 (9999)) (by decide +kernel)) dX12_isBounds_15 ?_
    have hFc := free_all hD hS hA
    refine va_calli (va_runS (As := [.long x2.toInt64, .long (1 : Int64), .long (9999 : Int64)]) (rest := []) ⟨hx, hb, hml, hown, hts⟩ (c_X12_in l (cy := cy) (X := X) (D := D) S _ x2.toInt64 (1 : Int64) (9999 : Int64)) (cwS 3 hts gX12_isBounds_X12_in rfl rfl rfl hd_X12_in ⟨Nat.le_of_ble_eq_true rfl, Nat.le_of_ble_eq_true rfl⟩) (pS hP hK hD hN) rfl rfl hl.1 rfl (lv_room (Nat.le_of_ble_eq_true rfl)) dX12_isBounds_18 ⟨(Nat.zero_le _), (Nat.zero_le _)⟩) hS (fun q _ h => hFc q h) hFc (fun r6 u t H1 locs ht hvm hw hB hz1 hk1 hS => ?_)
    have c7 := hw
    obtain ⟨hP, hD⟩ := wd_post hFc ht hB
    generalize H1 = H at hP hS ⊢
    obtain rfl : f_X12_in x2.toInt64 (1 : Int64) (9999 : Int64) = r6 := c7.symm
    have i8 := i64_i x2
    have i9 := in_rng x2.toInt64 (1 : Int64) (9999 : Int64)
    refine lv_if_eq (tgt := 50) hx hb dX12_isBounds_21 (by decide) (fun c10 => ?_) (fun c10 => ?_)
    · have c10i : (f_X12_in x2.toInt64 (1 : Int64) (9999 : Int64)).toInt = 0 := eq_v rfl rfl c10
      refine lv_iconst (v := 0) hx hb dX12_isBounds_50 (by decide) ?_
      have l0 : (0 : Int32).toInt = 0 := rfl
      have l1 : (1 : Int32).toInt = 1 := rfl
      have l0 : (0 : Int32).toInt = 0 := rfl
      have l1 : (1 : Int32).toInt = 1 := rfl
      refine W.widen (k := 0) (n := 0) (Nat.le_of_ble_eq_true rfl) (Nat.le_of_ble_eq_true rfl) ?_
      exact W.zret (v := (0 : Int32)) hx hb hr (by rfl) (fun t ht hW9 => ⟨⟨(0 : Int32), (), rfl, ⟨(by rfl), (by omega)⟩, wd_end hP hK hD ht hW9.alike⟩, hS.F ht⟩) hS.2.2 dX12_isBounds_51 hlocks
    · have c10i : ¬ (f_X12_in x2.toInt64 (1 : Int64) (9999 : Int64)).toInt = 0 := neq_v rfl rfl c10
      refine lv_iload_n hx hb dX12_isBounds_24 rfl (lv_at hl 3 rfl) ?_
      refine lv_i2l hx hb dX12_isBounds_25 rfl ?_
      refine lv_ldc2 (own := RX12) (v := 6) hx hb hown (hts (.constantLong RX12 129 (6)) (by decide +kernel)) dX12_isBounds_26 ?_
      refine lv_iload hx hb dX12_isBounds_29 (lv_at hl 4 rfl) ?_
      refine lv_i2l hx hb dX12_isBounds_31 rfl ?_
      have hFc := free_all hD hS hA
      refine va_calli (va_runS (As := [.long x3.toInt64, .long (6 : Int64), .long x4.toInt64]) (rest := []) ⟨hx, hb, hml, hown, hts⟩ (c_X12_in l (cy := cy) (X := X) (D := D) S _ x3.toInt64 (6 : Int64) x4.toInt64) (cwS 3 hts gX12_isBounds_X12_in rfl rfl rfl hd_X12_in ⟨Nat.le_of_ble_eq_true rfl, Nat.le_of_ble_eq_true rfl⟩) (pS hP hK hD hN) rfl rfl hl.1 rfl (lv_room (Nat.le_of_ble_eq_true rfl)) dX12_isBounds_32 ⟨(Nat.zero_le _), (Nat.zero_le _)⟩) hS (fun q _ h => hFc q h) hFc (fun r11 u t H1 locs ht hvm hw hB hz1 hk1 hS => ?_)
      have c12 := hw
      obtain ⟨hP, hD⟩ := wd_post hFc ht hB
      generalize H1 = H at hP hS ⊢
      obtain rfl : f_X12_in x3.toInt64 (6 : Int64) x4.toInt64 = r11 := c12.symm
      have i13 := i64_i x3
      have l64_6 : (6 : Int64).toInt = 6 := rfl
      have i14 := i64_i x4
      have i15 := in_rng x3.toInt64 (6 : Int64) x4.toInt64
      refine lv_if_eq (tgt := 50) hx hb dX12_isBounds_35 (by decide) (fun c16 => ?_) (fun c16 => ?_)
      · have c16i : (f_X12_in x3.toInt64 (6 : Int64) x4.toInt64).toInt = 0 := eq_v rfl rfl c16
        refine lv_iconst (v := 0) hx hb dX12_isBounds_50 (by decide) ?_
        have l0 : (0 : Int32).toInt = 0 := rfl
        have l1 : (1 : Int32).toInt = 1 := rfl
        have l0 : (0 : Int32).toInt = 0 := rfl
        have l1 : (1 : Int32).toInt = 1 := rfl
        refine W.widen (k := 0) (n := 0) (Nat.le_of_ble_eq_true rfl) (Nat.le_of_ble_eq_true rfl) ?_
        exact W.zret (v := (0 : Int32)) hx hb hr (by rfl) (fun t ht hW9 => ⟨⟨(0 : Int32), (), rfl, ⟨(by rfl), (by omega)⟩, wd_end hP hK hD ht hW9.alike⟩, hS.F ht⟩) hS.2.2 dX12_isBounds_51 hlocks
      · have c16i : ¬ (f_X12_in x3.toInt64 (6 : Int64) x4.toInt64).toInt = 0 := neq_v rfl rfl c16
        refine lv_iload hx hb dX12_isBounds_38 (lv_at hl 4 rfl) ?_
        refine lv_sipush (v := 200) hx hb dX12_isBounds_40 (by decide +kernel) ?_
        refine lv_icmp_gt (tgt := 50) hx hb dX12_isBounds_43 (by decide) (fun c17 => ?_) (fun c17 => ?_)
        · have c17i : 200 < x4.toInt := lt_v rfl rfl c17
          refine lv_iconst (v := 0) hx hb dX12_isBounds_50 (by decide) ?_
          have l0 : (0 : Int32).toInt = 0 := rfl
          have l1 : (1 : Int32).toInt = 1 := rfl
          have l0 : (0 : Int32).toInt = 0 := rfl
          have l1 : (1 : Int32).toInt = 1 := rfl
          refine W.widen (k := 0) (n := 0) (Nat.le_of_ble_eq_true rfl) (Nat.le_of_ble_eq_true rfl) ?_
          exact W.zret (v := (0 : Int32)) hx hb hr (by rfl) (fun t ht hW9 => ⟨⟨(0 : Int32), (), rfl, ⟨(by rfl), (by omega)⟩, wd_end hP hK hD ht hW9.alike⟩, hS.F ht⟩) hS.2.2 dX12_isBounds_51 hlocks
        · have c17i : x4.toInt ≤ 200 := nlt_v rfl rfl c17
          refine lv_iconst (v := 1) hx hb dX12_isBounds_46 (by decide) ?_
          refine lv_goto (tgt := 51) hx hb dX12_isBounds_47 (by decide) ?_
          have l0 : (0 : Int32).toInt = 0 := rfl
          have l1 : (1 : Int32).toInt = 1 := rfl
          have l0 : (0 : Int32).toInt = 0 := rfl
          have l1 : (1 : Int32).toInt = 1 := rfl
          refine W.widen (k := 0) (n := 0) (Nat.le_of_ble_eq_true rfl) (Nat.le_of_ble_eq_true rfl) ?_
          exact W.zret (v := (1 : Int32)) hx hb hr (by rfl) (fun t ht hW9 => ⟨⟨(1 : Int32), (), rfl, ⟨(by rfl), (by omega)⟩, wd_end hP hK hD ht hW9.alike⟩, hS.F ht⟩) hS.2.2 dX12_isBounds_51 hlocks
theorem hi_X12_isBetter_X12 : ∀ w ∈ u_ws RX12 TX12 34, w ∈ wsX12_isBetter := by decide +kernel
theorem hd_X12_isBetter : yX12_isBetter.cls = RX12 ∧ yX12_isBetter.cls ≠ "java/lang/invoke/MethodHandle" ∧ yX12_isBetter.cls ≠ "java/lang/invoke/VarHandle" ∧ (parseMethodDescriptor yX12_isBetter.desc).map (fun d => d.parameters.length) = some 3 := by decide +kernel
set_option maxHeartbeats 4000000 in
set_option maxRecDepth 100000 in
theorem c_X12_isBetter (l : Launch) {D : va_G} {cy : Nat → ClassId} {X : va_W} (S : wPS) (sz : Nat) (o1 : Nat) (h_o1 : isA S o1 12) (x1 : Int32) (x2 : Int32) (x3 : Int64) (hW : wtB S []) (h1 : 1 ≤ x1.toInt ∧ x1.toInt ≤ 200) (h2 : 1 ≤ x2.toInt ∧ x2.toInt ≤ 200) (h3 : 1 ≤ (S.I o1 20).toInt) : Met l yX12_isBetter wsX12_isBetter ({ frames := 17, cells := 0, slots := 0, locals := 357 }) (va_Pc [.ref o1, .int x1, .int x2, .long x3] (fun U => U.heap.size = sz ∧ WD D cy X (fun _ => True) S U ∧ NW U)) (va_Qi (fun r (_ : Unit) => narrow .boolean (.int r) = .int r) (fun _ t => WD D cy X (va_A (X ++ PL cy S) sz) S t) (va_A (X ++ PL cy S) sz)) 0 0 (va_A (X ++ PL cy S) sz) := by
  refine Met.ofW (cc := cX12_isBetter) (maxL := 11) (ret := (some .boolean)) (by decide) rfl ?_
  intro p e s m args below meth c s₁ B hml hv
  obtain ⟨rfl, hsz, ⟨hP, hK, hD0⟩, hN⟩ := hv
  have hx := B.exec
  have hb := B.bytes
  have hr := B.returns
  have hts := atoms_spec (ws := wsX12_isBetter) B.pre
  have hown : s.vm.findClass RX12 = some m.cls := findClass_of_methodNamed (x := yX12_isBetter) B.named
  have hlocks := B.notSynchronized
  subst hsz
  have hD := hD0.self (sz := s.heap.size)
  generalize hAe : va_A (X ++ PL cy S) s.heap.size = A at hD ⊢
  have hA : ∀ q : Nat, s.heap.size ≤ q → A q := fun q h => by rw [← hAe]; exact Or.inr h
  have hS : va_S A s.heap s.heap [] := va_S.rf
  have hl := lv_entry ([.ref o1, .int x1, .int x2, .long x3]) (n := 11) (Nat.le_of_ble_eq_true rfl)
  rw [lg_entry_eq]
  generalize (lg_sl ([.ref o1, .int x1, .int x2, .long x3]) ++ List.replicate (11 - (lg_sl ([.ref o1, .int x1, .int x2, .long x3])).length) Slot.unset).toArray = ls at hl ⊢
  have hl : lv_has ls 11 [(0, .ref o1), (1, .int x1), (2, .int x2), (3, .long x3)] := hl
  have r20 := ((hW.at h_o1 List.not_mem_nil).to_12 h_o1.2.1).R20
  have r21 := ((hW.at h_o1 List.not_mem_nil).to_12 h_o1.2.1).R21
  refine lv_lload_n hx hb dX12_isBetter_0 rfl (lv_at hl 3 rfl) ?_
  refine lv_aload_n hx hb dX12_isBetter_1 rfl (lv_at hl 0 rfl) ?_
  obtain ⟨k1, gk1, hk1⟩ := wGt (cy := cy) X S h_o1.1 h_o1.2.1
  have i2 := ((hW.at h_o1 List.not_mem_nil).to_12 h_o1.2.1).R21
  refine va_get (D := D) (ci := 16) (v := .int (S.I o1 21)) (C := RX12) (T := TX12) (N := 34) hx hb hts hi_X12_isBetter_X12 hown hK hP k1 hk1 rfl 21 (by decide) (hts (.fieldLink RX12 251 "HobhouseModel" "bestB" "I") (by decide +kernel)) (fun _ h9 => h9) rfl dX12_isBetter_2 ?_
  refine lv_i2l hx hb dX12_isBetter_5 rfl ?_
  refine lv_lmul hx hb dX12_isBetter_6 ?_
  refine lv_lstore (lv' := [(5, .long (x3 * ((S.I o1 21).toInt64))), (0, .ref o1), (1, .int x1), (2, .int x2), (3, .long x3)]) hx hb dX12_isBetter_7 hl (by decide) rfl (fun ls hl => ?_)
  refine lv_aload_n hx hb dX12_isBetter_9 rfl (lv_at hl 1 rfl) ?_
  obtain ⟨k3, gk3, hk3⟩ := wGt (cy := cy) X S h_o1.1 h_o1.2.1
  refine va_get (D := D) (ci := 16) (v := .long (S.J o1 27)) (C := RX12) (T := TX12) (N := 34) hx hb hts hi_X12_isBetter_X12 hown hK hP k3 hk3 rfl 27 (by decide) (hts (.fieldLink RX12 254 "HobhouseModel" "bestOff" "J") (by decide +kernel)) (fun _ h9 => h9) rfl dX12_isBetter_10 ?_
  refine lv_iload_n hx hb dX12_isBetter_13 rfl (lv_at hl 3 rfl) ?_
  refine lv_i2l hx hb dX12_isBetter_14 rfl ?_
  refine lv_lmul hx hb dX12_isBetter_15 ?_
  refine lv_lstore (lv' := [(7, .long ((S.J o1 27) * x2.toInt64)), (5, .long (x3 * ((S.I o1 21).toInt64))), (0, .ref o1), (1, .int x1), (2, .int x2), (3, .long x3)]) hx hb dX12_isBetter_16 hl (by decide) rfl (fun ls hl => ?_)
  refine lv_lload hx hb dX12_isBetter_18 (lv_at hl 1 rfl) ?_
  refine lv_lload hx hb dX12_isBetter_20 (lv_at hl 0 rfl) ?_
  refine W.lcmp hx hb dX12_isBetter_22 ?_
  refine lv_if_eq (tgt := 40) hx hb dX12_isBetter_23 (by decide) (fun c4 => ?_) (fun c4 => ?_)
  · refine lv_iload_n hx hb dX12_isBetter_40 rfl (lv_at hl 3 rfl) ?_
    refine lv_iload_n hx hb dX12_isBetter_41 rfl (lv_at hl 4 rfl) ?_
    have hFc := free_all hD hS hA
    refine va_calli (va_runS (As := [.int x1, .int x2]) (rest := []) ⟨hx, hb, hml, hown, hts⟩ (c_X12_divisor_e8 l (cy := cy) (X := X) (D := D) S _ x1 x2 (by omega) (by omega) (by omega) (by omega)) (cwS 2 hts gX12_isBetter_X12_divisor rfl rfl rfl hd_X12_divisor ⟨Nat.le_of_ble_eq_true rfl, Nat.le_of_ble_eq_true rfl⟩) (pS hP hK hD hN) rfl rfl hl.1 rfl (lv_room (Nat.le_of_ble_eq_true rfl)) dX12_isBetter_42 ⟨(Nat.zero_le _), (Nat.zero_le _)⟩) hS (fun q _ h => hFc q h) hFc (fun r5 u t H1 locs ht hvm hw hB hz1 hk1 hS => ?_)
    obtain ⟨c6, y7⟩ := hw
    obtain ⟨hP, hD⟩ := wd_post hFc ht hB
    generalize H1 = H at hP hS ⊢
    obtain rfl : f_X12_divisor_e8 x1 x2 = r5 := c6.symm
    refine lv_iconst (v := 1) hx hb dX12_isBetter_45 (by decide) ?_
    refine lv_icmp_ne (tgt := 53) hx hb dX12_isBetter_46 (by decide) (fun c8 => ?_) (fun c8 => ?_)
    · have c8i : ¬ (f_X12_divisor_e8 x1 x2).toInt = 1 := neq_v rfl rfl c8
      refine lv_iconst (v := 0) hx hb dX12_isBetter_53 (by decide) ?_
      refine lv_istore (lv' := [(9, .int (0 : Int32)), (7, .long ((S.J o1 27) * x2.toInt64)), (5, .long (x3 * ((S.I o1 21).toInt64))), (0, .ref o1), (1, .int x1), (2, .int x2), (3, .long x3)]) hx hb dX12_isBetter_54 hl (by decide) rfl (fun ls hl => ?_)
      refine lv_aload_n hx hb dX12_isBetter_56 rfl (lv_at hl 3 rfl) ?_
      obtain ⟨k9, gk9, hk9⟩ := wGt (cy := cy) X S h_o1.1 h_o1.2.1
      have i10 := ((hW.at h_o1 List.not_mem_nil).to_12 h_o1.2.1).R20
      refine va_get (D := D) (ci := 16) (v := .int (S.I o1 20)) (C := RX12) (T := TX12) (N := 34) hx hb hts hi_X12_isBetter_X12 hown hK hP k9 hk9 rfl 20 (by decide) (hts (.fieldLink RX12 258 "HobhouseModel" "bestA" "I") (by decide +kernel)) (fun _ h9 => h9) rfl dX12_isBetter_57 ?_
      refine lv_aload_n hx hb dX12_isBetter_60 rfl (lv_at hl 3 rfl) ?_
      obtain ⟨k11, gk11, hk11⟩ := wGt (cy := cy) X S h_o1.1 h_o1.2.1
      refine va_get (D := D) (ci := 16) (v := .int (S.I o1 21)) (C := RX12) (T := TX12) (N := 34) hx hb hts hi_X12_isBetter_X12 hown hK hP k11 hk11 rfl 21 (by decide) (hts (.fieldLink RX12 251 "HobhouseModel" "bestB" "I") (by decide +kernel)) (fun _ h9 => h9) rfl dX12_isBetter_61 ?_
      have hFc := free_all hD hS hA
      refine va_calli (va_runS (As := [.int (S.I o1 20), .int (S.I o1 21)]) (rest := []) ⟨hx, hb, hml, hown, hts⟩ (c_X12_divisor_e8 l (cy := cy) (X := X) (D := D) S _ (S.I o1 20) (S.I o1 21) (by omega) (by omega) (by omega) (by omega)) (cwS 2 hts gX12_isBetter_X12_divisor rfl rfl rfl hd_X12_divisor ⟨Nat.le_of_ble_eq_true rfl, Nat.le_of_ble_eq_true rfl⟩) (pS hP hK hD hN) rfl rfl hl.1 rfl (lv_room (Nat.le_of_ble_eq_true rfl)) dX12_isBetter_64 ⟨(Nat.zero_le _), (Nat.zero_le _)⟩) hS (fun q _ h => hFc q h) hFc (fun r12 u t H1 locs ht hvm hw hB hz1 hk1 hS => ?_)
      obtain ⟨c13, y14⟩ := hw
      obtain ⟨hP, hD⟩ := wd_post hFc ht hB
      generalize H1 = H at hP hS ⊢
      obtain rfl : f_X12_divisor_e8 (S.I o1 20) (S.I o1 21) = r12 := c13.symm
      refine lv_iconst (v := 1) hx hb dX12_isBetter_67 (by decide) ?_
      refine lv_icmp_ne (tgt := 75) hx hb dX12_isBetter_68 (by decide) (fun c15 => ?_) (fun c15 => ?_)
      · have c15i : ¬ (f_X12_divisor_e8 (S.I o1 20) (S.I o1 21)).toInt = 1 := neq_v rfl rfl c15
        refine lv_iconst (v := 0) hx hb dX12_isBetter_75 (by decide) ?_
        refine lv_istore (lv' := [(10, .int (0 : Int32)), (9, .int (0 : Int32)), (7, .long ((S.J o1 27) * x2.toInt64)), (5, .long (x3 * ((S.I o1 21).toInt64))), (0, .ref o1), (1, .int x1), (2, .int x2), (3, .long x3)]) hx hb dX12_isBetter_76 hl (by decide) rfl (fun ls hl => ?_)
        refine lv_iload hx hb dX12_isBetter_78 (lv_at hl 1 rfl) ?_
        refine lv_iload hx hb dX12_isBetter_80 (lv_at hl 0 rfl) ?_
        refine lv_icmp_eq (tgt := 88) hx hb dX12_isBetter_82 (by decide) (fun c16 => ?_) (fun c16 => ?_)
        · refine lv_iload_n hx hb dX12_isBetter_88 rfl (lv_at hl 5 rfl) ?_
          refine lv_iload_n hx hb dX12_isBetter_89 rfl (lv_at hl 6 rfl) ?_
          refine lv_iadd hx hb dX12_isBetter_90 ?_
          refine lv_aload_n hx hb dX12_isBetter_91 rfl (lv_at hl 4 rfl) ?_
          obtain ⟨k17, gk17, hk17⟩ := wGt (cy := cy) X S h_o1.1 h_o1.2.1
          refine va_get (D := D) (ci := 16) (v := .int (S.I o1 20)) (C := RX12) (T := TX12) (N := 34) hx hb hts hi_X12_isBetter_X12 hown hK hP k17 hk17 rfl 20 (by decide) (hts (.fieldLink RX12 258 "HobhouseModel" "bestA" "I") (by decide +kernel)) (fun _ h9 => h9) rfl dX12_isBetter_92 ?_
          refine lv_aload_n hx hb dX12_isBetter_95 rfl (lv_at hl 4 rfl) ?_
          obtain ⟨k18, gk18, hk18⟩ := wGt (cy := cy) X S h_o1.1 h_o1.2.1
          refine va_get (D := D) (ci := 16) (v := .int (S.I o1 21)) (C := RX12) (T := TX12) (N := 34) hx hb hts hi_X12_isBetter_X12 hown hK hP k18 hk18 rfl 21 (by decide) (hts (.fieldLink RX12 251 "HobhouseModel" "bestB" "I") (by decide +kernel)) (fun _ h9 => h9) rfl dX12_isBetter_96 ?_
          refine lv_iadd hx hb dX12_isBetter_99 ?_
          refine lv_icmp_eq (tgt := 126) hx hb dX12_isBetter_100 (by decide) (fun c19 => ?_) (fun c19 => ?_)
          · have c19i : (x1 + x2).toInt = ((S.I o1 20) + (S.I o1 21)).toInt := eq_v rfl rfl c19
            refine lv_iload_n hx hb dX12_isBetter_126 rfl (lv_at hl 5 rfl) ?_
            refine lv_aload_n hx hb dX12_isBetter_127 rfl (lv_at hl 4 rfl) ?_
            obtain ⟨k20, gk20, hk20⟩ := wGt (cy := cy) X S h_o1.1 h_o1.2.1
            refine va_get (D := D) (ci := 16) (v := .int (S.I o1 20)) (C := RX12) (T := TX12) (N := 34) hx hb hts hi_X12_isBetter_X12 hown hK hP k20 hk20 rfl 20 (by decide) (hts (.fieldLink RX12 258 "HobhouseModel" "bestA" "I") (by decide +kernel)) (fun _ h9 => h9) rfl dX12_isBetter_128 ?_
            refine lv_icmp_ge (tgt := 138) hx hb dX12_isBetter_131 (by decide) (fun c21 => ?_) (fun c21 => ?_)
            · have c21i : (S.I o1 20).toInt ≤ x1.toInt := le_v rfl rfl c21
              refine lv_iconst (v := 0) hx hb dX12_isBetter_138 (by decide) ?_
              refine W.widen (k := 0) (n := 0) (Nat.le_of_ble_eq_true rfl) (Nat.le_of_ble_eq_true rfl) ?_
              exact W.zret (v := (0 : Int32)) hx hb hr (by rfl) (fun t ht hW9 => ⟨⟨(0 : Int32), (), rfl, (by rfl), wd_end hP hK hD ht hW9.alike⟩, hS.F ht⟩) hS.2.2 dX12_isBetter_139 hlocks
            · have c21i : x1.toInt < (S.I o1 20).toInt := nle_v rfl rfl c21
              refine lv_iconst (v := 1) hx hb dX12_isBetter_134 (by decide) ?_
              refine lv_goto (tgt := 139) hx hb dX12_isBetter_135 (by decide) ?_
              refine W.widen (k := 0) (n := 0) (Nat.le_of_ble_eq_true rfl) (Nat.le_of_ble_eq_true rfl) ?_
              exact W.zret (v := (1 : Int32)) hx hb hr (by rfl) (fun t ht hW9 => ⟨⟨(1 : Int32), (), rfl, (by rfl), wd_end hP hK hD ht hW9.alike⟩, hS.F ht⟩) hS.2.2 dX12_isBetter_139 hlocks
          · have c19i : ¬ (x1 + x2).toInt = ((S.I o1 20) + (S.I o1 21)).toInt := neq_v rfl rfl c19
            refine lv_iload_n hx hb dX12_isBetter_103 rfl (lv_at hl 5 rfl) ?_
            refine lv_iload_n hx hb dX12_isBetter_104 rfl (lv_at hl 6 rfl) ?_
            refine lv_iadd hx hb dX12_isBetter_105 ?_
            refine lv_aload_n hx hb dX12_isBetter_106 rfl (lv_at hl 4 rfl) ?_
            obtain ⟨k22, gk22, hk22⟩ := wGt (cy := cy) X S h_o1.1 h_o1.2.1
            refine va_get (D := D) (ci := 16) (v := .int (S.I o1 20)) (C := RX12) (T := TX12) (N := 34) hx hb hts hi_X12_isBetter_X12 hown hK hP k22 hk22 rfl 20 (by decide) (hts (.fieldLink RX12 258 "HobhouseModel" "bestA" "I") (by decide +kernel)) (fun _ h9 => h9) rfl dX12_isBetter_107 ?_
            refine lv_aload_n hx hb dX12_isBetter_110 rfl (lv_at hl 4 rfl) ?_
            obtain ⟨k23, gk23, hk23⟩ := wGt (cy := cy) X S h_o1.1 h_o1.2.1
            refine va_get (D := D) (ci := 16) (v := .int (S.I o1 21)) (C := RX12) (T := TX12) (N := 34) hx hb hts hi_X12_isBetter_X12 hown hK hP k23 hk23 rfl 21 (by decide) (hts (.fieldLink RX12 251 "HobhouseModel" "bestB" "I") (by decide +kernel)) (fun _ h9 => h9) rfl dX12_isBetter_111 ?_
            refine lv_iadd hx hb dX12_isBetter_114 ?_
            refine lv_icmp_ge (tgt := 122) hx hb dX12_isBetter_115 (by decide) (fun c24 => ?_) (fun c24 => ?_)
            · have c24i : ((S.I o1 20) + (S.I o1 21)).toInt ≤ (x1 + x2).toInt := le_v rfl rfl c24
              refine lv_iconst (v := 0) hx hb dX12_isBetter_122 (by decide) ?_
              refine lv_goto (tgt := 139) hx hb dX12_isBetter_123 (by decide) ?_
              refine W.widen (k := 0) (n := 0) (Nat.le_of_ble_eq_true rfl) (Nat.le_of_ble_eq_true rfl) ?_
              exact W.zret (v := (0 : Int32)) hx hb hr (by rfl) (fun t ht hW9 => ⟨⟨(0 : Int32), (), rfl, (by rfl), wd_end hP hK hD ht hW9.alike⟩, hS.F ht⟩) hS.2.2 dX12_isBetter_139 hlocks
            · have c24i : (x1 + x2).toInt < ((S.I o1 20) + (S.I o1 21)).toInt := nle_v rfl rfl c24
              refine lv_iconst (v := 1) hx hb dX12_isBetter_118 (by decide) ?_
              refine lv_goto (tgt := 139) hx hb dX12_isBetter_119 (by decide) ?_
              refine W.widen (k := 0) (n := 0) (Nat.le_of_ble_eq_true rfl) (Nat.le_of_ble_eq_true rfl) ?_
              exact W.zret (v := (1 : Int32)) hx hb hr (by rfl) (fun t ht hW9 => ⟨⟨(1 : Int32), (), rfl, (by rfl), wd_end hP hK hD ht hW9.alike⟩, hS.F ht⟩) hS.2.2 dX12_isBetter_139 hlocks
        · exact absurd (by decide) c16
      · have c15i : (f_X12_divisor_e8 (S.I o1 20) (S.I o1 21)).toInt = 1 := eq_v rfl rfl c15
        refine lv_iconst (v := 1) hx hb dX12_isBetter_71 (by decide) ?_
        refine lv_goto (tgt := 76) hx hb dX12_isBetter_72 (by decide) ?_
        refine lv_istore (lv' := [(10, .int (1 : Int32)), (9, .int (0 : Int32)), (7, .long ((S.J o1 27) * x2.toInt64)), (5, .long (x3 * ((S.I o1 21).toInt64))), (0, .ref o1), (1, .int x1), (2, .int x2), (3, .long x3)]) hx hb dX12_isBetter_76 hl (by decide) rfl (fun ls hl => ?_)
        refine lv_iload hx hb dX12_isBetter_78 (lv_at hl 1 rfl) ?_
        refine lv_iload hx hb dX12_isBetter_80 (lv_at hl 0 rfl) ?_
        refine lv_icmp_eq (tgt := 88) hx hb dX12_isBetter_82 (by decide) (fun c25 => ?_) (fun c25 => ?_)
        · exact absurd c25 (by decide)
        · refine lv_iload hx hb dX12_isBetter_85 (lv_at hl 1 rfl) ?_
          refine W.widen (k := 0) (n := 0) (Nat.le_of_ble_eq_true rfl) (Nat.le_of_ble_eq_true rfl) ?_
          exact W.zret (v := (0 : Int32)) hx hb hr (by rfl) (fun t ht hW9 => ⟨⟨(0 : Int32), (), rfl, (by rfl), wd_end hP hK hD ht hW9.alike⟩, hS.F ht⟩) hS.2.2 dX12_isBetter_87 hlocks
    · have c8i : (f_X12_divisor_e8 x1 x2).toInt = 1 := eq_v rfl rfl c8
      refine lv_iconst (v := 1) hx hb dX12_isBetter_49 (by decide) ?_
      refine lv_goto (tgt := 54) hx hb dX12_isBetter_50 (by decide) ?_
      refine lv_istore (lv' := [(9, .int (1 : Int32)), (7, .long ((S.J o1 27) * x2.toInt64)), (5, .long (x3 * ((S.I o1 21).toInt64))), (0, .ref o1), (1, .int x1), (2, .int x2), (3, .long x3)]) hx hb dX12_isBetter_54 hl (by decide) rfl (fun ls hl => ?_)
      refine lv_aload_n hx hb dX12_isBetter_56 rfl (lv_at hl 3 rfl) ?_
      obtain ⟨k26, gk26, hk26⟩ := wGt (cy := cy) X S h_o1.1 h_o1.2.1
      have i27 := ((hW.at h_o1 List.not_mem_nil).to_12 h_o1.2.1).R20
      refine va_get (D := D) (ci := 16) (v := .int (S.I o1 20)) (C := RX12) (T := TX12) (N := 34) hx hb hts hi_X12_isBetter_X12 hown hK hP k26 hk26 rfl 20 (by decide) (hts (.fieldLink RX12 258 "HobhouseModel" "bestA" "I") (by decide +kernel)) (fun _ h9 => h9) rfl dX12_isBetter_57 ?_
      refine lv_aload_n hx hb dX12_isBetter_60 rfl (lv_at hl 3 rfl) ?_
      obtain ⟨k28, gk28, hk28⟩ := wGt (cy := cy) X S h_o1.1 h_o1.2.1
      refine va_get (D := D) (ci := 16) (v := .int (S.I o1 21)) (C := RX12) (T := TX12) (N := 34) hx hb hts hi_X12_isBetter_X12 hown hK hP k28 hk28 rfl 21 (by decide) (hts (.fieldLink RX12 251 "HobhouseModel" "bestB" "I") (by decide +kernel)) (fun _ h9 => h9) rfl dX12_isBetter_61 ?_
      have hFc := free_all hD hS hA
      refine va_calli (va_runS (As := [.int (S.I o1 20), .int (S.I o1 21)]) (rest := []) ⟨hx, hb, hml, hown, hts⟩ (c_X12_divisor_e8 l (cy := cy) (X := X) (D := D) S _ (S.I o1 20) (S.I o1 21) (by omega) (by omega) (by omega) (by omega)) (cwS 2 hts gX12_isBetter_X12_divisor rfl rfl rfl hd_X12_divisor ⟨Nat.le_of_ble_eq_true rfl, Nat.le_of_ble_eq_true rfl⟩) (pS hP hK hD hN) rfl rfl hl.1 rfl (lv_room (Nat.le_of_ble_eq_true rfl)) dX12_isBetter_64 ⟨(Nat.zero_le _), (Nat.zero_le _)⟩) hS (fun q _ h => hFc q h) hFc (fun r29 u t H1 locs ht hvm hw hB hz1 hk1 hS => ?_)
      obtain ⟨c30, y31⟩ := hw
      obtain ⟨hP, hD⟩ := wd_post hFc ht hB
      generalize H1 = H at hP hS ⊢
      obtain rfl : f_X12_divisor_e8 (S.I o1 20) (S.I o1 21) = r29 := c30.symm
      refine lv_iconst (v := 1) hx hb dX12_isBetter_67 (by decide) ?_
      refine lv_icmp_ne (tgt := 75) hx hb dX12_isBetter_68 (by decide) (fun c32 => ?_) (fun c32 => ?_)
      · have c32i : ¬ (f_X12_divisor_e8 (S.I o1 20) (S.I o1 21)).toInt = 1 := neq_v rfl rfl c32
        refine lv_iconst (v := 0) hx hb dX12_isBetter_75 (by decide) ?_
        refine lv_istore (lv' := [(10, .int (0 : Int32)), (9, .int (1 : Int32)), (7, .long ((S.J o1 27) * x2.toInt64)), (5, .long (x3 * ((S.I o1 21).toInt64))), (0, .ref o1), (1, .int x1), (2, .int x2), (3, .long x3)]) hx hb dX12_isBetter_76 hl (by decide) rfl (fun ls hl => ?_)
        refine lv_iload hx hb dX12_isBetter_78 (lv_at hl 1 rfl) ?_
        refine lv_iload hx hb dX12_isBetter_80 (lv_at hl 0 rfl) ?_
        refine lv_icmp_eq (tgt := 88) hx hb dX12_isBetter_82 (by decide) (fun c33 => ?_) (fun c33 => ?_)
        · exact absurd c33 (by decide)
        · refine lv_iload hx hb dX12_isBetter_85 (lv_at hl 1 rfl) ?_
          refine W.widen (k := 0) (n := 0) (Nat.le_of_ble_eq_true rfl) (Nat.le_of_ble_eq_true rfl) ?_
          exact W.zret (v := (1 : Int32)) hx hb hr (by rfl) (fun t ht hW9 => ⟨⟨(1 : Int32), (), rfl, (by rfl), wd_end hP hK hD ht hW9.alike⟩, hS.F ht⟩) hS.2.2 dX12_isBetter_87 hlocks
      · have c32i : (f_X12_divisor_e8 (S.I o1 20) (S.I o1 21)).toInt = 1 := eq_v rfl rfl c32
        refine lv_iconst (v := 1) hx hb dX12_isBetter_71 (by decide) ?_
        refine lv_goto (tgt := 76) hx hb dX12_isBetter_72 (by decide) ?_
        refine lv_istore (lv' := [(10, .int (1 : Int32)), (9, .int (1 : Int32)), (7, .long ((S.J o1 27) * x2.toInt64)), (5, .long (x3 * ((S.I o1 21).toInt64))), (0, .ref o1), (1, .int x1), (2, .int x2), (3, .long x3)]) hx hb dX12_isBetter_76 hl (by decide) rfl (fun ls hl => ?_)
        refine lv_iload hx hb dX12_isBetter_78 (lv_at hl 1 rfl) ?_
        refine lv_iload hx hb dX12_isBetter_80 (lv_at hl 0 rfl) ?_
        refine lv_icmp_eq (tgt := 88) hx hb dX12_isBetter_82 (by decide) (fun c34 => ?_) (fun c34 => ?_)
        · refine lv_iload_n hx hb dX12_isBetter_88 rfl (lv_at hl 5 rfl) ?_
          refine lv_iload_n hx hb dX12_isBetter_89 rfl (lv_at hl 6 rfl) ?_
          refine lv_iadd hx hb dX12_isBetter_90 ?_
          refine lv_aload_n hx hb dX12_isBetter_91 rfl (lv_at hl 4 rfl) ?_
          obtain ⟨k35, gk35, hk35⟩ := wGt (cy := cy) X S h_o1.1 h_o1.2.1
          refine va_get (D := D) (ci := 16) (v := .int (S.I o1 20)) (C := RX12) (T := TX12) (N := 34) hx hb hts hi_X12_isBetter_X12 hown hK hP k35 hk35 rfl 20 (by decide) (hts (.fieldLink RX12 258 "HobhouseModel" "bestA" "I") (by decide +kernel)) (fun _ h9 => h9) rfl dX12_isBetter_92 ?_
          refine lv_aload_n hx hb dX12_isBetter_95 rfl (lv_at hl 4 rfl) ?_
          obtain ⟨k36, gk36, hk36⟩ := wGt (cy := cy) X S h_o1.1 h_o1.2.1
          refine va_get (D := D) (ci := 16) (v := .int (S.I o1 21)) (C := RX12) (T := TX12) (N := 34) hx hb hts hi_X12_isBetter_X12 hown hK hP k36 hk36 rfl 21 (by decide) (hts (.fieldLink RX12 251 "HobhouseModel" "bestB" "I") (by decide +kernel)) (fun _ h9 => h9) rfl dX12_isBetter_96 ?_
          refine lv_iadd hx hb dX12_isBetter_99 ?_
          refine lv_icmp_eq (tgt := 126) hx hb dX12_isBetter_100 (by decide) (fun c37 => ?_) (fun c37 => ?_)
          · have c37i : (x1 + x2).toInt = ((S.I o1 20) + (S.I o1 21)).toInt := eq_v rfl rfl c37
            refine lv_iload_n hx hb dX12_isBetter_126 rfl (lv_at hl 5 rfl) ?_
            refine lv_aload_n hx hb dX12_isBetter_127 rfl (lv_at hl 4 rfl) ?_
            obtain ⟨k38, gk38, hk38⟩ := wGt (cy := cy) X S h_o1.1 h_o1.2.1
            refine va_get (D := D) (ci := 16) (v := .int (S.I o1 20)) (C := RX12) (T := TX12) (N := 34) hx hb hts hi_X12_isBetter_X12 hown hK hP k38 hk38 rfl 20 (by decide) (hts (.fieldLink RX12 258 "HobhouseModel" "bestA" "I") (by decide +kernel)) (fun _ h9 => h9) rfl dX12_isBetter_128 ?_
            refine lv_icmp_ge (tgt := 138) hx hb dX12_isBetter_131 (by decide) (fun c39 => ?_) (fun c39 => ?_)
            · have c39i : (S.I o1 20).toInt ≤ x1.toInt := le_v rfl rfl c39
              refine lv_iconst (v := 0) hx hb dX12_isBetter_138 (by decide) ?_
              refine W.widen (k := 0) (n := 0) (Nat.le_of_ble_eq_true rfl) (Nat.le_of_ble_eq_true rfl) ?_
              exact W.zret (v := (0 : Int32)) hx hb hr (by rfl) (fun t ht hW9 => ⟨⟨(0 : Int32), (), rfl, (by rfl), wd_end hP hK hD ht hW9.alike⟩, hS.F ht⟩) hS.2.2 dX12_isBetter_139 hlocks
            · have c39i : x1.toInt < (S.I o1 20).toInt := nle_v rfl rfl c39
              refine lv_iconst (v := 1) hx hb dX12_isBetter_134 (by decide) ?_
              refine lv_goto (tgt := 139) hx hb dX12_isBetter_135 (by decide) ?_
              refine W.widen (k := 0) (n := 0) (Nat.le_of_ble_eq_true rfl) (Nat.le_of_ble_eq_true rfl) ?_
              exact W.zret (v := (1 : Int32)) hx hb hr (by rfl) (fun t ht hW9 => ⟨⟨(1 : Int32), (), rfl, (by rfl), wd_end hP hK hD ht hW9.alike⟩, hS.F ht⟩) hS.2.2 dX12_isBetter_139 hlocks
          · have c37i : ¬ (x1 + x2).toInt = ((S.I o1 20) + (S.I o1 21)).toInt := neq_v rfl rfl c37
            refine lv_iload_n hx hb dX12_isBetter_103 rfl (lv_at hl 5 rfl) ?_
            refine lv_iload_n hx hb dX12_isBetter_104 rfl (lv_at hl 6 rfl) ?_
            refine lv_iadd hx hb dX12_isBetter_105 ?_
            refine lv_aload_n hx hb dX12_isBetter_106 rfl (lv_at hl 4 rfl) ?_
            obtain ⟨k40, gk40, hk40⟩ := wGt (cy := cy) X S h_o1.1 h_o1.2.1
            refine va_get (D := D) (ci := 16) (v := .int (S.I o1 20)) (C := RX12) (T := TX12) (N := 34) hx hb hts hi_X12_isBetter_X12 hown hK hP k40 hk40 rfl 20 (by decide) (hts (.fieldLink RX12 258 "HobhouseModel" "bestA" "I") (by decide +kernel)) (fun _ h9 => h9) rfl dX12_isBetter_107 ?_
            refine lv_aload_n hx hb dX12_isBetter_110 rfl (lv_at hl 4 rfl) ?_
            obtain ⟨k41, gk41, hk41⟩ := wGt (cy := cy) X S h_o1.1 h_o1.2.1
            refine va_get (D := D) (ci := 16) (v := .int (S.I o1 21)) (C := RX12) (T := TX12) (N := 34) hx hb hts hi_X12_isBetter_X12 hown hK hP k41 hk41 rfl 21 (by decide) (hts (.fieldLink RX12 251 "HobhouseModel" "bestB" "I") (by decide +kernel)) (fun _ h9 => h9) rfl dX12_isBetter_111 ?_
            refine lv_iadd hx hb dX12_isBetter_114 ?_
            refine lv_icmp_ge (tgt := 122) hx hb dX12_isBetter_115 (by decide) (fun c42 => ?_) (fun c42 => ?_)
            · have c42i : ((S.I o1 20) + (S.I o1 21)).toInt ≤ (x1 + x2).toInt := le_v rfl rfl c42
              refine lv_iconst (v := 0) hx hb dX12_isBetter_122 (by decide) ?_
              refine lv_goto (tgt := 139) hx hb dX12_isBetter_123 (by decide) ?_
              refine W.widen (k := 0) (n := 0) (Nat.le_of_ble_eq_true rfl) (Nat.le_of_ble_eq_true rfl) ?_
              exact W.zret (v := (0 : Int32)) hx hb hr (by rfl) (fun t ht hW9 => ⟨⟨(0 : Int32), (), rfl, (by rfl), wd_end hP hK hD ht hW9.alike⟩, hS.F ht⟩) hS.2.2 dX12_isBetter_139 hlocks
            · have c42i : (x1 + x2).toInt < ((S.I o1 20) + (S.I o1 21)).toInt := nle_v rfl rfl c42
              refine lv_iconst (v := 1) hx hb dX12_isBetter_118 (by decide) ?_
              refine lv_goto (tgt := 139) hx hb dX12_isBetter_119 (by decide) ?_
              refine W.widen (k := 0) (n := 0) (Nat.le_of_ble_eq_true rfl) (Nat.le_of_ble_eq_true rfl) ?_
              exact W.zret (v := (1 : Int32)) hx hb hr (by rfl) (fun t ht hW9 => ⟨⟨(1 : Int32), (), rfl, (by rfl), wd_end hP hK hD ht hW9.alike⟩, hS.F ht⟩) hS.2.2 dX12_isBetter_139 hlocks
        · exact absurd (by decide) c34
  · refine lv_lload hx hb dX12_isBetter_26 (lv_at hl 1 rfl) ?_
    refine lv_lload hx hb dX12_isBetter_28 (lv_at hl 0 rfl) ?_
    refine W.lcmp hx hb dX12_isBetter_30 ?_
    refine lv_if_ge (tgt := 38) hx hb dX12_isBetter_31 (by decide) (fun c43 => ?_) (fun c43 => ?_)
    · refine lv_iconst (v := 0) hx hb dX12_isBetter_38 (by decide) ?_
      refine W.widen (k := 0) (n := 0) (Nat.le_of_ble_eq_true rfl) (Nat.le_of_ble_eq_true rfl) ?_
      exact W.zret (v := (0 : Int32)) hx hb hr (by rfl) (fun t ht hW9 => ⟨⟨(0 : Int32), (), rfl, (by rfl), wd_end hP hK hD ht hW9.alike⟩, hS.F ht⟩) hS.2.2 dX12_isBetter_39 hlocks
    · refine lv_iconst (v := 1) hx hb dX12_isBetter_34 (by decide) ?_
      refine lv_goto (tgt := 39) hx hb dX12_isBetter_35 (by decide) ?_
      refine W.widen (k := 0) (n := 0) (Nat.le_of_ble_eq_true rfl) (Nat.le_of_ble_eq_true rfl) ?_
      exact W.zret (v := (1 : Int32)) hx hb hr (by rfl) (fun t ht hW9 => ⟨⟨(1 : Int32), (), rfl, (by rfl), wd_end hP hK hD ht hW9.alike⟩, hS.F ht⟩) hS.2.2 dX12_isBetter_39 hlocks
theorem hi_X12_looks_X12 : ∀ w ∈ u_ws RX12 TX12 34, w ∈ wsX12_looks := by decide +kernel
theorem hd_X12_looks : yX12_looks.cls = RX12 ∧ yX12_looks.cls ≠ "java/lang/invoke/MethodHandle" ∧ yX12_looks.cls ≠ "java/lang/invoke/VarHandle" ∧ (parseMethodDescriptor yX12_looks.desc).map (fun d => d.parameters.length) = some 4 := by decide +kernel
set_option maxHeartbeats 4000000 in
set_option maxRecDepth 100000 in
theorem c_X12_looks (l : Launch) {D : va_G} {cy : Nat → ClassId} {X : va_W} (S : wPS) (sz : Nat) (o1 : Nat) (h_o1 : isA S o1 12) (x1 : Int32) (x2 : Int32) (x3 : Int32) (x4 : Int32) (hW : wtB S []) (h1 : 6 ≤ x3.toInt ∧ x3.toInt ≤ x4.toInt ∧ x4.toInt ≤ 200) : Met l yX12_looks wsX12_looks ({ frames := 18, cells := 0, slots := 0, locals := 387 }) (va_Pc [.ref o1, .int x1, .int x2, .int x3, .int x4] (fun U => U.heap.size = sz ∧ WD D cy X (fun _ => True) S U ∧ NW U)) (va_Qv (fun (u : wPS) => stp [(12, 20), (12, 21), (12, 27)] [] [] S u) (fun u t => WD D cy X (va_A (X ++ PL cy S) sz) u t) (va_A (X ++ PL cy S) sz)) 0 0 (va_A (X ++ PL cy S) sz) := by
  refine Met.ofW (cc := cX12_looks) (maxL := 9) (ret := none) (by decide) rfl ?_
  intro p e s m args below meth c s₁ B hml hv
  obtain ⟨rfl, hsz, ⟨hP, hK, hD0⟩, hN⟩ := hv
  have hx := B.exec
  have hb := B.bytes
  have hr := B.returns
  have hts := atoms_spec (ws := wsX12_looks) B.pre
  have hown : s.vm.findClass RX12 = some m.cls := findClass_of_methodNamed (x := yX12_looks) B.named
  have hlocks := B.notSynchronized
  subst hsz
  have hD := hD0.self (sz := s.heap.size)
  generalize hAe : va_A (X ++ PL cy S) s.heap.size = A at hD ⊢
  have hA : ∀ q : Nat, s.heap.size ≤ q → A q := fun q h => by rw [← hAe]; exact Or.inr h
  have hS : va_S A s.heap s.heap [] := va_S.rf
  have hl := lv_entry ([.ref o1, .int x1, .int x2, .int x3, .int x4]) (n := 9) (Nat.le_of_ble_eq_true rfl)
  rw [lg_entry_eq]
  generalize (lg_sl ([.ref o1, .int x1, .int x2, .int x3, .int x4]) ++ List.replicate (9 - (lg_sl ([.ref o1, .int x1, .int x2, .int x3, .int x4])).length) Slot.unset).toArray = ls at hl ⊢
  have hl : lv_has ls 9 [(0, .ref o1), (1, .int x1), (2, .int x2), (3, .int x3), (4, .int x4)] := hl
  have t0 : stp [(12, 20), (12, 21), (12, 27)] [] [] S S := stp.rf hW
  refine lv_aload_n hx hb dX12_looks_0 rfl (lv_at hl 0 rfl) ?_
  refine lv_iconst (v := 0) hx hb dX12_looks_1 (by decide) ?_
  have l32_0 : (0 : Int32).toInt = 0 := rfl
  obtain ⟨k1, gk1, hk1⟩ := wGt (cy := cy) X S h_o1.1 h_o1.2.1
  refine va_put (D := D) (ci := 16) (v := .int (0 : Int32)) (ty := .int) (C := RX12) (T := TX12) (N := 34) hx hb hts hi_X12_looks_X12 tyX12 tyX12_ok nmX12 hown hK hP hD hS k1 hk1 rfl 20 (by decide) (hts (.fieldLink RX12 258 "HobhouseModel" "bestA" "I") (by decide +kernel)) (fun _ h9 => h9) rfl (by decide +kernel) (rfl) (rfl) (Nat.le_of_ble_eq_true rfl) dX12_looks_2 (fun H locs hP2 hD2 hS => ?_)
  have e9 := wPuI (cy := cy) (j := 20) (v := (0 : Int32)) hD h_o1.1 h_o1.2.1 gk1 rfl
  obtain ⟨S2, hS2⟩ : ∃ z, S.sI o1 20 (0 : Int32) = z := ⟨_, rfl⟩
  have hP : va_P D vwCl (X ++ PL cy S2) H := by rw [← hS2, ← e9]; exact hP2
  have hD : va_D A (X ++ PL cy S2) := by rw [← hS2, ← e9]; exact hD2
  have xe3 : ext S S2 := by rw [← hS2]; exact ext.sI _ _ _ _
  have t4 : stp [(12, 20), (12, 21), (12, 27)] [] [] S S2 := by rw [← hS2]; exact t0.I 20 (0 : Int32) h_o1 (by decide) (⟨by decide, by decide⟩) (Or.inl (by decide))
  refine lv_iload_n hx hb dX12_looks_5 rfl (lv_at hl 3 rfl) ?_
  refine lv_istore (lv' := [(5, .int x3), (0, .ref o1), (1, .int x1), (2, .int x2), (3, .int x3), (4, .int x4)]) hx hb dX12_looks_6 hl (by decide) rfl (fun ls hl => ?_)
  have loop8 : ∀ (n : Nat) (S8_ : wPS) (w8_5 : Int32) (H : Heap) (locs : List Loc) (ls : Array Slot), (201 - w8_5.toInt).toNat < n → 6 ≤ w8_5.toInt ∧ w8_5.toInt ≤ 201 → stp [(12, 20), (12, 21), (12, 27)] [] [] S2 S8_ → va_P D vwCl (X ++ PL cy S8_) H → va_D A (X ++ PL cy S8_) → va_S A s.heap H locs → lv_has ls 9 [(5, .int w8_5), (0, .ref o1), (1, .int x1), (2, .int x2), (3, .int x3), (4, .int x4)] → (∀ (S8_x : wPS) (w8_5x : Int32) (H : Heap) (locs : List Loc) (ls : Array Slot), 6 ≤ w8_5x.toInt ∧ w8_5x.toInt ≤ 201 → stp [(12, 20), (12, 21), (12, 27)] [] [] S2 S8_x → va_P D vwCl (X ++ PL cy S8_x) H → va_D A (X ++ PL cy S8_x) → va_S A s.heap H locs → lv_has ls 9 [(5, .int w8_5x), (0, .ref o1), (1, .int x1), (2, .int x2), (3, .int x3), (4, .int x4)] → W p l e (headSpec wsX12_looks ({ frames := 18, cells := 0, slots := 0, locals := 387 } : Room)).room s m [.ref o1, .int x1, .int x2, .int x3, .int x4].toArray below meth c H locs 0 0 (MQ below (va_Qv (fun (u : wPS) => stp [(12, 20), (12, 21), (12, 27)] [] [] S u) (fun u t => WD D cy X A u t) A) [.ref o1, .int x1, .int x2, .int x3, .int x4].toArray s 0 0 A) (F0 m 96 ls [])) → W p l e (headSpec wsX12_looks ({ frames := 18, cells := 0, slots := 0, locals := 387 } : Room)).room s m [.ref o1, .int x1, .int x2, .int x3, .int x4].toArray below meth c H locs 0 0 (MQ below (va_Qv (fun (u : wPS) => stp [(12, 20), (12, 21), (12, 27)] [] [] S u) (fun u t => WD D cy X A u t) A) [.ref o1, .int x1, .int x2, .int x3, .int x4].toArray s 0 0 A) (F0 m 8 ls []) := by
    intro n8
    induction n8 with
    | zero => intro S8_ w8_5 H locs ls hm; exact absurd hm (Nat.not_lt_zero _)
    | succ n8 ih8 =>
      intro S8_ w8_5 H locs ls hm8 hi8 hsh8 hP hD hS hl ko8
      refine lv_iload hx hb dX12_looks_8 (lv_at hl 0 rfl) ?_
      refine lv_iload hx hb dX12_looks_10 (lv_at hl 5 rfl) ?_
      refine lv_icmp_gt (tgt := 96) hx hb dX12_looks_12 (by decide) (fun c5 => ?_) (fun c5 => ?_)
      · have c5i : x4.toInt < w8_5.toInt := lt_v rfl rfl c5
        exact ko8 S8_ w8_5 _ _ _ (by omega) hsh8 hP hD hS (lv_sub hl [0, 1, 2, 3, 4, 5] rfl)
      · have c5i : w8_5.toInt ≤ x4.toInt := nlt_v rfl rfl c5
        refine lv_iload_n hx hb dX12_looks_15 rfl (lv_at hl 4 rfl) ?_
        refine lv_istore (lv' := [(6, .int x3), (5, .int w8_5), (0, .ref o1), (1, .int x1), (2, .int x2), (3, .int x3), (4, .int x4)]) hx hb dX12_looks_16 hl (by decide) rfl (fun ls hl => ?_)
        have loop18 : ∀ (n : Nat) (S18_ : wPS) (w18_6 : Int32) (H : Heap) (locs : List Loc) (ls : Array Slot), (201 - w18_6.toInt).toNat < n → 6 ≤ w18_6.toInt ∧ w18_6.toInt ≤ 201 → stp [(12, 20), (12, 21), (12, 27)] [] [] S8_ S18_ → va_P D vwCl (X ++ PL cy S18_) H → va_D A (X ++ PL cy S18_) → va_S A s.heap H locs → lv_has ls 9 [(6, .int w18_6), (5, .int w8_5), (0, .ref o1), (1, .int x1), (2, .int x2), (3, .int x3), (4, .int x4)] → (∀ (S18_x : wPS) (w18_6x : Int32) (H : Heap) (locs : List Loc) (ls : Array Slot), 6 ≤ w18_6x.toInt ∧ w18_6x.toInt ≤ 201 → stp [(12, 20), (12, 21), (12, 27)] [] [] S8_ S18_x → va_P D vwCl (X ++ PL cy S18_x) H → va_D A (X ++ PL cy S18_x) → va_S A s.heap H locs → lv_has ls 9 [(6, .int w18_6x), (5, .int w8_5), (0, .ref o1), (1, .int x1), (2, .int x2), (3, .int x3), (4, .int x4)] → W p l e (headSpec wsX12_looks ({ frames := 18, cells := 0, slots := 0, locals := 387 } : Room)).room s m [.ref o1, .int x1, .int x2, .int x3, .int x4].toArray below meth c H locs 0 0 (MQ below (va_Qv (fun (u : wPS) => stp [(12, 20), (12, 21), (12, 27)] [] [] S u) (fun u t => WD D cy X A u t) A) [.ref o1, .int x1, .int x2, .int x3, .int x4].toArray s 0 0 A) (F0 m 90 ls [])) → W p l e (headSpec wsX12_looks ({ frames := 18, cells := 0, slots := 0, locals := 387 } : Room)).room s m [.ref o1, .int x1, .int x2, .int x3, .int x4].toArray below meth c H locs 0 0 (MQ below (va_Qv (fun (u : wPS) => stp [(12, 20), (12, 21), (12, 27)] [] [] S u) (fun u t => WD D cy X A u t) A) [.ref o1, .int x1, .int x2, .int x3, .int x4].toArray s 0 0 A) (F0 m 18 ls []) := by
          intro n18
          induction n18 with
          | zero => intro S18_ w18_6 H locs ls hm; exact absurd hm (Nat.not_lt_zero _)
          | succ n18 ih18 =>
            intro S18_ w18_6 H locs ls hm18 hi18 hsh18 hP hD hS hl ko18
            refine lv_iload hx hb dX12_looks_18 (lv_at hl 0 rfl) ?_
            refine lv_iload hx hb dX12_looks_20 (lv_at hl 6 rfl) ?_
            refine lv_icmp_gt (tgt := 90) hx hb dX12_looks_22 (by decide) (fun c6 => ?_) (fun c6 => ?_)
            · have c6i : x4.toInt < w18_6.toInt := lt_v rfl rfl c6
              exact ko18 S18_ w18_6 _ _ _ (by omega) hsh18 hP hD hS (lv_sub hl [0, 1, 2, 3, 4, 5, 6] rfl)
            · have c6i : w18_6.toInt ≤ x4.toInt := nlt_v rfl rfl c6
              refine lv_iload hx hb dX12_looks_25 (lv_at hl 1 rfl) ?_
              refine lv_i2l hx hb dX12_looks_27 rfl ?_
              refine lv_iload_n hx hb dX12_looks_28 rfl (lv_at hl 4 rfl) ?_
              refine lv_i2l hx hb dX12_looks_29 rfl ?_
              refine lv_lmul hx hb dX12_looks_30 ?_
              refine lv_iload_n hx hb dX12_looks_31 rfl (lv_at hl 3 rfl) ?_
              refine lv_i2l hx hb dX12_looks_32 rfl ?_
              refine lv_iload hx hb dX12_looks_33 (lv_at hl 0 rfl) ?_
              refine lv_i2l hx hb dX12_looks_35 rfl ?_
              refine lv_lmul hx hb dX12_looks_36 ?_
              refine lv_lsub hx hb dX12_looks_37 ?_
              refine va_mabs_long hx hb (hml.trans hl.1.symm) hown (hts (.methodLink RX12 239 Lib.MathLoose.abs_long.x) (by decide +kernel)) (hts (.static Lib.MathLoose.abs_long.x) (by decide +kernel)) (hts (.initialized "java/lang/Math") (by decide +kernel)) (hts (.code Lib.MathLoose.abs_long.x Lib.MathLoose.abs_long.code 2 (some .long)) (by decide +kernel)) (Nat.le_of_ble_eq_true rfl) (Nat.le_of_ble_eq_true rfl) (Nat.zero_le _) (Nat.zero_le _) dX12_looks_38 ?_
              refine lv_lstore (lv' := [(7, .long (if 0 < ((w8_5.toInt64 * x2.toInt64) - (x1.toInt64 * w18_6.toInt64)) then ((w8_5.toInt64 * x2.toInt64) - (x1.toInt64 * w18_6.toInt64)) else -((w8_5.toInt64 * x2.toInt64) - (x1.toInt64 * w18_6.toInt64)))), (6, .int w18_6), (5, .int w8_5), (0, .ref o1), (1, .int x1), (2, .int x2), (3, .int x3), (4, .int x4)]) hx hb dX12_looks_41 hl (by decide) rfl (fun ls hl => ?_)
              refine lv_aload_n hx hb dX12_looks_43 rfl (lv_at hl 3 rfl) ?_
              obtain ⟨k7, gk7, hk7⟩ := wGt (cy := cy) X S18_ ((xe3.tr (hsh8.x.tr hsh18.x)).A h_o1).1 ((xe3.tr (hsh8.x.tr hsh18.x)).A h_o1).2.1
              have i8 := ((hsh18.w.at ((xe3.tr (hsh8.x.tr hsh18.x)).A h_o1) List.not_mem_nil).to_12 ((xe3.tr (hsh8.x.tr hsh18.x)).A h_o1).2.1).R20
              refine va_get (D := D) (ci := 16) (v := .int (S18_.I o1 20)) (C := RX12) (T := TX12) (N := 34) hx hb hts hi_X12_looks_X12 hown hK hP k7 hk7 rfl 20 (by decide) (hts (.fieldLink RX12 258 "HobhouseModel" "bestA" "I") (by decide +kernel)) (fun _ h9 => h9) rfl dX12_looks_44 ?_
              refine lv_if_le (tgt := 66) hx hb dX12_looks_47 (by decide) (fun c9 => ?_) (fun c9 => ?_)
              · have c9i : (S18_.I o1 20).toInt ≤ 0 := le_v rfl rfl c9
                refine lv_aload_n hx hb dX12_looks_66 rfl (lv_at hl 3 rfl) ?_
                refine lv_iload hx hb dX12_looks_67 (lv_at hl 2 rfl) ?_
                obtain ⟨k10, gk10, hk10⟩ := wGt (cy := cy) X S18_ ((xe3.tr (hsh8.x.tr hsh18.x)).A h_o1).1 ((xe3.tr (hsh8.x.tr hsh18.x)).A h_o1).2.1
                refine va_put (D := D) (ci := 16) (v := .int w8_5) (ty := .int) (C := RX12) (T := TX12) (N := 34) hx hb hts hi_X12_looks_X12 tyX12 tyX12_ok nmX12 hown hK hP hD hS k10 hk10 rfl 20 (by decide) (hts (.fieldLink RX12 258 "HobhouseModel" "bestA" "I") (by decide +kernel)) (fun _ h9 => h9) rfl (by decide +kernel) (rfl) (rfl) (Nat.le_of_ble_eq_true rfl) dX12_looks_69 (fun H locs hP2 hD2 hS => ?_)
                have e9 := wPuI (cy := cy) (j := 20) (v := w8_5) hD ((xe3.tr (hsh8.x.tr hsh18.x)).A h_o1).1 ((xe3.tr (hsh8.x.tr hsh18.x)).A h_o1).2.1 gk10 rfl
                obtain ⟨S11, hS11⟩ : ∃ z, S18_.sI o1 20 w8_5 = z := ⟨_, rfl⟩
                have hP : va_P D vwCl (X ++ PL cy S11) H := by rw [← hS11, ← e9]; exact hP2
                have hD : va_D A (X ++ PL cy S11) := by rw [← hS11, ← e9]; exact hD2
                have xe12 : ext S18_ S11 := by rw [← hS11]; exact ext.sI _ _ _ _
                have t13 : stp [(12, 20), (12, 21), (12, 27)] [] [] S8_ S11 := by rw [← hS11]; exact hsh18.I 20 w8_5 ((xe3.tr (hsh8.x.tr hsh18.x)).A h_o1) (by decide) (⟨by omega, by omega⟩) (Or.inl (by decide))
                refine lv_aload_n hx hb dX12_looks_72 rfl (lv_at hl 3 rfl) ?_
                refine lv_iload hx hb dX12_looks_73 (lv_at hl 1 rfl) ?_
                obtain ⟨k14, gk14, hk14⟩ := wGt (cy := cy) X S11 (xe12.A ((xe3.tr (hsh8.x.tr hsh18.x)).A h_o1)).1 (xe12.A ((xe3.tr (hsh8.x.tr hsh18.x)).A h_o1)).2.1
                refine va_put (D := D) (ci := 16) (v := .int w18_6) (ty := .int) (C := RX12) (T := TX12) (N := 34) hx hb hts hi_X12_looks_X12 tyX12 tyX12_ok nmX12 hown hK hP hD hS k14 hk14 rfl 21 (by decide) (hts (.fieldLink RX12 251 "HobhouseModel" "bestB" "I") (by decide +kernel)) (fun _ h9 => h9) rfl (by decide +kernel) (rfl) (rfl) (Nat.le_of_ble_eq_true rfl) dX12_looks_75 (fun H locs hP2 hD2 hS => ?_)
                have e9 := wPuI (cy := cy) (j := 21) (v := w18_6) hD (xe12.A ((xe3.tr (hsh8.x.tr hsh18.x)).A h_o1)).1 (xe12.A ((xe3.tr (hsh8.x.tr hsh18.x)).A h_o1)).2.1 gk14 rfl
                obtain ⟨S15, hS15⟩ : ∃ z, S11.sI o1 21 w18_6 = z := ⟨_, rfl⟩
                have hP : va_P D vwCl (X ++ PL cy S15) H := by rw [← hS15, ← e9]; exact hP2
                have hD : va_D A (X ++ PL cy S15) := by rw [← hS15, ← e9]; exact hD2
                have xe16 : ext S11 S15 := by rw [← hS15]; exact ext.sI _ _ _ _
                have t17 : stp [(12, 20), (12, 21), (12, 27)] [] [] S8_ S15 := by rw [← hS15]; exact t13.I 21 w18_6 (xe12.A ((xe3.tr (hsh8.x.tr hsh18.x)).A h_o1)) (by decide) (⟨by omega, by omega⟩) (Or.inl (by decide))
                refine lv_aload_n hx hb dX12_looks_78 rfl (lv_at hl 3 rfl) ?_
                refine lv_lload hx hb dX12_looks_79 (lv_at hl 0 rfl) ?_
                obtain ⟨k18, gk18, hk18⟩ := wGt (cy := cy) X S15 (xe16.A (xe12.A ((xe3.tr (hsh8.x.tr hsh18.x)).A h_o1))).1 (xe16.A (xe12.A ((xe3.tr (hsh8.x.tr hsh18.x)).A h_o1))).2.1
                refine va_put (D := D) (ci := 16) (v := .long (if 0 < ((w8_5.toInt64 * x2.toInt64) - (x1.toInt64 * w18_6.toInt64)) then ((w8_5.toInt64 * x2.toInt64) - (x1.toInt64 * w18_6.toInt64)) else -((w8_5.toInt64 * x2.toInt64) - (x1.toInt64 * w18_6.toInt64)))) (ty := .long) (C := RX12) (T := TX12) (N := 34) hx hb hts hi_X12_looks_X12 tyX12 tyX12_ok nmX12 hown hK hP hD hS k18 hk18 rfl 27 (by decide) (hts (.fieldLink RX12 254 "HobhouseModel" "bestOff" "J") (by decide +kernel)) (fun _ h9 => h9) rfl (by decide +kernel) (rfl) (rfl) (Nat.le_of_ble_eq_true rfl) dX12_looks_81 (fun H locs hP2 hD2 hS => ?_)
                have e9 := wPuJ (cy := cy) (j := 27) (v := (if 0 < ((w8_5.toInt64 * x2.toInt64) - (x1.toInt64 * w18_6.toInt64)) then ((w8_5.toInt64 * x2.toInt64) - (x1.toInt64 * w18_6.toInt64)) else -((w8_5.toInt64 * x2.toInt64) - (x1.toInt64 * w18_6.toInt64)))) hD (xe16.A (xe12.A ((xe3.tr (hsh8.x.tr hsh18.x)).A h_o1))).1 (xe16.A (xe12.A ((xe3.tr (hsh8.x.tr hsh18.x)).A h_o1))).2.1 gk18 rfl
                obtain ⟨S19, hS19⟩ : ∃ z, S15.sJ o1 27 (if 0 < ((w8_5.toInt64 * x2.toInt64) - (x1.toInt64 * w18_6.toInt64)) then ((w8_5.toInt64 * x2.toInt64) - (x1.toInt64 * w18_6.toInt64)) else -((w8_5.toInt64 * x2.toInt64) - (x1.toInt64 * w18_6.toInt64))) = z := ⟨_, rfl⟩
                have hP : va_P D vwCl (X ++ PL cy S19) H := by rw [← hS19, ← e9]; exact hP2
                have hD : va_D A (X ++ PL cy S19) := by rw [← hS19, ← e9]; exact hD2
                have xe20 : ext S15 S19 := by rw [← hS19]; exact ext.sJ _ _ _ _
                have t21 : stp [(12, 20), (12, 21), (12, 27)] [] [] S8_ S19 := by rw [← hS19]; exact t17.J 27 (if 0 < ((w8_5.toInt64 * x2.toInt64) - (x1.toInt64 * w18_6.toInt64)) then ((w8_5.toInt64 * x2.toInt64) - (x1.toInt64 * w18_6.toInt64)) else -((w8_5.toInt64 * x2.toInt64) - (x1.toInt64 * w18_6.toInt64))) (xe16.A (xe12.A ((xe3.tr (hsh8.x.tr hsh18.x)).A h_o1))) (by decide)
                refine lv_iinc (v := w18_6 + (1 : Int32)) (lv' := [(6, .int (w18_6 + (1 : Int32))), (7, .long (if 0 < ((w8_5.toInt64 * x2.toInt64) - (x1.toInt64 * w18_6.toInt64)) then ((w8_5.toInt64 * x2.toInt64) - (x1.toInt64 * w18_6.toInt64)) else -((w8_5.toInt64 * x2.toInt64) - (x1.toInt64 * w18_6.toInt64)))), (5, .int w8_5), (0, .ref o1), (1, .int x1), (2, .int x2), (3, .int x3), (4, .int x4)]) hx hb dX12_looks_84 hl (k := 1) rfl (by rfl) (by decide) rfl (fun ls hl => ?_)
                refine lv_goto (tgt := 18) hx hb dX12_looks_87 (by decide) ?_
                have l32_1 : (1 : Int32).toInt = 1 := rfl
                have i22 : (w18_6 + (1 : Int32)).toInt = w18_6.toInt + 1 := t_addr (n := 1) rfl (by omega)
                exact ih18 S19 (w18_6 + (1 : Int32)) _ _ _ (Nat.lt_of_lt_of_le (by omega) (Nat.le_of_lt_succ hm18)) (by omega) t21 hP hD hS (lv_sub hl [0, 2, 3, 4, 5, 6, 7] rfl) ko18
              · have c9i : 0 < (S18_.I o1 20).toInt := nle_v rfl rfl c9
                refine lv_aload_n hx hb dX12_looks_50 rfl (lv_at hl 3 rfl) ?_
                refine lv_iload hx hb dX12_looks_51 (lv_at hl 2 rfl) ?_
                refine lv_iload hx hb dX12_looks_53 (lv_at hl 1 rfl) ?_
                refine lv_lload hx hb dX12_looks_55 (lv_at hl 0 rfl) ?_
                have hFc := free_all hD hS hA
                obtain ⟨k23, gk23, hk23⟩ := wGt (cy := cy) X S18_ ((xe3.tr (hsh8.x.tr hsh18.x)).A h_o1).1 ((xe3.tr (hsh8.x.tr hsh18.x)).A h_o1).2.1
                refine va_calli (va_runV (As := [.int w8_5, .int w18_6, .long (if 0 < ((w8_5.toInt64 * x2.toInt64) - (x1.toInt64 * w18_6.toInt64)) then ((w8_5.toInt64 * x2.toInt64) - (x1.toInt64 * w18_6.toInt64)) else -((w8_5.toInt64 * x2.toInt64) - (x1.toInt64 * w18_6.toInt64)))]) (rest := []) ⟨hx, hb, hml, hown, hts⟩ (c_X12_isBetter l (cy := cy) (X := X) (D := D) S18_ _ o1 ((xe3.tr (hsh8.x.tr hsh18.x)).A h_o1) w8_5 w18_6 (if 0 < ((w8_5.toInt64 * x2.toInt64) - (x1.toInt64 * w18_6.toInt64)) then ((w8_5.toInt64 * x2.toInt64) - (x1.toInt64 * w18_6.toInt64)) else -((w8_5.toInt64 * x2.toInt64) - (x1.toInt64 * w18_6.toInt64))) (hsh18.w) (by omega) (by omega) (by omega)) (cwV 3 hts gX12_looks_X12_isBetter rfl rfl rfl hd_X12_isBetter ⟨Nat.le_of_ble_eq_true rfl, Nat.le_of_ble_eq_true rfl⟩) (pV (va_recv hK hP (q := (RX12, TX12, 34)) (ci := 16) (q0 := k23) rfl hk23) hP hK hD hN) rfl rfl hl.1 rfl (lv_room (Nat.le_of_ble_eq_true rfl)) dX12_looks_57 ⟨(Nat.zero_le _), (Nat.zero_le _)⟩) hS (fun q _ h => hFc q h) hFc (fun r24 u t H1 locs ht hvm hw hB hz1 hk1 hS => ?_)
                have y25 := hw
                obtain ⟨hP, hD⟩ := wd_post hFc ht hB
                generalize H1 = H at hP hS ⊢
                refine lv_if_ne (tgt := 66) hx hb dX12_looks_60 (by decide) (fun c26 => ?_) (fun c26 => ?_)
                · have c26i : ¬ r24.toInt = 0 := neq_v rfl rfl c26
                  refine lv_aload_n hx hb dX12_looks_66 rfl (lv_at hl 3 rfl) ?_
                  refine lv_iload hx hb dX12_looks_67 (lv_at hl 2 rfl) ?_
                  obtain ⟨k27, gk27, hk27⟩ := wGt (cy := cy) X S18_ ((xe3.tr (hsh8.x.tr hsh18.x)).A h_o1).1 ((xe3.tr (hsh8.x.tr hsh18.x)).A h_o1).2.1
                  refine va_put (D := D) (ci := 16) (v := .int w8_5) (ty := .int) (C := RX12) (T := TX12) (N := 34) hx hb hts hi_X12_looks_X12 tyX12 tyX12_ok nmX12 hown hK hP hD hS k27 hk27 rfl 20 (by decide) (hts (.fieldLink RX12 258 "HobhouseModel" "bestA" "I") (by decide +kernel)) (fun _ h9 => h9) rfl (by decide +kernel) (rfl) (rfl) (Nat.le_of_ble_eq_true rfl) dX12_looks_69 (fun H locs hP2 hD2 hS => ?_)
                  have e9 := wPuI (cy := cy) (j := 20) (v := w8_5) hD ((xe3.tr (hsh8.x.tr hsh18.x)).A h_o1).1 ((xe3.tr (hsh8.x.tr hsh18.x)).A h_o1).2.1 gk27 rfl
                  obtain ⟨S28, hS28⟩ : ∃ z, S18_.sI o1 20 w8_5 = z := ⟨_, rfl⟩
                  have hP : va_P D vwCl (X ++ PL cy S28) H := by rw [← hS28, ← e9]; exact hP2
                  have hD : va_D A (X ++ PL cy S28) := by rw [← hS28, ← e9]; exact hD2
                  have xe29 : ext S18_ S28 := by rw [← hS28]; exact ext.sI _ _ _ _
                  have t30 : stp [(12, 20), (12, 21), (12, 27)] [] [] S8_ S28 := by rw [← hS28]; exact hsh18.I 20 w8_5 ((xe3.tr (hsh8.x.tr hsh18.x)).A h_o1) (by decide) (⟨by omega, by omega⟩) (Or.inl (by decide))
                  refine lv_aload_n hx hb dX12_looks_72 rfl (lv_at hl 3 rfl) ?_
                  refine lv_iload hx hb dX12_looks_73 (lv_at hl 1 rfl) ?_
                  obtain ⟨k31, gk31, hk31⟩ := wGt (cy := cy) X S28 (xe29.A ((xe3.tr (hsh8.x.tr hsh18.x)).A h_o1)).1 (xe29.A ((xe3.tr (hsh8.x.tr hsh18.x)).A h_o1)).2.1
                  refine va_put (D := D) (ci := 16) (v := .int w18_6) (ty := .int) (C := RX12) (T := TX12) (N := 34) hx hb hts hi_X12_looks_X12 tyX12 tyX12_ok nmX12 hown hK hP hD hS k31 hk31 rfl 21 (by decide) (hts (.fieldLink RX12 251 "HobhouseModel" "bestB" "I") (by decide +kernel)) (fun _ h9 => h9) rfl (by decide +kernel) (rfl) (rfl) (Nat.le_of_ble_eq_true rfl) dX12_looks_75 (fun H locs hP2 hD2 hS => ?_)
                  have e9 := wPuI (cy := cy) (j := 21) (v := w18_6) hD (xe29.A ((xe3.tr (hsh8.x.tr hsh18.x)).A h_o1)).1 (xe29.A ((xe3.tr (hsh8.x.tr hsh18.x)).A h_o1)).2.1 gk31 rfl
                  obtain ⟨S32, hS32⟩ : ∃ z, S28.sI o1 21 w18_6 = z := ⟨_, rfl⟩
                  have hP : va_P D vwCl (X ++ PL cy S32) H := by rw [← hS32, ← e9]; exact hP2
                  have hD : va_D A (X ++ PL cy S32) := by rw [← hS32, ← e9]; exact hD2
                  have xe33 : ext S28 S32 := by rw [← hS32]; exact ext.sI _ _ _ _
                  have t34 : stp [(12, 20), (12, 21), (12, 27)] [] [] S8_ S32 := by rw [← hS32]; exact t30.I 21 w18_6 (xe29.A ((xe3.tr (hsh8.x.tr hsh18.x)).A h_o1)) (by decide) (⟨by omega, by omega⟩) (Or.inl (by decide))
                  refine lv_aload_n hx hb dX12_looks_78 rfl (lv_at hl 3 rfl) ?_
                  refine lv_lload hx hb dX12_looks_79 (lv_at hl 0 rfl) ?_
                  obtain ⟨k35, gk35, hk35⟩ := wGt (cy := cy) X S32 (xe33.A (xe29.A ((xe3.tr (hsh8.x.tr hsh18.x)).A h_o1))).1 (xe33.A (xe29.A ((xe3.tr (hsh8.x.tr hsh18.x)).A h_o1))).2.1
                  refine va_put (D := D) (ci := 16) (v := .long (if 0 < ((w8_5.toInt64 * x2.toInt64) - (x1.toInt64 * w18_6.toInt64)) then ((w8_5.toInt64 * x2.toInt64) - (x1.toInt64 * w18_6.toInt64)) else -((w8_5.toInt64 * x2.toInt64) - (x1.toInt64 * w18_6.toInt64)))) (ty := .long) (C := RX12) (T := TX12) (N := 34) hx hb hts hi_X12_looks_X12 tyX12 tyX12_ok nmX12 hown hK hP hD hS k35 hk35 rfl 27 (by decide) (hts (.fieldLink RX12 254 "HobhouseModel" "bestOff" "J") (by decide +kernel)) (fun _ h9 => h9) rfl (by decide +kernel) (rfl) (rfl) (Nat.le_of_ble_eq_true rfl) dX12_looks_81 (fun H locs hP2 hD2 hS => ?_)
                  have e9 := wPuJ (cy := cy) (j := 27) (v := (if 0 < ((w8_5.toInt64 * x2.toInt64) - (x1.toInt64 * w18_6.toInt64)) then ((w8_5.toInt64 * x2.toInt64) - (x1.toInt64 * w18_6.toInt64)) else -((w8_5.toInt64 * x2.toInt64) - (x1.toInt64 * w18_6.toInt64)))) hD (xe33.A (xe29.A ((xe3.tr (hsh8.x.tr hsh18.x)).A h_o1))).1 (xe33.A (xe29.A ((xe3.tr (hsh8.x.tr hsh18.x)).A h_o1))).2.1 gk35 rfl
                  obtain ⟨S36, hS36⟩ : ∃ z, S32.sJ o1 27 (if 0 < ((w8_5.toInt64 * x2.toInt64) - (x1.toInt64 * w18_6.toInt64)) then ((w8_5.toInt64 * x2.toInt64) - (x1.toInt64 * w18_6.toInt64)) else -((w8_5.toInt64 * x2.toInt64) - (x1.toInt64 * w18_6.toInt64))) = z := ⟨_, rfl⟩
                  have hP : va_P D vwCl (X ++ PL cy S36) H := by rw [← hS36, ← e9]; exact hP2
                  have hD : va_D A (X ++ PL cy S36) := by rw [← hS36, ← e9]; exact hD2
                  have xe37 : ext S32 S36 := by rw [← hS36]; exact ext.sJ _ _ _ _
                  have t38 : stp [(12, 20), (12, 21), (12, 27)] [] [] S8_ S36 := by rw [← hS36]; exact t34.J 27 (if 0 < ((w8_5.toInt64 * x2.toInt64) - (x1.toInt64 * w18_6.toInt64)) then ((w8_5.toInt64 * x2.toInt64) - (x1.toInt64 * w18_6.toInt64)) else -((w8_5.toInt64 * x2.toInt64) - (x1.toInt64 * w18_6.toInt64))) (xe33.A (xe29.A ((xe3.tr (hsh8.x.tr hsh18.x)).A h_o1))) (by decide)
                  refine lv_iinc (v := w18_6 + (1 : Int32)) (lv' := [(6, .int (w18_6 + (1 : Int32))), (7, .long (if 0 < ((w8_5.toInt64 * x2.toInt64) - (x1.toInt64 * w18_6.toInt64)) then ((w8_5.toInt64 * x2.toInt64) - (x1.toInt64 * w18_6.toInt64)) else -((w8_5.toInt64 * x2.toInt64) - (x1.toInt64 * w18_6.toInt64)))), (5, .int w8_5), (0, .ref o1), (1, .int x1), (2, .int x2), (3, .int x3), (4, .int x4)]) hx hb dX12_looks_84 hl (k := 1) rfl (by rfl) (by decide) rfl (fun ls hl => ?_)
                  refine lv_goto (tgt := 18) hx hb dX12_looks_87 (by decide) ?_
                  have l32_1 : (1 : Int32).toInt = 1 := rfl
                  have i39 : (w18_6 + (1 : Int32)).toInt = w18_6.toInt + 1 := t_addr (n := 1) rfl (by omega)
                  exact ih18 S36 (w18_6 + (1 : Int32)) _ _ _ (Nat.lt_of_lt_of_le (by omega) (Nat.le_of_lt_succ hm18)) (by omega) t38 hP hD hS (lv_sub hl [0, 2, 3, 4, 5, 6, 7] rfl) ko18
                · have c26i : r24.toInt = 0 := eq_v rfl rfl c26
                  refine lv_goto (tgt := 84) hx hb dX12_looks_63 (by decide) ?_
                  refine lv_iinc (v := w18_6 + (1 : Int32)) (lv' := [(6, .int (w18_6 + (1 : Int32))), (7, .long (if 0 < ((w8_5.toInt64 * x2.toInt64) - (x1.toInt64 * w18_6.toInt64)) then ((w8_5.toInt64 * x2.toInt64) - (x1.toInt64 * w18_6.toInt64)) else -((w8_5.toInt64 * x2.toInt64) - (x1.toInt64 * w18_6.toInt64)))), (5, .int w8_5), (0, .ref o1), (1, .int x1), (2, .int x2), (3, .int x3), (4, .int x4)]) hx hb dX12_looks_84 hl (k := 1) rfl (by rfl) (by decide) rfl (fun ls hl => ?_)
                  refine lv_goto (tgt := 18) hx hb dX12_looks_87 (by decide) ?_
                  have l32_1 : (1 : Int32).toInt = 1 := rfl
                  have i40 : (w18_6 + (1 : Int32)).toInt = w18_6.toInt + 1 := t_addr (n := 1) rfl (by omega)
                  exact ih18 S18_ (w18_6 + (1 : Int32)) _ _ _ (Nat.lt_of_lt_of_le (by omega) (Nat.le_of_lt_succ hm18)) (by omega) hsh18 hP hD hS (lv_sub hl [0, 2, 3, 4, 5, 6, 7] rfl) ko18
        refine loop18 202 S8_ x3 _ _ _ (by omega) (by omega) (stp.rf hsh8.w) hP hD hS (lv_sub hl [0, 1, 2, 3, 4, 5, 6] rfl) (fun S42 z43 H locs ls hi18 hsh18 hP hD hS hl => ?_)
        have t44 : stp [(12, 20), (12, 21), (12, 27)] [] [] S2 S42 := hsh8.tr hsh18 (fun _ q => q) (fun _ q => Or.inl q)
        have et44 := hsh18.x
        refine lv_iinc (v := w8_5 + (1 : Int32)) (lv' := [(5, .int (w8_5 + (1 : Int32))), (6, .int z43), (0, .ref o1), (1, .int x1), (2, .int x2), (3, .int x3), (4, .int x4)]) hx hb dX12_looks_90 hl (k := 1) rfl (by rfl) (by decide) rfl (fun ls hl => ?_)
        refine lv_goto (tgt := 8) hx hb dX12_looks_93 (by decide) ?_
        have l32_1 : (1 : Int32).toInt = 1 := rfl
        have i45 : (w8_5 + (1 : Int32)).toInt = w8_5.toInt + 1 := t_addr (n := 1) rfl (by omega)
        exact ih8 S42 (w8_5 + (1 : Int32)) _ _ _ (Nat.lt_of_lt_of_le (by omega) (Nat.le_of_lt_succ hm8)) (by omega) t44 hP hD hS (lv_sub hl [0, 2, 3, 4, 5, 6] rfl) ko8
  refine loop8 202 S2 x3 _ _ _ (by omega) (by omega) (stp.rf t4.w) hP hD hS (lv_sub hl [0, 1, 2, 3, 4, 5] rfl) (fun S47 z48 H locs ls hi8 hsh8 hP hD hS hl => ?_)
  have t49 : stp [(12, 20), (12, 21), (12, 27)] [] [] S S47 := t4.tr hsh8 (fun _ q => q) (fun _ q => Or.inl q)
  have et49 := hsh8.x
  refine W.widen (k := 0) (n := 0) (Nat.le_of_ble_eq_true rfl) (Nat.le_of_ble_eq_true rfl) ?_
  exact W.vret hx hb hr (fun t ht hW9 => ⟨⟨S47, rfl, t49, wd_end hP hK hD ht hW9.alike⟩, hS.F ht⟩) hS.2.2 dX12_looks_96 hlocks
theorem hi_X12_bestPair_X12 : ∀ w ∈ u_ws RX12 TX12 34, w ∈ wsX12_bestPair := by decide +kernel
theorem hd_X12_bestPair : yX12_bestPair.cls = RX12 ∧ yX12_bestPair.cls ≠ "java/lang/invoke/MethodHandle" ∧ yX12_bestPair.cls ≠ "java/lang/invoke/VarHandle" ∧ (parseMethodDescriptor yX12_bestPair.desc).map (fun d => d.parameters.length) = some 4 := by decide +kernel
set_option maxHeartbeats 4000000 in
set_option maxRecDepth 100000 in
theorem c_X12_bestPair (l : Launch) {D : va_G} {cy : Nat → ClassId} {X : va_W} (S : wPS) (sz : Nat) (o1 : Nat) (h_o1 : isA S o1 12) (x1 : Int32) (x2 : Int32) (x3 : Int32) (x4 : Int32) (hW : wtB S [])  : Met l yX12_bestPair wsX12_bestPair ({ frames := 19, cells := 0, slots := 0, locals := 415 }) (va_Pc [.ref o1, .int x1, .int x2, .int x3, .int x4] (fun U => U.heap.size = sz ∧ WD D cy X (fun _ => True) S U ∧ NW U)) (va_Qi (fun r (u : wPS) => stp [(12, 15), (12, 20), (12, 21), (12, 27)] [] [] S u) (fun u t => WD D cy X (va_A (X ++ PL cy S) sz) u t) (va_A (X ++ PL cy S) sz)) 0 0 (va_A (X ++ PL cy S) sz) := by
  refine Met.ofW (cc := cX12_bestPair) (maxL := 5) (ret := (some .int)) (by decide) rfl ?_
  intro p e s m args below meth c s₁ B hml hv
  obtain ⟨rfl, hsz, ⟨hP, hK, hD0⟩, hN⟩ := hv
  have hx := B.exec
  have hb := B.bytes
  have hr := B.returns
  have hts := atoms_spec (ws := wsX12_bestPair) B.pre
  have hown : s.vm.findClass RX12 = some m.cls := findClass_of_methodNamed (x := yX12_bestPair) B.named
  have hlocks := B.notSynchronized
  subst hsz
  have hD := hD0.self (sz := s.heap.size)
  generalize hAe : va_A (X ++ PL cy S) s.heap.size = A at hD ⊢
  have hA : ∀ q : Nat, s.heap.size ≤ q → A q := fun q h => by rw [← hAe]; exact Or.inr h
  have hS : va_S A s.heap s.heap [] := va_S.rf
  have hl := lv_entry ([.ref o1, .int x1, .int x2, .int x3, .int x4]) (n := 5) (Nat.le_of_ble_eq_true rfl)
  rw [lg_entry_eq]
  generalize (lg_sl ([.ref o1, .int x1, .int x2, .int x3, .int x4]) ++ List.replicate (5 - (lg_sl ([.ref o1, .int x1, .int x2, .int x3, .int x4])).length) Slot.unset).toArray = ls at hl ⊢
  have hl : lv_has ls 5 [(0, .ref o1), (1, .int x1), (2, .int x2), (3, .int x3), (4, .int x4)] := hl
  have t0 : stp [(12, 15), (12, 20), (12, 21), (12, 27)] [] [] S S := stp.rf hW
  refine lv_aload_n hx hb dX12_bestPair_0 rfl (lv_at hl 0 rfl) ?_
  refine lv_iload_n hx hb dX12_bestPair_1 rfl (lv_at hl 1 rfl) ?_
  refine lv_iload_n hx hb dX12_bestPair_2 rfl (lv_at hl 2 rfl) ?_
  refine lv_iload_n hx hb dX12_bestPair_3 rfl (lv_at hl 3 rfl) ?_
  refine lv_iload hx hb dX12_bestPair_4 (lv_at hl 4 rfl) ?_
  have hFc := free_all hD hS hA
  obtain ⟨k1, gk1, hk1⟩ := wGt (cy := cy) X S h_o1.1 h_o1.2.1
  refine va_calli (va_runV (As := [.int x1, .int x2, .int x3, .int x4]) (rest := []) ⟨hx, hb, hml, hown, hts⟩ (c_X12_isBounds l (cy := cy) (X := X) (D := D) S _ o1 h_o1 x1 x2 x3 x4) (cwV 4 hts gX12_bestPair_X12_isBounds rfl rfl rfl hd_X12_isBounds ⟨Nat.le_of_ble_eq_true rfl, Nat.le_of_ble_eq_true rfl⟩) (pV (va_recv hK hP (q := (RX12, TX12, 34)) (ci := 16) (q0 := k1) rfl hk1) hP hK hD hN) rfl rfl hl.1 rfl (lv_room (Nat.le_of_ble_eq_true rfl)) dX12_bestPair_6 ⟨(Nat.zero_le _), (Nat.zero_le _)⟩) hS (fun q _ h => hFc q h) hFc (fun r2 u t H1 locs ht hvm hw hB hz1 hk1 hS => ?_)
  obtain ⟨y3, y4⟩ := hw
  obtain ⟨hP, hD⟩ := wd_post hFc ht hB
  generalize H1 = H at hP hS ⊢
  refine lv_if_ne (tgt := 18) hx hb dX12_bestPair_9 (by decide) (fun c5 => ?_) (fun c5 => ?_)
  · have c5i : ¬ r2.toInt = 0 := neq_v rfl rfl c5
    refine lv_aload_n hx hb dX12_bestPair_18 rfl (lv_at hl 0 rfl) ?_
    refine lv_iload_n hx hb dX12_bestPair_19 rfl (lv_at hl 1 rfl) ?_
    refine lv_iload_n hx hb dX12_bestPair_20 rfl (lv_at hl 2 rfl) ?_
    refine lv_iload_n hx hb dX12_bestPair_21 rfl (lv_at hl 3 rfl) ?_
    refine lv_iload hx hb dX12_bestPair_22 (lv_at hl 4 rfl) ?_
    have hFc := free_all hD hS hA
    obtain ⟨k6, gk6, hk6⟩ := wGt (cy := cy) X S h_o1.1 h_o1.2.1
    refine va_callv (va_runV (As := [.int x1, .int x2, .int x3, .int x4]) (rest := []) ⟨hx, hb, hml, hown, hts⟩ (c_X12_looks l (cy := cy) (X := X) (D := D) S _ o1 h_o1 x1 x2 x3 x4 (hW) (by omega)) (cwV 4 hts gX12_bestPair_X12_looks rfl rfl rfl hd_X12_looks ⟨Nat.le_of_ble_eq_true rfl, Nat.le_of_ble_eq_true rfl⟩) (pV (va_recv hK hP (q := (RX12, TX12, 34)) (ci := 16) (q0 := k6) rfl hk6) hP hK hD hN) rfl rfl hl.1 rfl (lv_room (Nat.le_of_ble_eq_true rfl)) dX12_bestPair_24 ⟨(Nat.zero_le _), (Nat.zero_le _)⟩) hS (fun q _ h => hFc q h) hFc (fun u t H1 locs ht hvm hw hB hz1 hk1 hS => ?_)
    have w8 := hw
    obtain ⟨hP, hD⟩ := wd_post hFc ht hB
    generalize H1 = H at hP hS ⊢
    obtain ⟨S9, rfl⟩ : ∃ z, z = u := ⟨_, rfl⟩
    have t10 : stp [(12, 15), (12, 20), (12, 21), (12, 27)] [] [] S S9 := t0.tr w8 (by decide) (fun _ q => absurd q List.not_mem_nil)
    have xe11 : ext S S9 := w8.x
    refine lv_aload_n hx hb dX12_bestPair_27 rfl (lv_at hl 0 rfl) ?_
    refine lv_aload_n hx hb dX12_bestPair_28 rfl (lv_at hl 0 rfl) ?_
    obtain ⟨k12, gk12, hk12⟩ := wGt (cy := cy) X S9 (xe11.A h_o1).1 (xe11.A h_o1).2.1
    have i13 := ((t10.w.at (xe11.A h_o1) List.not_mem_nil).to_12 (xe11.A h_o1).2.1).R20
    refine va_get (D := D) (ci := 16) (v := .int (S9.I o1 20)) (C := RX12) (T := TX12) (N := 34) hx hb hts hi_X12_bestPair_X12 hown hK hP k12 hk12 rfl 20 (by decide) (hts (.fieldLink RX12 258 "HobhouseModel" "bestA" "I") (by decide +kernel)) (fun _ h9 => h9) rfl dX12_bestPair_29 ?_
    have hFc := free_all hD hS hA
    obtain ⟨k14, gk14, hk14⟩ := wGt (cy := cy) X S9 (xe11.A h_o1).1 (xe11.A h_o1).2.1
    refine va_calli (va_runV (As := [.int (S9.I o1 20)]) (rest := []) ⟨hx, hb, hml, hown, hts⟩ (c_X12_answer l (cy := cy) (X := X) (D := D) S9 _ o1 (xe11.A h_o1) (S9.I o1 20) (t10.w)) (cwV 1 hts gX12_bestPair_X12_answer rfl rfl rfl hd_X12_answer ⟨Nat.le_of_ble_eq_true rfl, Nat.le_of_ble_eq_true rfl⟩) (pV (va_recv hK hP (q := (RX12, TX12, 34)) (ci := 16) (q0 := k14) rfl hk14) hP hK hD hN) rfl rfl hl.1 rfl (lv_room (Nat.le_of_ble_eq_true rfl)) dX12_bestPair_32 ⟨(Nat.zero_le _), (Nat.zero_le _)⟩) hS (fun q _ h => hFc q h) hFc (fun r15 u t H1 locs ht hvm hw hB hz1 hk1 hS => ?_)
    obtain ⟨c16, w17⟩ := hw
    obtain ⟨hP, hD⟩ := wd_post hFc ht hB
    generalize H1 = H at hP hS ⊢
    obtain ⟨S18, rfl⟩ : ∃ z, z = u := ⟨_, rfl⟩
    have t19 : stp [(12, 15), (12, 20), (12, 21), (12, 27)] [] [] S S18 := t10.tr w17 (by decide) (fun _ q => absurd q List.not_mem_nil)
    have xe20 : ext S9 S18 := w17.x
    refine W.widen (k := 0) (n := 0) (Nat.le_of_ble_eq_true rfl) (Nat.le_of_ble_eq_true rfl) ?_
    exact W.iret (v := r15) hx hb hr (fun t ht hW9 => ⟨⟨r15, S18, rfl, t19, wd_end hP hK hD ht hW9.alike⟩, hS.F ht⟩) hS.2.2 dX12_bestPair_35 hlocks
  · have c5i : r2.toInt = 0 := eq_v rfl rfl c5
    refine lv_aload_n hx hb dX12_bestPair_12 rfl (lv_at hl 0 rfl) ?_
    refine lv_iconst (v := 1) hx hb dX12_bestPair_13 (by decide) ?_
    have l32_1 : (1 : Int32).toInt = 1 := rfl
    have hFc := free_all hD hS hA
    obtain ⟨k21, gk21, hk21⟩ := wGt (cy := cy) X S h_o1.1 h_o1.2.1
    refine va_calli (va_runV (As := [.int (1 : Int32)]) (rest := []) ⟨hx, hb, hml, hown, hts⟩ (c_X12_fails l (cy := cy) (X := X) (D := D) S _ o1 h_o1 (1 : Int32) (hW)) (cwV 1 hts gX12_bestPair_X12_fails rfl rfl rfl hd_X12_fails ⟨Nat.le_of_ble_eq_true rfl, Nat.le_of_ble_eq_true rfl⟩) (pV (va_recv hK hP (q := (RX12, TX12, 34)) (ci := 16) (q0 := k21) rfl hk21) hP hK hD hN) rfl rfl hl.1 rfl (lv_room (Nat.le_of_ble_eq_true rfl)) dX12_bestPair_14 ⟨(Nat.zero_le _), (Nat.zero_le _)⟩) hS (fun q _ h => hFc q h) hFc (fun r22 u t H1 locs ht hvm hw hB hz1 hk1 hS => ?_)
    obtain ⟨c23, w24⟩ := hw
    obtain ⟨hP, hD⟩ := wd_post hFc ht hB
    generalize H1 = H at hP hS ⊢
    obtain ⟨S25, rfl⟩ : ∃ z, z = u := ⟨_, rfl⟩
    have t26 : stp [(12, 15), (12, 20), (12, 21), (12, 27)] [] [] S S25 := t0.tr w24 (by decide) (fun _ q => absurd q List.not_mem_nil)
    have xe27 : ext S S25 := w24.x
    refine W.widen (k := 0) (n := 0) (Nat.le_of_ble_eq_true rfl) (Nat.le_of_ble_eq_true rfl) ?_
    exact W.iret (v := r22) hx hb hr (fun t ht hW9 => ⟨⟨r22, S25, rfl, t26, wd_end hP hK hD ht hW9.alike⟩, hS.F ht⟩) hS.2.2 dX12_bestPair_17 hlocks
theorem hi_X12_bestMate_X12 : ∀ w ∈ u_ws RX12 TX12 34, w ∈ wsX12_bestMate := by decide +kernel
theorem hd_X12_bestMate : yX12_bestMate.cls = RX12 ∧ yX12_bestMate.cls ≠ "java/lang/invoke/MethodHandle" ∧ yX12_bestMate.cls ≠ "java/lang/invoke/VarHandle" ∧ (parseMethodDescriptor yX12_bestMate.desc).map (fun d => d.parameters.length) = some 4 := by decide +kernel
set_option maxHeartbeats 4000000 in
set_option maxRecDepth 100000 in
theorem c_X12_bestMate (l : Launch) {D : va_G} {cy : Nat → ClassId} {X : va_W} (S : wPS) (sz : Nat) (o1 : Nat) (h_o1 : isA S o1 12) (x1 : Int32) (x2 : Int32) (x3 : Int32) (x4 : Int32) (hW : wtB S [])  : Met l yX12_bestMate wsX12_bestMate ({ frames := 19, cells := 0, slots := 0, locals := 415 }) (va_Pc [.ref o1, .int x1, .int x2, .int x3, .int x4] (fun U => U.heap.size = sz ∧ WD D cy X (fun _ => True) S U ∧ NW U)) (va_Qi (fun r (u : wPS) => stp [(12, 15), (12, 20), (12, 21), (12, 27)] [] [] S u) (fun u t => WD D cy X (va_A (X ++ PL cy S) sz) u t) (va_A (X ++ PL cy S) sz)) 0 0 (va_A (X ++ PL cy S) sz) := by
  refine Met.ofW (cc := cX12_bestMate) (maxL := 5) (ret := (some .int)) (by decide) rfl ?_
  intro p e s m args below meth c s₁ B hml hv
  obtain ⟨rfl, hsz, ⟨hP, hK, hD0⟩, hN⟩ := hv
  have hx := B.exec
  have hb := B.bytes
  have hr := B.returns
  have hts := atoms_spec (ws := wsX12_bestMate) B.pre
  have hown : s.vm.findClass RX12 = some m.cls := findClass_of_methodNamed (x := yX12_bestMate) B.named
  have hlocks := B.notSynchronized
  subst hsz
  have hD := hD0.self (sz := s.heap.size)
  generalize hAe : va_A (X ++ PL cy S) s.heap.size = A at hD ⊢
  have hA : ∀ q : Nat, s.heap.size ≤ q → A q := fun q h => by rw [← hAe]; exact Or.inr h
  have hS : va_S A s.heap s.heap [] := va_S.rf
  have hl := lv_entry ([.ref o1, .int x1, .int x2, .int x3, .int x4]) (n := 5) (Nat.le_of_ble_eq_true rfl)
  rw [lg_entry_eq]
  generalize (lg_sl ([.ref o1, .int x1, .int x2, .int x3, .int x4]) ++ List.replicate (5 - (lg_sl ([.ref o1, .int x1, .int x2, .int x3, .int x4])).length) Slot.unset).toArray = ls at hl ⊢
  have hl : lv_has ls 5 [(0, .ref o1), (1, .int x1), (2, .int x2), (3, .int x3), (4, .int x4)] := hl
  have t0 : stp [(12, 15), (12, 20), (12, 21), (12, 27)] [] [] S S := stp.rf hW
  refine lv_aload_n hx hb dX12_bestMate_0 rfl (lv_at hl 0 rfl) ?_
  refine lv_iload_n hx hb dX12_bestMate_1 rfl (lv_at hl 1 rfl) ?_
  refine lv_iload_n hx hb dX12_bestMate_2 rfl (lv_at hl 2 rfl) ?_
  refine lv_iload_n hx hb dX12_bestMate_3 rfl (lv_at hl 3 rfl) ?_
  refine lv_iload hx hb dX12_bestMate_4 (lv_at hl 4 rfl) ?_
  have hFc := free_all hD hS hA
  obtain ⟨k1, gk1, hk1⟩ := wGt (cy := cy) X S h_o1.1 h_o1.2.1
  refine va_calli (va_runV (As := [.int x1, .int x2, .int x3, .int x4]) (rest := []) ⟨hx, hb, hml, hown, hts⟩ (c_X12_isBounds l (cy := cy) (X := X) (D := D) S _ o1 h_o1 x1 x2 x3 x4) (cwV 4 hts gX12_bestMate_X12_isBounds rfl rfl rfl hd_X12_isBounds ⟨Nat.le_of_ble_eq_true rfl, Nat.le_of_ble_eq_true rfl⟩) (pV (va_recv hK hP (q := (RX12, TX12, 34)) (ci := 16) (q0 := k1) rfl hk1) hP hK hD hN) rfl rfl hl.1 rfl (lv_room (Nat.le_of_ble_eq_true rfl)) dX12_bestMate_6 ⟨(Nat.zero_le _), (Nat.zero_le _)⟩) hS (fun q _ h => hFc q h) hFc (fun r2 u t H1 locs ht hvm hw hB hz1 hk1 hS => ?_)
  obtain ⟨y3, y4⟩ := hw
  obtain ⟨hP, hD⟩ := wd_post hFc ht hB
  generalize H1 = H at hP hS ⊢
  refine lv_if_ne (tgt := 18) hx hb dX12_bestMate_9 (by decide) (fun c5 => ?_) (fun c5 => ?_)
  · have c5i : ¬ r2.toInt = 0 := neq_v rfl rfl c5
    refine lv_aload_n hx hb dX12_bestMate_18 rfl (lv_at hl 0 rfl) ?_
    refine lv_iload_n hx hb dX12_bestMate_19 rfl (lv_at hl 1 rfl) ?_
    refine lv_iload_n hx hb dX12_bestMate_20 rfl (lv_at hl 2 rfl) ?_
    refine lv_iload_n hx hb dX12_bestMate_21 rfl (lv_at hl 3 rfl) ?_
    refine lv_iload hx hb dX12_bestMate_22 (lv_at hl 4 rfl) ?_
    have hFc := free_all hD hS hA
    obtain ⟨k6, gk6, hk6⟩ := wGt (cy := cy) X S h_o1.1 h_o1.2.1
    refine va_callv (va_runV (As := [.int x1, .int x2, .int x3, .int x4]) (rest := []) ⟨hx, hb, hml, hown, hts⟩ (c_X12_looks l (cy := cy) (X := X) (D := D) S _ o1 h_o1 x1 x2 x3 x4 (hW) (by omega)) (cwV 4 hts gX12_bestMate_X12_looks rfl rfl rfl hd_X12_looks ⟨Nat.le_of_ble_eq_true rfl, Nat.le_of_ble_eq_true rfl⟩) (pV (va_recv hK hP (q := (RX12, TX12, 34)) (ci := 16) (q0 := k6) rfl hk6) hP hK hD hN) rfl rfl hl.1 rfl (lv_room (Nat.le_of_ble_eq_true rfl)) dX12_bestMate_24 ⟨(Nat.zero_le _), (Nat.zero_le _)⟩) hS (fun q _ h => hFc q h) hFc (fun u t H1 locs ht hvm hw hB hz1 hk1 hS => ?_)
    have w8 := hw
    obtain ⟨hP, hD⟩ := wd_post hFc ht hB
    generalize H1 = H at hP hS ⊢
    obtain ⟨S9, rfl⟩ : ∃ z, z = u := ⟨_, rfl⟩
    have t10 : stp [(12, 15), (12, 20), (12, 21), (12, 27)] [] [] S S9 := t0.tr w8 (by decide) (fun _ q => absurd q List.not_mem_nil)
    have xe11 : ext S S9 := w8.x
    refine lv_aload_n hx hb dX12_bestMate_27 rfl (lv_at hl 0 rfl) ?_
    refine lv_aload_n hx hb dX12_bestMate_28 rfl (lv_at hl 0 rfl) ?_
    obtain ⟨k12, gk12, hk12⟩ := wGt (cy := cy) X S9 (xe11.A h_o1).1 (xe11.A h_o1).2.1
    have i13 := ((t10.w.at (xe11.A h_o1) List.not_mem_nil).to_12 (xe11.A h_o1).2.1).R21
    refine va_get (D := D) (ci := 16) (v := .int (S9.I o1 21)) (C := RX12) (T := TX12) (N := 34) hx hb hts hi_X12_bestMate_X12 hown hK hP k12 hk12 rfl 21 (by decide) (hts (.fieldLink RX12 251 "HobhouseModel" "bestB" "I") (by decide +kernel)) (fun _ h9 => h9) rfl dX12_bestMate_29 ?_
    have hFc := free_all hD hS hA
    obtain ⟨k14, gk14, hk14⟩ := wGt (cy := cy) X S9 (xe11.A h_o1).1 (xe11.A h_o1).2.1
    refine va_calli (va_runV (As := [.int (S9.I o1 21)]) (rest := []) ⟨hx, hb, hml, hown, hts⟩ (c_X12_answer l (cy := cy) (X := X) (D := D) S9 _ o1 (xe11.A h_o1) (S9.I o1 21) (t10.w)) (cwV 1 hts gX12_bestMate_X12_answer rfl rfl rfl hd_X12_answer ⟨Nat.le_of_ble_eq_true rfl, Nat.le_of_ble_eq_true rfl⟩) (pV (va_recv hK hP (q := (RX12, TX12, 34)) (ci := 16) (q0 := k14) rfl hk14) hP hK hD hN) rfl rfl hl.1 rfl (lv_room (Nat.le_of_ble_eq_true rfl)) dX12_bestMate_32 ⟨(Nat.zero_le _), (Nat.zero_le _)⟩) hS (fun q _ h => hFc q h) hFc (fun r15 u t H1 locs ht hvm hw hB hz1 hk1 hS => ?_)
    obtain ⟨c16, w17⟩ := hw
    obtain ⟨hP, hD⟩ := wd_post hFc ht hB
    generalize H1 = H at hP hS ⊢
    obtain ⟨S18, rfl⟩ : ∃ z, z = u := ⟨_, rfl⟩
    have t19 : stp [(12, 15), (12, 20), (12, 21), (12, 27)] [] [] S S18 := t10.tr w17 (by decide) (fun _ q => absurd q List.not_mem_nil)
    have xe20 : ext S9 S18 := w17.x
    refine W.widen (k := 0) (n := 0) (Nat.le_of_ble_eq_true rfl) (Nat.le_of_ble_eq_true rfl) ?_
    exact W.iret (v := r15) hx hb hr (fun t ht hW9 => ⟨⟨r15, S18, rfl, t19, wd_end hP hK hD ht hW9.alike⟩, hS.F ht⟩) hS.2.2 dX12_bestMate_35 hlocks
  · have c5i : r2.toInt = 0 := eq_v rfl rfl c5
    refine lv_aload_n hx hb dX12_bestMate_12 rfl (lv_at hl 0 rfl) ?_
    refine lv_iconst (v := 1) hx hb dX12_bestMate_13 (by decide) ?_
    have l32_1 : (1 : Int32).toInt = 1 := rfl
    have hFc := free_all hD hS hA
    obtain ⟨k21, gk21, hk21⟩ := wGt (cy := cy) X S h_o1.1 h_o1.2.1
    refine va_calli (va_runV (As := [.int (1 : Int32)]) (rest := []) ⟨hx, hb, hml, hown, hts⟩ (c_X12_fails l (cy := cy) (X := X) (D := D) S _ o1 h_o1 (1 : Int32) (hW)) (cwV 1 hts gX12_bestMate_X12_fails rfl rfl rfl hd_X12_fails ⟨Nat.le_of_ble_eq_true rfl, Nat.le_of_ble_eq_true rfl⟩) (pV (va_recv hK hP (q := (RX12, TX12, 34)) (ci := 16) (q0 := k21) rfl hk21) hP hK hD hN) rfl rfl hl.1 rfl (lv_room (Nat.le_of_ble_eq_true rfl)) dX12_bestMate_14 ⟨(Nat.zero_le _), (Nat.zero_le _)⟩) hS (fun q _ h => hFc q h) hFc (fun r22 u t H1 locs ht hvm hw hB hz1 hk1 hS => ?_)
    obtain ⟨c23, w24⟩ := hw
    obtain ⟨hP, hD⟩ := wd_post hFc ht hB
    generalize H1 = H at hP hS ⊢
    obtain ⟨S25, rfl⟩ : ∃ z, z = u := ⟨_, rfl⟩
    have t26 : stp [(12, 15), (12, 20), (12, 21), (12, 27)] [] [] S S25 := t0.tr w24 (by decide) (fun _ q => absurd q List.not_mem_nil)
    have xe27 : ext S S25 := w24.x
    refine W.widen (k := 0) (n := 0) (Nat.le_of_ble_eq_true rfl) (Nat.le_of_ble_eq_true rfl) ?_
    exact W.iret (v := r22) hx hb hr (fun t ht hW9 => ⟨⟨r22, S25, rfl, t26, wd_end hP hK hD ht hW9.alike⟩, hS.F ht⟩) hS.2.2 dX12_bestMate_17 hlocks
def f_X12_goes (x1 : Int32) (x2 : Int32) (x3 : Int32) : Int32 := if ((x2 - x1) - (x2 - x1) / (2 : Int32) * (2 : Int32)) = (0 : Int32) then if (6 : Int32) ≤ ((x2 - x1) / (2 : Int32)) then if ((x1 + x2) - (x1 + x2) / x3 * x3) = (0 : Int32) then if x3 = (3 : Int32) then if ((x1 + ((x2 - x1) / (2 : Int32))) * (866 : Int32)) ≤ ((1000 : Int32) * (((x2 - x1) / (2 : Int32)) + (2 : Int32))) then (114 : Int32) else (103 : Int32) else if x3 = (4 : Int32) then if ((x1 + ((x2 - x1) / (2 : Int32))) * (707 : Int32)) ≤ ((1000 : Int32) * (((x2 - x1) / (2 : Int32)) + (2 : Int32))) then (114 : Int32) else (103 : Int32) else if x3 = (5 : Int32) then if ((x1 + ((x2 - x1) / (2 : Int32))) * (588 : Int32)) ≤ ((1000 : Int32) * (((x2 - x1) / (2 : Int32)) + (2 : Int32))) then (114 : Int32) else (103 : Int32) else if ((x1 + ((x2 - x1) / (2 : Int32))) * (500 : Int32)) ≤ ((1000 : Int32) * (((x2 - x1) / (2 : Int32)) + (2 : Int32))) then (114 : Int32) else (103 : Int32) else (97 : Int32) else (119 : Int32) else (119 : Int32)
theorem f_X12_goes_b (x1 : Int32) (x2 : Int32) (x3 : Int32) : narrow .char (.int (f_X12_goes x1 x2 x3)) = .int (f_X12_goes x1 x2 x3) := by
  unfold f_X12_goes; (repeat' split) <;> rfl
theorem hd_X12_goes : yX12_goes.cls = RX12 ∧ yX12_goes.cls ≠ "java/lang/invoke/MethodHandle" ∧ yX12_goes.cls ≠ "java/lang/invoke/VarHandle" ∧ (parseMethodDescriptor yX12_goes.desc).map (fun d => d.parameters.length) = some 3 := by decide +kernel
set_option maxHeartbeats 4000000 in
set_option maxRecDepth 100000 in
theorem c_X12_goes (l : Launch) {D : va_G} {cy : Nat → ClassId} {X : va_W} (S : wPS) (sz : Nat) (x1 : Int32) (x2 : Int32) (x3 : Int32) (h1 : 3 ≤ x3.toInt ∧ x3.toInt ≤ 6) : Met l yX12_goes wsX12_goes ({ frames := 0, cells := 0, slots := 0, locals := 0 }) (va_Pc [.int x1, .int x2, .int x3] (fun U => U.heap.size = sz ∧ WD D cy X (fun _ => True) S U ∧ NW U)) (va_Qi (fun r (_ : Unit) => r = f_X12_goes x1 x2 x3 ∧ narrow .char (.int r) = .int r) (fun _ t => WD D cy X (va_A (X ++ PL cy S) sz) S t) (va_A (X ++ PL cy S) sz)) 0 0 (va_A (X ++ PL cy S) sz) := by
  refine Met.ofW (cc := cX12_goes) (maxL := 5) (ret := (some .char)) (by decide) rfl ?_
  intro p e s m args below meth c s₁ B hml hv
  obtain ⟨rfl, hsz, ⟨hP, hK, hD0⟩, hN⟩ := hv
  have hx := B.exec
  have hb := B.bytes
  have hr := B.returns
  have hts := atoms_spec (ws := wsX12_goes) B.pre
  have hown : s.vm.findClass RX12 = some m.cls := findClass_of_methodNamed (x := yX12_goes) B.named
  have hlocks := B.notSynchronized
  subst hsz
  have hD := hD0.self (sz := s.heap.size)
  generalize hAe : va_A (X ++ PL cy S) s.heap.size = A at hD ⊢
  have hA : ∀ q : Nat, s.heap.size ≤ q → A q := fun q h => by rw [← hAe]; exact Or.inr h
  have hS : va_S A s.heap s.heap [] := va_S.rf
  have hl := lv_entry ([.int x1, .int x2, .int x3]) (n := 5) (Nat.le_of_ble_eq_true rfl)
  rw [lg_entry_eq]
  generalize (lg_sl ([.int x1, .int x2, .int x3]) ++ List.replicate (5 - (lg_sl ([.int x1, .int x2, .int x3])).length) Slot.unset).toArray = ls at hl ⊢
  have hl : lv_has ls 5 [(0, .int x1), (1, .int x2), (2, .int x3)] := hl
  refine lv_iload_n hx hb dX12_goes_0 rfl (lv_at hl 1 rfl) ?_
  refine lv_iload_n hx hb dX12_goes_1 rfl (lv_at hl 0 rfl) ?_
  refine lv_isub hx hb dX12_goes_2 ?_
  refine lv_iconst (v := 2) hx hb dX12_goes_3 (by decide) ?_
  refine lv_idiv hx hb dX12_goes_4 (by decide) ?_
  refine lv_istore_n (lv' := [(3, .int ((x2 - x1) / (2 : Int32))), (0, .int x1), (1, .int x2), (2, .int x3)]) hx hb dX12_goes_5 rfl hl (by decide) rfl (fun ls hl => ?_)
  refine lv_iload_n hx hb dX12_goes_6 rfl (lv_at hl 2 rfl) ?_
  refine lv_iload_n hx hb dX12_goes_7 rfl (lv_at hl 1 rfl) ?_
  refine lv_isub hx hb dX12_goes_8 ?_
  refine lv_iconst (v := 2) hx hb dX12_goes_9 (by decide) ?_
  refine lv_irem hx hb dX12_goes_10 (by decide) ?_
  refine lv_if_ne (tgt := 20) hx hb dX12_goes_11 (by decide) (fun c1 => ?_) (fun c1 => ?_)
  · have c1i : ¬ ((x2 - x1) - (x2 - x1) / (2 : Int32) * (2 : Int32)).toInt = 0 := neq_v rfl rfl c1
    refine lv_bipush (v := 119) hx hb dX12_goes_20 (by decide +kernel) ?_
    refine W.widen (k := 0) (n := 0) (Nat.le_of_ble_eq_true rfl) (Nat.le_of_ble_eq_true rfl) ?_
    exact W.zret (v := (119 : Int32)) hx hb hr (by rfl) (fun t ht hW9 => ⟨⟨(119 : Int32), (), rfl, ⟨(by show (119 : Int32) = f_X12_goes x1 x2 x3; unfold f_X12_goes; rw [if_neg c1]), (by rfl)⟩, wd_end hP hK hD ht hW9.alike⟩, hS.F ht⟩) hS.2.2 dX12_goes_22 hlocks
  · have c1i : ((x2 - x1) - (x2 - x1) / (2 : Int32) * (2 : Int32)).toInt = 0 := eq_v rfl rfl c1
    refine lv_iload_n hx hb dX12_goes_14 rfl (lv_at hl 0 rfl) ?_
    refine lv_bipush (v := 6) hx hb dX12_goes_15 (by decide +kernel) ?_
    refine lv_icmp_ge (tgt := 23) hx hb dX12_goes_17 (by decide) (fun c2 => ?_) (fun c2 => ?_)
    · have c2i : 6 ≤ ((x2 - x1) / (2 : Int32)).toInt := le_v rfl rfl c2
      refine lv_iload_n hx hb dX12_goes_23 rfl (lv_at hl 1 rfl) ?_
      refine lv_iload_n hx hb dX12_goes_24 rfl (lv_at hl 2 rfl) ?_
      refine lv_iadd hx hb dX12_goes_25 ?_
      refine lv_iload_n hx hb dX12_goes_26 rfl (lv_at hl 3 rfl) ?_
      refine lv_irem hx hb dX12_goes_27 (nz_i (by omega)) ?_
      refine lv_if_eq (tgt := 34) hx hb dX12_goes_28 (by decide) (fun c3 => ?_) (fun c3 => ?_)
      · have c3i : ((x1 + x2) - (x1 + x2) / x3 * x3).toInt = 0 := eq_v rfl rfl c3
        refine lv_iload_n hx hb dX12_goes_34 rfl (lv_at hl 3 rfl) ?_
        refine lv_iconst (v := 3) hx hb dX12_goes_35 (by decide) ?_
        refine lv_icmp_ne (tgt := 45) hx hb dX12_goes_36 (by decide) (fun c4 => ?_) (fun c4 => ?_)
        · have c4i : ¬ x3.toInt = 3 := neq_v rfl rfl c4
          refine lv_iload_n hx hb dX12_goes_45 rfl (lv_at hl 3 rfl) ?_
          refine lv_iconst (v := 4) hx hb dX12_goes_46 (by decide) ?_
          refine lv_icmp_ne (tgt := 56) hx hb dX12_goes_47 (by decide) (fun c5 => ?_) (fun c5 => ?_)
          · have c5i : ¬ x3.toInt = 4 := neq_v rfl rfl c5
            refine lv_iload_n hx hb dX12_goes_56 rfl (lv_at hl 3 rfl) ?_
            refine lv_iconst (v := 5) hx hb dX12_goes_57 (by decide) ?_
            refine lv_icmp_ne (tgt := 67) hx hb dX12_goes_58 (by decide) (fun c6 => ?_) (fun c6 => ?_)
            · have c6i : ¬ x3.toInt = 5 := neq_v rfl rfl c6
              refine lv_sipush (v := 500) hx hb dX12_goes_67 (by decide +kernel) ?_
              refine lv_istore (lv' := [(4, .int (500 : Int32)), (3, .int ((x2 - x1) / (2 : Int32))), (0, .int x1), (1, .int x2), (2, .int x3)]) hx hb dX12_goes_70 hl (by decide) rfl (fun ls hl => ?_)
              refine lv_iload_n hx hb dX12_goes_72 rfl (lv_at hl 2 rfl) ?_
              refine lv_iload_n hx hb dX12_goes_73 rfl (lv_at hl 1 rfl) ?_
              refine lv_iadd hx hb dX12_goes_74 ?_
              refine lv_iload hx hb dX12_goes_75 (lv_at hl 0 rfl) ?_
              refine lv_imul hx hb dX12_goes_77 ?_
              refine lv_sipush (v := 1000) hx hb dX12_goes_78 (by decide +kernel) ?_
              refine lv_iload_n hx hb dX12_goes_81 rfl (lv_at hl 1 rfl) ?_
              refine lv_iconst (v := 2) hx hb dX12_goes_82 (by decide) ?_
              refine lv_iadd hx hb dX12_goes_83 ?_
              refine lv_imul hx hb dX12_goes_84 ?_
              refine lv_icmp_le (tgt := 93) hx hb dX12_goes_85 (by decide) (fun c7 => ?_) (fun c7 => ?_)
              · have c7i : ((x1 + ((x2 - x1) / (2 : Int32))) * (500 : Int32)).toInt ≤ ((1000 : Int32) * (((x2 - x1) / (2 : Int32)) + (2 : Int32))).toInt := le_v rfl rfl c7
                refine lv_bipush (v := 114) hx hb dX12_goes_93 (by decide +kernel) ?_
                refine W.widen (k := 0) (n := 0) (Nat.le_of_ble_eq_true rfl) (Nat.le_of_ble_eq_true rfl) ?_
                exact W.zret (v := (114 : Int32)) hx hb hr (by rfl) (fun t ht hW9 => ⟨⟨(114 : Int32), (), rfl, ⟨(by show (114 : Int32) = f_X12_goes x1 x2 x3; unfold f_X12_goes; rw [if_pos c1, if_pos c2, if_pos c3, if_neg c4, if_neg c5, if_neg c6, if_pos c7]), (by rfl)⟩, wd_end hP hK hD ht hW9.alike⟩, hS.F ht⟩) hS.2.2 dX12_goes_95 hlocks
              · have c7i : ((1000 : Int32) * (((x2 - x1) / (2 : Int32)) + (2 : Int32))).toInt < ((x1 + ((x2 - x1) / (2 : Int32))) * (500 : Int32)).toInt := nle_v rfl rfl c7
                refine lv_bipush (v := 103) hx hb dX12_goes_88 (by decide +kernel) ?_
                refine lv_goto (tgt := 95) hx hb dX12_goes_90 (by decide) ?_
                refine W.widen (k := 0) (n := 0) (Nat.le_of_ble_eq_true rfl) (Nat.le_of_ble_eq_true rfl) ?_
                exact W.zret (v := (103 : Int32)) hx hb hr (by rfl) (fun t ht hW9 => ⟨⟨(103 : Int32), (), rfl, ⟨(by show (103 : Int32) = f_X12_goes x1 x2 x3; unfold f_X12_goes; rw [if_pos c1, if_pos c2, if_pos c3, if_neg c4, if_neg c5, if_neg c6, if_neg c7]), (by rfl)⟩, wd_end hP hK hD ht hW9.alike⟩, hS.F ht⟩) hS.2.2 dX12_goes_95 hlocks
            · have c6i : x3.toInt = 5 := eq_v rfl rfl c6
              refine lv_sipush (v := 588) hx hb dX12_goes_61 (by decide +kernel) ?_
              refine lv_goto (tgt := 70) hx hb dX12_goes_64 (by decide) ?_
              refine lv_istore (lv' := [(4, .int (588 : Int32)), (3, .int ((x2 - x1) / (2 : Int32))), (0, .int x1), (1, .int x2), (2, .int x3)]) hx hb dX12_goes_70 hl (by decide) rfl (fun ls hl => ?_)
              refine lv_iload_n hx hb dX12_goes_72 rfl (lv_at hl 2 rfl) ?_
              refine lv_iload_n hx hb dX12_goes_73 rfl (lv_at hl 1 rfl) ?_
              refine lv_iadd hx hb dX12_goes_74 ?_
              refine lv_iload hx hb dX12_goes_75 (lv_at hl 0 rfl) ?_
              refine lv_imul hx hb dX12_goes_77 ?_
              refine lv_sipush (v := 1000) hx hb dX12_goes_78 (by decide +kernel) ?_
              refine lv_iload_n hx hb dX12_goes_81 rfl (lv_at hl 1 rfl) ?_
              refine lv_iconst (v := 2) hx hb dX12_goes_82 (by decide) ?_
              refine lv_iadd hx hb dX12_goes_83 ?_
              refine lv_imul hx hb dX12_goes_84 ?_
              refine lv_icmp_le (tgt := 93) hx hb dX12_goes_85 (by decide) (fun c8 => ?_) (fun c8 => ?_)
              · have c8i : ((x1 + ((x2 - x1) / (2 : Int32))) * (588 : Int32)).toInt ≤ ((1000 : Int32) * (((x2 - x1) / (2 : Int32)) + (2 : Int32))).toInt := le_v rfl rfl c8
                refine lv_bipush (v := 114) hx hb dX12_goes_93 (by decide +kernel) ?_
                refine W.widen (k := 0) (n := 0) (Nat.le_of_ble_eq_true rfl) (Nat.le_of_ble_eq_true rfl) ?_
                exact W.zret (v := (114 : Int32)) hx hb hr (by rfl) (fun t ht hW9 => ⟨⟨(114 : Int32), (), rfl, ⟨(by show (114 : Int32) = f_X12_goes x1 x2 x3; unfold f_X12_goes; rw [if_pos c1, if_pos c2, if_pos c3, if_neg c4, if_neg c5, if_pos c6, if_pos c8]), (by rfl)⟩, wd_end hP hK hD ht hW9.alike⟩, hS.F ht⟩) hS.2.2 dX12_goes_95 hlocks
              · have c8i : ((1000 : Int32) * (((x2 - x1) / (2 : Int32)) + (2 : Int32))).toInt < ((x1 + ((x2 - x1) / (2 : Int32))) * (588 : Int32)).toInt := nle_v rfl rfl c8
                refine lv_bipush (v := 103) hx hb dX12_goes_88 (by decide +kernel) ?_
                refine lv_goto (tgt := 95) hx hb dX12_goes_90 (by decide) ?_
                refine W.widen (k := 0) (n := 0) (Nat.le_of_ble_eq_true rfl) (Nat.le_of_ble_eq_true rfl) ?_
                exact W.zret (v := (103 : Int32)) hx hb hr (by rfl) (fun t ht hW9 => ⟨⟨(103 : Int32), (), rfl, ⟨(by show (103 : Int32) = f_X12_goes x1 x2 x3; unfold f_X12_goes; rw [if_pos c1, if_pos c2, if_pos c3, if_neg c4, if_neg c5, if_pos c6, if_neg c8]), (by rfl)⟩, wd_end hP hK hD ht hW9.alike⟩, hS.F ht⟩) hS.2.2 dX12_goes_95 hlocks
          · have c5i : x3.toInt = 4 := eq_v rfl rfl c5
            refine lv_sipush (v := 707) hx hb dX12_goes_50 (by decide +kernel) ?_
            refine lv_goto (tgt := 70) hx hb dX12_goes_53 (by decide) ?_
            refine lv_istore (lv' := [(4, .int (707 : Int32)), (3, .int ((x2 - x1) / (2 : Int32))), (0, .int x1), (1, .int x2), (2, .int x3)]) hx hb dX12_goes_70 hl (by decide) rfl (fun ls hl => ?_)
            refine lv_iload_n hx hb dX12_goes_72 rfl (lv_at hl 2 rfl) ?_
            refine lv_iload_n hx hb dX12_goes_73 rfl (lv_at hl 1 rfl) ?_
            refine lv_iadd hx hb dX12_goes_74 ?_
            refine lv_iload hx hb dX12_goes_75 (lv_at hl 0 rfl) ?_
            refine lv_imul hx hb dX12_goes_77 ?_
            refine lv_sipush (v := 1000) hx hb dX12_goes_78 (by decide +kernel) ?_
            refine lv_iload_n hx hb dX12_goes_81 rfl (lv_at hl 1 rfl) ?_
            refine lv_iconst (v := 2) hx hb dX12_goes_82 (by decide) ?_
            refine lv_iadd hx hb dX12_goes_83 ?_
            refine lv_imul hx hb dX12_goes_84 ?_
            refine lv_icmp_le (tgt := 93) hx hb dX12_goes_85 (by decide) (fun c9 => ?_) (fun c9 => ?_)
            · have c9i : ((x1 + ((x2 - x1) / (2 : Int32))) * (707 : Int32)).toInt ≤ ((1000 : Int32) * (((x2 - x1) / (2 : Int32)) + (2 : Int32))).toInt := le_v rfl rfl c9
              refine lv_bipush (v := 114) hx hb dX12_goes_93 (by decide +kernel) ?_
              refine W.widen (k := 0) (n := 0) (Nat.le_of_ble_eq_true rfl) (Nat.le_of_ble_eq_true rfl) ?_
              exact W.zret (v := (114 : Int32)) hx hb hr (by rfl) (fun t ht hW9 => ⟨⟨(114 : Int32), (), rfl, ⟨(by show (114 : Int32) = f_X12_goes x1 x2 x3; unfold f_X12_goes; rw [if_pos c1, if_pos c2, if_pos c3, if_neg c4, if_pos c5, if_pos c9]), (by rfl)⟩, wd_end hP hK hD ht hW9.alike⟩, hS.F ht⟩) hS.2.2 dX12_goes_95 hlocks
            · have c9i : ((1000 : Int32) * (((x2 - x1) / (2 : Int32)) + (2 : Int32))).toInt < ((x1 + ((x2 - x1) / (2 : Int32))) * (707 : Int32)).toInt := nle_v rfl rfl c9
              refine lv_bipush (v := 103) hx hb dX12_goes_88 (by decide +kernel) ?_
              refine lv_goto (tgt := 95) hx hb dX12_goes_90 (by decide) ?_
              refine W.widen (k := 0) (n := 0) (Nat.le_of_ble_eq_true rfl) (Nat.le_of_ble_eq_true rfl) ?_
              exact W.zret (v := (103 : Int32)) hx hb hr (by rfl) (fun t ht hW9 => ⟨⟨(103 : Int32), (), rfl, ⟨(by show (103 : Int32) = f_X12_goes x1 x2 x3; unfold f_X12_goes; rw [if_pos c1, if_pos c2, if_pos c3, if_neg c4, if_pos c5, if_neg c9]), (by rfl)⟩, wd_end hP hK hD ht hW9.alike⟩, hS.F ht⟩) hS.2.2 dX12_goes_95 hlocks
        · have c4i : x3.toInt = 3 := eq_v rfl rfl c4
          refine lv_sipush (v := 866) hx hb dX12_goes_39 (by decide +kernel) ?_
          refine lv_goto (tgt := 70) hx hb dX12_goes_42 (by decide) ?_
          refine lv_istore (lv' := [(4, .int (866 : Int32)), (3, .int ((x2 - x1) / (2 : Int32))), (0, .int x1), (1, .int x2), (2, .int x3)]) hx hb dX12_goes_70 hl (by decide) rfl (fun ls hl => ?_)
          refine lv_iload_n hx hb dX12_goes_72 rfl (lv_at hl 2 rfl) ?_
          refine lv_iload_n hx hb dX12_goes_73 rfl (lv_at hl 1 rfl) ?_
          refine lv_iadd hx hb dX12_goes_74 ?_
          refine lv_iload hx hb dX12_goes_75 (lv_at hl 0 rfl) ?_
          refine lv_imul hx hb dX12_goes_77 ?_
          refine lv_sipush (v := 1000) hx hb dX12_goes_78 (by decide +kernel) ?_
          refine lv_iload_n hx hb dX12_goes_81 rfl (lv_at hl 1 rfl) ?_
          refine lv_iconst (v := 2) hx hb dX12_goes_82 (by decide) ?_
          refine lv_iadd hx hb dX12_goes_83 ?_
          refine lv_imul hx hb dX12_goes_84 ?_
          refine lv_icmp_le (tgt := 93) hx hb dX12_goes_85 (by decide) (fun c10 => ?_) (fun c10 => ?_)
          · have c10i : ((x1 + ((x2 - x1) / (2 : Int32))) * (866 : Int32)).toInt ≤ ((1000 : Int32) * (((x2 - x1) / (2 : Int32)) + (2 : Int32))).toInt := le_v rfl rfl c10
            refine lv_bipush (v := 114) hx hb dX12_goes_93 (by decide +kernel) ?_
            refine W.widen (k := 0) (n := 0) (Nat.le_of_ble_eq_true rfl) (Nat.le_of_ble_eq_true rfl) ?_
            exact W.zret (v := (114 : Int32)) hx hb hr (by rfl) (fun t ht hW9 => ⟨⟨(114 : Int32), (), rfl, ⟨(by show (114 : Int32) = f_X12_goes x1 x2 x3; unfold f_X12_goes; rw [if_pos c1, if_pos c2, if_pos c3, if_pos c4, if_pos c10]), (by rfl)⟩, wd_end hP hK hD ht hW9.alike⟩, hS.F ht⟩) hS.2.2 dX12_goes_95 hlocks
          · have c10i : ((1000 : Int32) * (((x2 - x1) / (2 : Int32)) + (2 : Int32))).toInt < ((x1 + ((x2 - x1) / (2 : Int32))) * (866 : Int32)).toInt := nle_v rfl rfl c10
            refine lv_bipush (v := 103) hx hb dX12_goes_88 (by decide +kernel) ?_
            refine lv_goto (tgt := 95) hx hb dX12_goes_90 (by decide) ?_
            refine W.widen (k := 0) (n := 0) (Nat.le_of_ble_eq_true rfl) (Nat.le_of_ble_eq_true rfl) ?_
            exact W.zret (v := (103 : Int32)) hx hb hr (by rfl) (fun t ht hW9 => ⟨⟨(103 : Int32), (), rfl, ⟨(by show (103 : Int32) = f_X12_goes x1 x2 x3; unfold f_X12_goes; rw [if_pos c1, if_pos c2, if_pos c3, if_pos c4, if_neg c10]), (by rfl)⟩, wd_end hP hK hD ht hW9.alike⟩, hS.F ht⟩) hS.2.2 dX12_goes_95 hlocks
      · have c3i : ¬ ((x1 + x2) - (x1 + x2) / x3 * x3).toInt = 0 := neq_v rfl rfl c3
        refine lv_bipush (v := 97) hx hb dX12_goes_31 (by decide +kernel) ?_
        refine W.widen (k := 0) (n := 0) (Nat.le_of_ble_eq_true rfl) (Nat.le_of_ble_eq_true rfl) ?_
        exact W.zret (v := (97 : Int32)) hx hb hr (by rfl) (fun t ht hW9 => ⟨⟨(97 : Int32), (), rfl, ⟨(by show (97 : Int32) = f_X12_goes x1 x2 x3; unfold f_X12_goes; rw [if_pos c1, if_pos c2, if_neg c3]), (by rfl)⟩, wd_end hP hK hD ht hW9.alike⟩, hS.F ht⟩) hS.2.2 dX12_goes_33 hlocks
    · have c2i : ((x2 - x1) / (2 : Int32)).toInt < 6 := nle_v rfl rfl c2
      refine lv_bipush (v := 119) hx hb dX12_goes_20 (by decide +kernel) ?_
      refine W.widen (k := 0) (n := 0) (Nat.le_of_ble_eq_true rfl) (Nat.le_of_ble_eq_true rfl) ?_
      exact W.zret (v := (119 : Int32)) hx hb hr (by rfl) (fun t ht hW9 => ⟨⟨(119 : Int32), (), rfl, ⟨(by show (119 : Int32) = f_X12_goes x1 x2 x3; unfold f_X12_goes; rw [if_pos c1, if_neg c2]), (by rfl)⟩, wd_end hP hK hD ht hW9.alike⟩, hS.F ht⟩) hS.2.2 dX12_goes_22 hlocks
def f_X12_planets (S : wPS) (o1 : Nat) (x1 : Int32) (x2 : Int32) (x3 : Int32) : (Int32 × wPS) := if (f_X12_in x1.toInt64 (6 : Int64) (200 : Int64)) = (0 : Int32) then l1 (S.sI o1 15 (1 : Int32)) (fun S7 => if (S7.I o1 15) = (0 : Int32) then (f_X12_goes x1 x2 x3, S7) else ((0 : Int32), S7)) else if (f_X12_in x2.toInt64 ((x1 + (1 : Int32)).toInt64) (600 : Int64)) = (0 : Int32) then l1 (S.sI o1 15 (1 : Int32)) (fun S24 => if (S24.I o1 15) = (0 : Int32) then (f_X12_goes x1 x2 x3, S24) else ((0 : Int32), S24)) else if (f_X12_in x3.toInt64 (3 : Int64) (6 : Int64)) = (0 : Int32) then l1 (S.sI o1 15 (1 : Int32)) (fun S39 => if (S39.I o1 15) = (0 : Int32) then (f_X12_goes x1 x2 x3, S39) else ((0 : Int32), S39)) else l1 (S.sI o1 15 (0 : Int32)) (fun S49 => if (S49.I o1 15) = (0 : Int32) then (f_X12_goes x1 x2 x3, S49) else ((0 : Int32), S49))
theorem hi_X12_planets_X12 : ∀ w ∈ u_ws RX12 TX12 34, w ∈ wsX12_planets := by decide +kernel
theorem hd_X12_planets : yX12_planets.cls = RX12 ∧ yX12_planets.cls ≠ "java/lang/invoke/MethodHandle" ∧ yX12_planets.cls ≠ "java/lang/invoke/VarHandle" ∧ (parseMethodDescriptor yX12_planets.desc).map (fun d => d.parameters.length) = some 3 := by decide +kernel
set_option maxHeartbeats 4000000 in
set_option maxRecDepth 100000 in
theorem c_X12_planets (l : Launch) {D : va_G} {cy : Nat → ClassId} {X : va_W} (S : wPS) (sz : Nat) (o1 : Nat) (h_o1 : isA S o1 12) (x1 : Int32) (x2 : Int32) (x3 : Int32) (hW : wtB S [])  : Met l yX12_planets wsX12_planets ({ frames := 1, cells := 0, slots := 0, locals := 25 }) (va_Pc [.ref o1, .int x1, .int x2, .int x3] (fun U => U.heap.size = sz ∧ WD D cy X (fun _ => True) S U ∧ NW U)) (va_Qi (fun r (u : wPS) => (r, u) = f_X12_planets S o1 x1 x2 x3 ∧ stp [(12, 15)] [] [] S u ∧ narrow .char (.int r) = .int r) (fun u t => WD D cy X (va_A (X ++ PL cy S) sz) u t) (va_A (X ++ PL cy S) sz)) 0 0 (va_A (X ++ PL cy S) sz) := by
  refine Met.ofW (cc := cX12_planets) (maxL := 4) (ret := (some .char)) (by decide) rfl ?_
  intro p e s m args below meth c s₁ B hml hv
  obtain ⟨rfl, hsz, ⟨hP, hK, hD0⟩, hN⟩ := hv
  have hx := B.exec
  have hb := B.bytes
  have hr := B.returns
  have hts := atoms_spec (ws := wsX12_planets) B.pre
  have hown : s.vm.findClass RX12 = some m.cls := findClass_of_methodNamed (x := yX12_planets) B.named
  have hlocks := B.notSynchronized
  subst hsz
  have hD := hD0.self (sz := s.heap.size)
  generalize hAe : va_A (X ++ PL cy S) s.heap.size = A at hD ⊢
  have hA : ∀ q : Nat, s.heap.size ≤ q → A q := fun q h => by rw [← hAe]; exact Or.inr h
  have hS : va_S A s.heap s.heap [] := va_S.rf
  have hl := lv_entry ([.ref o1, .int x1, .int x2, .int x3]) (n := 4) (Nat.le_of_ble_eq_true rfl)
  rw [lg_entry_eq]
  generalize (lg_sl ([.ref o1, .int x1, .int x2, .int x3]) ++ List.replicate (4 - (lg_sl ([.ref o1, .int x1, .int x2, .int x3])).length) Slot.unset).toArray = ls at hl ⊢
  have hl : lv_has ls 4 [(0, .ref o1), (1, .int x1), (2, .int x2), (3, .int x3)] := hl
  have t0 : stp [(12, 15)] [] [] S S := stp.rf hW
  refine lv_aload_n hx hb dX12_planets_0 rfl (lv_at hl 0 rfl) ?_
  refine lv_iload_n hx hb dX12_planets_1 rfl (lv_at hl 1 rfl) ?_
  refine lv_i2l hx hb dX12_planets_2 rfl ?_
  refine lv_ldc2 (own := RX12) (v := 6) hx hb hown (hts (.constantLong RX12 129 (6)) (by decide +kernel)) dX12_planets_3 ?_
  refine lv_ldc2 (own := RX12) (v := 200) hx hb hown (hts (.constantLong RX12 131 (200)) (by decide +kernel)) dX12_planets_6 ?_
  have hFc := free_all hD hS hA
  refine va_calli (va_runS (As := [.long x1.toInt64, .long (6 : Int64), .long (200 : Int64)]) (rest := [.ref o1]) ⟨hx, hb, hml, hown, hts⟩ (c_X12_in l (cy := cy) (X := X) (D := D) S _ x1.toInt64 (6 : Int64) (200 : Int64)) (cwS 3 hts gX12_planets_X12_in rfl rfl rfl hd_X12_in ⟨Nat.le_of_ble_eq_true rfl, Nat.le_of_ble_eq_true rfl⟩) (pS hP hK hD hN) rfl rfl hl.1 rfl (lv_room (Nat.le_of_ble_eq_true rfl)) dX12_planets_9 ⟨(Nat.zero_le _), (Nat.zero_le _)⟩) hS (fun q _ h => hFc q h) hFc (fun r1 u t H1 locs ht hvm hw hB hz1 hk1 hS => ?_)
  have c2 := hw
  obtain ⟨hP, hD⟩ := wd_post hFc ht hB
  generalize H1 = H at hP hS ⊢
  obtain rfl : f_X12_in x1.toInt64 (6 : Int64) (200 : Int64) = r1 := c2.symm
  have i3 := i64_i x1
  have l64_6 : (6 : Int64).toInt = 6 := rfl
  have l64_200 : (200 : Int64).toInt = 200 := rfl
  have i4 := in_rng x1.toInt64 (6 : Int64) (200 : Int64)
  refine lv_if_eq (tgt := 48) hx hb dX12_planets_12 (by decide) (fun c5 => ?_) (fun c5 => ?_)
  · have c5i : (f_X12_in x1.toInt64 (6 : Int64) (200 : Int64)).toInt = 0 := eq_v rfl rfl c5
    refine lv_iconst (v := 1) hx hb dX12_planets_48 (by decide) ?_
    obtain ⟨k6, gk6, hk6⟩ := wGt (cy := cy) X S h_o1.1 h_o1.2.1
    refine va_put (D := D) (ci := 16) (v := .int (1 : Int32)) (ty := .int) (C := RX12) (T := TX12) (N := 34) hx hb hts hi_X12_planets_X12 tyX12 tyX12_ok nmX12 hown hK hP hD hS k6 hk6 rfl 15 (by decide) (hts (.fieldLink RX12 94 "HobhouseModel" "thrown" "I") (by decide +kernel)) (fun _ h9 => h9) rfl (by decide +kernel) (rfl) (rfl) (Nat.le_of_ble_eq_true rfl) dX12_planets_49 (fun H locs hP2 hD2 hS => ?_)
    have e9 := wPuI (cy := cy) (j := 15) (v := (1 : Int32)) hD h_o1.1 h_o1.2.1 gk6 rfl
    obtain ⟨S7, hS7⟩ : ∃ z, S.sI o1 15 (1 : Int32) = z := ⟨_, rfl⟩
    have hP : va_P D vwCl (X ++ PL cy S7) H := by rw [← hS7, ← e9]; exact hP2
    have hD : va_D A (X ++ PL cy S7) := by rw [← hS7, ← e9]; exact hD2
    have xe8 : ext S S7 := by rw [← hS7]; exact ext.sI _ _ _ _
    have t9 : stp [(12, 15)] [] [] S S7 := by rw [← hS7]; exact t0.I 15 (1 : Int32) h_o1 (by decide) (trivial) (Or.inl (by decide))
    have k10 : (S7.I o1 15).toInt = (1 : Int32).toInt := by rw [← hS7, sI_eq]
    refine lv_aload_n hx hb dX12_planets_52 rfl (lv_at hl 0 rfl) ?_
    have l0 : (0 : Int32).toInt = 0 := rfl
    have l1 : (1 : Int32).toInt = 1 := rfl
    obtain ⟨k11, gk11, hk11⟩ := wGt (cy := cy) X S7 (xe8.A h_o1).1 (xe8.A h_o1).2.1
    refine va_get (D := D) (ci := 16) (v := .int (S7.I o1 15)) (C := RX12) (T := TX12) (N := 34) hx hb hts hi_X12_planets_X12 hown hK hP k11 hk11 rfl 15 (by decide) (hts (.fieldLink RX12 94 "HobhouseModel" "thrown" "I") (by decide +kernel)) (fun _ h9 => h9) rfl dX12_planets_53 ?_
    refine lv_if_ne (tgt := 68) hx hb dX12_planets_56 (by decide) (fun c12 => ?_) (fun c12 => ?_)
    · have c12i : ¬ (S7.I o1 15).toInt = 0 := neq_v rfl rfl c12
      refine lv_iconst (v := 0) hx hb dX12_planets_68 (by decide) ?_
      refine W.widen (k := 0) (n := 0) (Nat.le_of_ble_eq_true rfl) (Nat.le_of_ble_eq_true rfl) ?_
      exact W.zret (v := (0 : Int32)) hx hb hr (by rfl) (fun t ht hW9 => ⟨⟨(0 : Int32), S7, rfl, ⟨(by show ((0 : Int32), S7) = f_X12_planets S o1 x1 x2 x3; unfold f_X12_planets; rw [if_pos c5, l1_eq hS7, if_neg c12]), t9, (by rfl)⟩, wd_end hP hK hD ht hW9.alike⟩, hS.F ht⟩) hS.2.2 dX12_planets_69 hlocks
    · have c12i : (S7.I o1 15).toInt = 0 := eq_v rfl rfl c12
      refine lv_iload_n hx hb dX12_planets_59 rfl (lv_at hl 1 rfl) ?_
      refine lv_iload_n hx hb dX12_planets_60 rfl (lv_at hl 2 rfl) ?_
      refine lv_iload_n hx hb dX12_planets_61 rfl (lv_at hl 3 rfl) ?_
      have hFc := free_all hD hS hA
      refine va_calli (va_runS (As := [.int x1, .int x2, .int x3]) (rest := []) ⟨hx, hb, hml, hown, hts⟩ (c_X12_goes l (cy := cy) (X := X) (D := D) S7 _ x1 x2 x3 (by omega)) (cwS 3 hts gX12_planets_X12_goes rfl rfl rfl hd_X12_goes ⟨Nat.le_of_ble_eq_true rfl, Nat.le_of_ble_eq_true rfl⟩) (pS hP hK hD hN) rfl rfl hl.1 rfl (lv_room (Nat.le_of_ble_eq_true rfl)) dX12_planets_62 ⟨(Nat.zero_le _), (Nat.zero_le _)⟩) hS (fun q _ h => hFc q h) hFc (fun r13 u t H1 locs ht hvm hw hB hz1 hk1 hS => ?_)
      obtain ⟨c14, y15⟩ := hw
      obtain ⟨hP, hD⟩ := wd_post hFc ht hB
      generalize H1 = H at hP hS ⊢
      obtain rfl : f_X12_goes x1 x2 x3 = r13 := c14.symm
      refine lv_goto (tgt := 69) hx hb dX12_planets_65 (by decide) ?_
      refine W.widen (k := 0) (n := 0) (Nat.le_of_ble_eq_true rfl) (Nat.le_of_ble_eq_true rfl) ?_
      exact W.zret (v := f_X12_goes x1 x2 x3) hx hb hr (y15) (fun t ht hW9 => ⟨⟨f_X12_goes x1 x2 x3, S7, rfl, ⟨(by show (f_X12_goes x1 x2 x3, S7) = f_X12_planets S o1 x1 x2 x3; unfold f_X12_planets; rw [if_pos c5, l1_eq hS7, if_pos c12]), t9, (y15)⟩, wd_end hP hK hD ht hW9.alike⟩, hS.F ht⟩) hS.2.2 dX12_planets_69 hlocks
  · have c5i : ¬ (f_X12_in x1.toInt64 (6 : Int64) (200 : Int64)).toInt = 0 := neq_v rfl rfl c5
    refine lv_iload_n hx hb dX12_planets_15 rfl (lv_at hl 2 rfl) ?_
    refine lv_i2l hx hb dX12_planets_16 rfl ?_
    refine lv_iload_n hx hb dX12_planets_17 rfl (lv_at hl 1 rfl) ?_
    refine lv_iconst (v := 1) hx hb dX12_planets_18 (by decide) ?_
    refine lv_iadd hx hb dX12_planets_19 ?_
    refine lv_i2l hx hb dX12_planets_20 rfl ?_
    refine lv_ldc2 (own := RX12) (v := 600) hx hb hown (hts (.constantLong RX12 272 (600)) (by decide +kernel)) dX12_planets_21 ?_
    have hFc := free_all hD hS hA
    refine va_calli (va_runS (As := [.long x2.toInt64, .long ((x1 + (1 : Int32)).toInt64), .long (600 : Int64)]) (rest := [.ref o1]) ⟨hx, hb, hml, hown, hts⟩ (c_X12_in l (cy := cy) (X := X) (D := D) S _ x2.toInt64 ((x1 + (1 : Int32)).toInt64) (600 : Int64)) (cwS 3 hts gX12_planets_X12_in rfl rfl rfl hd_X12_in ⟨Nat.le_of_ble_eq_true rfl, Nat.le_of_ble_eq_true rfl⟩) (pS hP hK hD hN) rfl rfl hl.1 rfl (lv_room (Nat.le_of_ble_eq_true rfl)) dX12_planets_24 ⟨(Nat.zero_le _), (Nat.zero_le _)⟩) hS (fun q _ h => hFc q h) hFc (fun r16 u t H1 locs ht hvm hw hB hz1 hk1 hS => ?_)
    have c17 := hw
    obtain ⟨hP, hD⟩ := wd_post hFc ht hB
    generalize H1 = H at hP hS ⊢
    obtain rfl : f_X12_in x2.toInt64 ((x1 + (1 : Int32)).toInt64) (600 : Int64) = r16 := c17.symm
    have i18 := i64_i x2
    have l32_1 : (1 : Int32).toInt = 1 := rfl
    have i19 : (x1 + (1 : Int32)).toInt = x1.toInt + 1 := t_addr (n := 1) rfl (by omega)
    have i20 := i64_i (x1 + (1 : Int32))
    have l64_600 : (600 : Int64).toInt = 600 := rfl
    have i21 := in_rng x2.toInt64 ((x1 + (1 : Int32)).toInt64) (600 : Int64)
    refine lv_if_eq (tgt := 48) hx hb dX12_planets_27 (by decide) (fun c22 => ?_) (fun c22 => ?_)
    · have c22i : (f_X12_in x2.toInt64 ((x1 + (1 : Int32)).toInt64) (600 : Int64)).toInt = 0 := eq_v rfl rfl c22
      refine lv_iconst (v := 1) hx hb dX12_planets_48 (by decide) ?_
      obtain ⟨k23, gk23, hk23⟩ := wGt (cy := cy) X S h_o1.1 h_o1.2.1
      refine va_put (D := D) (ci := 16) (v := .int (1 : Int32)) (ty := .int) (C := RX12) (T := TX12) (N := 34) hx hb hts hi_X12_planets_X12 tyX12 tyX12_ok nmX12 hown hK hP hD hS k23 hk23 rfl 15 (by decide) (hts (.fieldLink RX12 94 "HobhouseModel" "thrown" "I") (by decide +kernel)) (fun _ h9 => h9) rfl (by decide +kernel) (rfl) (rfl) (Nat.le_of_ble_eq_true rfl) dX12_planets_49 (fun H locs hP2 hD2 hS => ?_)
      have e9 := wPuI (cy := cy) (j := 15) (v := (1 : Int32)) hD h_o1.1 h_o1.2.1 gk23 rfl
      obtain ⟨S24, hS24⟩ : ∃ z, S.sI o1 15 (1 : Int32) = z := ⟨_, rfl⟩
      have hP : va_P D vwCl (X ++ PL cy S24) H := by rw [← hS24, ← e9]; exact hP2
      have hD : va_D A (X ++ PL cy S24) := by rw [← hS24, ← e9]; exact hD2
      have xe25 : ext S S24 := by rw [← hS24]; exact ext.sI _ _ _ _
      have t26 : stp [(12, 15)] [] [] S S24 := by rw [← hS24]; exact t0.I 15 (1 : Int32) h_o1 (by decide) (trivial) (Or.inl (by decide))
      have k27 : (S24.I o1 15).toInt = (1 : Int32).toInt := by rw [← hS24, sI_eq]
      refine lv_aload_n hx hb dX12_planets_52 rfl (lv_at hl 0 rfl) ?_
      have l0 : (0 : Int32).toInt = 0 := rfl
      have l1 : (1 : Int32).toInt = 1 := rfl
      obtain ⟨k28, gk28, hk28⟩ := wGt (cy := cy) X S24 (xe25.A h_o1).1 (xe25.A h_o1).2.1
      refine va_get (D := D) (ci := 16) (v := .int (S24.I o1 15)) (C := RX12) (T := TX12) (N := 34) hx hb hts hi_X12_planets_X12 hown hK hP k28 hk28 rfl 15 (by decide) (hts (.fieldLink RX12 94 "HobhouseModel" "thrown" "I") (by decide +kernel)) (fun _ h9 => h9) rfl dX12_planets_53 ?_
      refine lv_if_ne (tgt := 68) hx hb dX12_planets_56 (by decide) (fun c29 => ?_) (fun c29 => ?_)
      · have c29i : ¬ (S24.I o1 15).toInt = 0 := neq_v rfl rfl c29
        refine lv_iconst (v := 0) hx hb dX12_planets_68 (by decide) ?_
        refine W.widen (k := 0) (n := 0) (Nat.le_of_ble_eq_true rfl) (Nat.le_of_ble_eq_true rfl) ?_
        exact W.zret (v := (0 : Int32)) hx hb hr (by rfl) (fun t ht hW9 => ⟨⟨(0 : Int32), S24, rfl, ⟨(by show ((0 : Int32), S24) = f_X12_planets S o1 x1 x2 x3; unfold f_X12_planets; rw [if_neg c5, if_pos c22, l1_eq hS24, if_neg c29]), t26, (by rfl)⟩, wd_end hP hK hD ht hW9.alike⟩, hS.F ht⟩) hS.2.2 dX12_planets_69 hlocks
      · have c29i : (S24.I o1 15).toInt = 0 := eq_v rfl rfl c29
        refine lv_iload_n hx hb dX12_planets_59 rfl (lv_at hl 1 rfl) ?_
        refine lv_iload_n hx hb dX12_planets_60 rfl (lv_at hl 2 rfl) ?_
        refine lv_iload_n hx hb dX12_planets_61 rfl (lv_at hl 3 rfl) ?_
        have hFc := free_all hD hS hA
        refine va_calli (va_runS (As := [.int x1, .int x2, .int x3]) (rest := []) ⟨hx, hb, hml, hown, hts⟩ (c_X12_goes l (cy := cy) (X := X) (D := D) S24 _ x1 x2 x3 (by omega)) (cwS 3 hts gX12_planets_X12_goes rfl rfl rfl hd_X12_goes ⟨Nat.le_of_ble_eq_true rfl, Nat.le_of_ble_eq_true rfl⟩) (pS hP hK hD hN) rfl rfl hl.1 rfl (lv_room (Nat.le_of_ble_eq_true rfl)) dX12_planets_62 ⟨(Nat.zero_le _), (Nat.zero_le _)⟩) hS (fun q _ h => hFc q h) hFc (fun r30 u t H1 locs ht hvm hw hB hz1 hk1 hS => ?_)
        obtain ⟨c31, y32⟩ := hw
        obtain ⟨hP, hD⟩ := wd_post hFc ht hB
        generalize H1 = H at hP hS ⊢
        obtain rfl : f_X12_goes x1 x2 x3 = r30 := c31.symm
        refine lv_goto (tgt := 69) hx hb dX12_planets_65 (by decide) ?_
        refine W.widen (k := 0) (n := 0) (Nat.le_of_ble_eq_true rfl) (Nat.le_of_ble_eq_true rfl) ?_
        exact W.zret (v := f_X12_goes x1 x2 x3) hx hb hr (y32) (fun t ht hW9 => ⟨⟨f_X12_goes x1 x2 x3, S24, rfl, ⟨(by show (f_X12_goes x1 x2 x3, S24) = f_X12_planets S o1 x1 x2 x3; unfold f_X12_planets; rw [if_neg c5, if_pos c22, l1_eq hS24, if_pos c29]), t26, (y32)⟩, wd_end hP hK hD ht hW9.alike⟩, hS.F ht⟩) hS.2.2 dX12_planets_69 hlocks
    · have c22i : ¬ (f_X12_in x2.toInt64 ((x1 + (1 : Int32)).toInt64) (600 : Int64)).toInt = 0 := neq_v rfl rfl c22
      refine lv_iload_n hx hb dX12_planets_30 rfl (lv_at hl 3 rfl) ?_
      refine lv_i2l hx hb dX12_planets_31 rfl ?_
      refine lv_ldc2 (own := RX12) (v := 3) hx hb hown (hts (.constantLong RX12 247 (3)) (by decide +kernel)) dX12_planets_32 ?_
      refine lv_ldc2 (own := RX12) (v := 6) hx hb hown (hts (.constantLong RX12 129 (6)) (by decide +kernel)) dX12_planets_35 ?_
      have hFc := free_all hD hS hA
      refine va_calli (va_runS (As := [.long x3.toInt64, .long (3 : Int64), .long (6 : Int64)]) (rest := [.ref o1]) ⟨hx, hb, hml, hown, hts⟩ (c_X12_in l (cy := cy) (X := X) (D := D) S _ x3.toInt64 (3 : Int64) (6 : Int64)) (cwS 3 hts gX12_planets_X12_in rfl rfl rfl hd_X12_in ⟨Nat.le_of_ble_eq_true rfl, Nat.le_of_ble_eq_true rfl⟩) (pS hP hK hD hN) rfl rfl hl.1 rfl (lv_room (Nat.le_of_ble_eq_true rfl)) dX12_planets_38 ⟨(Nat.zero_le _), (Nat.zero_le _)⟩) hS (fun q _ h => hFc q h) hFc (fun r33 u t H1 locs ht hvm hw hB hz1 hk1 hS => ?_)
      have c34 := hw
      obtain ⟨hP, hD⟩ := wd_post hFc ht hB
      generalize H1 = H at hP hS ⊢
      obtain rfl : f_X12_in x3.toInt64 (3 : Int64) (6 : Int64) = r33 := c34.symm
      have i35 := i64_i x3
      have l64_3 : (3 : Int64).toInt = 3 := rfl
      have i36 := in_rng x3.toInt64 (3 : Int64) (6 : Int64)
      refine lv_if_eq (tgt := 48) hx hb dX12_planets_41 (by decide) (fun c37 => ?_) (fun c37 => ?_)
      · have c37i : (f_X12_in x3.toInt64 (3 : Int64) (6 : Int64)).toInt = 0 := eq_v rfl rfl c37
        refine lv_iconst (v := 1) hx hb dX12_planets_48 (by decide) ?_
        obtain ⟨k38, gk38, hk38⟩ := wGt (cy := cy) X S h_o1.1 h_o1.2.1
        refine va_put (D := D) (ci := 16) (v := .int (1 : Int32)) (ty := .int) (C := RX12) (T := TX12) (N := 34) hx hb hts hi_X12_planets_X12 tyX12 tyX12_ok nmX12 hown hK hP hD hS k38 hk38 rfl 15 (by decide) (hts (.fieldLink RX12 94 "HobhouseModel" "thrown" "I") (by decide +kernel)) (fun _ h9 => h9) rfl (by decide +kernel) (rfl) (rfl) (Nat.le_of_ble_eq_true rfl) dX12_planets_49 (fun H locs hP2 hD2 hS => ?_)
        have e9 := wPuI (cy := cy) (j := 15) (v := (1 : Int32)) hD h_o1.1 h_o1.2.1 gk38 rfl
        obtain ⟨S39, hS39⟩ : ∃ z, S.sI o1 15 (1 : Int32) = z := ⟨_, rfl⟩
        have hP : va_P D vwCl (X ++ PL cy S39) H := by rw [← hS39, ← e9]; exact hP2
        have hD : va_D A (X ++ PL cy S39) := by rw [← hS39, ← e9]; exact hD2
        have xe40 : ext S S39 := by rw [← hS39]; exact ext.sI _ _ _ _
        have t41 : stp [(12, 15)] [] [] S S39 := by rw [← hS39]; exact t0.I 15 (1 : Int32) h_o1 (by decide) (trivial) (Or.inl (by decide))
        have k42 : (S39.I o1 15).toInt = (1 : Int32).toInt := by rw [← hS39, sI_eq]
        refine lv_aload_n hx hb dX12_planets_52 rfl (lv_at hl 0 rfl) ?_
        have l0 : (0 : Int32).toInt = 0 := rfl
        have l1 : (1 : Int32).toInt = 1 := rfl
        obtain ⟨k43, gk43, hk43⟩ := wGt (cy := cy) X S39 (xe40.A h_o1).1 (xe40.A h_o1).2.1
        refine va_get (D := D) (ci := 16) (v := .int (S39.I o1 15)) (C := RX12) (T := TX12) (N := 34) hx hb hts hi_X12_planets_X12 hown hK hP k43 hk43 rfl 15 (by decide) (hts (.fieldLink RX12 94 "HobhouseModel" "thrown" "I") (by decide +kernel)) (fun _ h9 => h9) rfl dX12_planets_53 ?_
        refine lv_if_ne (tgt := 68) hx hb dX12_planets_56 (by decide) (fun c44 => ?_) (fun c44 => ?_)
        · have c44i : ¬ (S39.I o1 15).toInt = 0 := neq_v rfl rfl c44
          refine lv_iconst (v := 0) hx hb dX12_planets_68 (by decide) ?_
          refine W.widen (k := 0) (n := 0) (Nat.le_of_ble_eq_true rfl) (Nat.le_of_ble_eq_true rfl) ?_
          exact W.zret (v := (0 : Int32)) hx hb hr (by rfl) (fun t ht hW9 => ⟨⟨(0 : Int32), S39, rfl, ⟨(by show ((0 : Int32), S39) = f_X12_planets S o1 x1 x2 x3; unfold f_X12_planets; rw [if_neg c5, if_neg c22, if_pos c37, l1_eq hS39, if_neg c44]), t41, (by rfl)⟩, wd_end hP hK hD ht hW9.alike⟩, hS.F ht⟩) hS.2.2 dX12_planets_69 hlocks
        · have c44i : (S39.I o1 15).toInt = 0 := eq_v rfl rfl c44
          refine lv_iload_n hx hb dX12_planets_59 rfl (lv_at hl 1 rfl) ?_
          refine lv_iload_n hx hb dX12_planets_60 rfl (lv_at hl 2 rfl) ?_
          refine lv_iload_n hx hb dX12_planets_61 rfl (lv_at hl 3 rfl) ?_
          have hFc := free_all hD hS hA
          refine va_calli (va_runS (As := [.int x1, .int x2, .int x3]) (rest := []) ⟨hx, hb, hml, hown, hts⟩ (c_X12_goes l (cy := cy) (X := X) (D := D) S39 _ x1 x2 x3 (by omega)) (cwS 3 hts gX12_planets_X12_goes rfl rfl rfl hd_X12_goes ⟨Nat.le_of_ble_eq_true rfl, Nat.le_of_ble_eq_true rfl⟩) (pS hP hK hD hN) rfl rfl hl.1 rfl (lv_room (Nat.le_of_ble_eq_true rfl)) dX12_planets_62 ⟨(Nat.zero_le _), (Nat.zero_le _)⟩) hS (fun q _ h => hFc q h) hFc (fun r45 u t H1 locs ht hvm hw hB hz1 hk1 hS => ?_)
          obtain ⟨c46, y47⟩ := hw
          obtain ⟨hP, hD⟩ := wd_post hFc ht hB
          generalize H1 = H at hP hS ⊢
          obtain rfl : f_X12_goes x1 x2 x3 = r45 := c46.symm
          refine lv_goto (tgt := 69) hx hb dX12_planets_65 (by decide) ?_
          refine W.widen (k := 0) (n := 0) (Nat.le_of_ble_eq_true rfl) (Nat.le_of_ble_eq_true rfl) ?_
          exact W.zret (v := f_X12_goes x1 x2 x3) hx hb hr (y47) (fun t ht hW9 => ⟨⟨f_X12_goes x1 x2 x3, S39, rfl, ⟨(by show (f_X12_goes x1 x2 x3, S39) = f_X12_planets S o1 x1 x2 x3; unfold f_X12_planets; rw [if_neg c5, if_neg c22, if_pos c37, l1_eq hS39, if_pos c44]), t41, (y47)⟩, wd_end hP hK hD ht hW9.alike⟩, hS.F ht⟩) hS.2.2 dX12_planets_69 hlocks
      · have c37i : ¬ (f_X12_in x3.toInt64 (3 : Int64) (6 : Int64)).toInt = 0 := neq_v rfl rfl c37
        refine lv_iconst (v := 0) hx hb dX12_planets_44 (by decide) ?_
        refine lv_goto (tgt := 49) hx hb dX12_planets_45 (by decide) ?_
        obtain ⟨k48, gk48, hk48⟩ := wGt (cy := cy) X S h_o1.1 h_o1.2.1
        refine va_put (D := D) (ci := 16) (v := .int (0 : Int32)) (ty := .int) (C := RX12) (T := TX12) (N := 34) hx hb hts hi_X12_planets_X12 tyX12 tyX12_ok nmX12 hown hK hP hD hS k48 hk48 rfl 15 (by decide) (hts (.fieldLink RX12 94 "HobhouseModel" "thrown" "I") (by decide +kernel)) (fun _ h9 => h9) rfl (by decide +kernel) (rfl) (rfl) (Nat.le_of_ble_eq_true rfl) dX12_planets_49 (fun H locs hP2 hD2 hS => ?_)
        have e9 := wPuI (cy := cy) (j := 15) (v := (0 : Int32)) hD h_o1.1 h_o1.2.1 gk48 rfl
        obtain ⟨S49, hS49⟩ : ∃ z, S.sI o1 15 (0 : Int32) = z := ⟨_, rfl⟩
        have hP : va_P D vwCl (X ++ PL cy S49) H := by rw [← hS49, ← e9]; exact hP2
        have hD : va_D A (X ++ PL cy S49) := by rw [← hS49, ← e9]; exact hD2
        have xe50 : ext S S49 := by rw [← hS49]; exact ext.sI _ _ _ _
        have t51 : stp [(12, 15)] [] [] S S49 := by rw [← hS49]; exact t0.I 15 (0 : Int32) h_o1 (by decide) (trivial) (Or.inl (by decide))
        have k52 : (S49.I o1 15).toInt = (0 : Int32).toInt := by rw [← hS49, sI_eq]
        refine lv_aload_n hx hb dX12_planets_52 rfl (lv_at hl 0 rfl) ?_
        have l0 : (0 : Int32).toInt = 0 := rfl
        have l1 : (1 : Int32).toInt = 1 := rfl
        obtain ⟨k53, gk53, hk53⟩ := wGt (cy := cy) X S49 (xe50.A h_o1).1 (xe50.A h_o1).2.1
        refine va_get (D := D) (ci := 16) (v := .int (S49.I o1 15)) (C := RX12) (T := TX12) (N := 34) hx hb hts hi_X12_planets_X12 hown hK hP k53 hk53 rfl 15 (by decide) (hts (.fieldLink RX12 94 "HobhouseModel" "thrown" "I") (by decide +kernel)) (fun _ h9 => h9) rfl dX12_planets_53 ?_
        refine lv_if_ne (tgt := 68) hx hb dX12_planets_56 (by decide) (fun c54 => ?_) (fun c54 => ?_)
        · have c54i : ¬ (S49.I o1 15).toInt = 0 := neq_v rfl rfl c54
          refine lv_iconst (v := 0) hx hb dX12_planets_68 (by decide) ?_
          refine W.widen (k := 0) (n := 0) (Nat.le_of_ble_eq_true rfl) (Nat.le_of_ble_eq_true rfl) ?_
          exact W.zret (v := (0 : Int32)) hx hb hr (by rfl) (fun t ht hW9 => ⟨⟨(0 : Int32), S49, rfl, ⟨(by show ((0 : Int32), S49) = f_X12_planets S o1 x1 x2 x3; unfold f_X12_planets; rw [if_neg c5, if_neg c22, if_neg c37, l1_eq hS49, if_neg c54]), t51, (by rfl)⟩, wd_end hP hK hD ht hW9.alike⟩, hS.F ht⟩) hS.2.2 dX12_planets_69 hlocks
        · have c54i : (S49.I o1 15).toInt = 0 := eq_v rfl rfl c54
          refine lv_iload_n hx hb dX12_planets_59 rfl (lv_at hl 1 rfl) ?_
          refine lv_iload_n hx hb dX12_planets_60 rfl (lv_at hl 2 rfl) ?_
          refine lv_iload_n hx hb dX12_planets_61 rfl (lv_at hl 3 rfl) ?_
          have hFc := free_all hD hS hA
          refine va_calli (va_runS (As := [.int x1, .int x2, .int x3]) (rest := []) ⟨hx, hb, hml, hown, hts⟩ (c_X12_goes l (cy := cy) (X := X) (D := D) S49 _ x1 x2 x3 (by omega)) (cwS 3 hts gX12_planets_X12_goes rfl rfl rfl hd_X12_goes ⟨Nat.le_of_ble_eq_true rfl, Nat.le_of_ble_eq_true rfl⟩) (pS hP hK hD hN) rfl rfl hl.1 rfl (lv_room (Nat.le_of_ble_eq_true rfl)) dX12_planets_62 ⟨(Nat.zero_le _), (Nat.zero_le _)⟩) hS (fun q _ h => hFc q h) hFc (fun r55 u t H1 locs ht hvm hw hB hz1 hk1 hS => ?_)
          obtain ⟨c56, y57⟩ := hw
          obtain ⟨hP, hD⟩ := wd_post hFc ht hB
          generalize H1 = H at hP hS ⊢
          obtain rfl : f_X12_goes x1 x2 x3 = r55 := c56.symm
          refine lv_goto (tgt := 69) hx hb dX12_planets_65 (by decide) ?_
          refine W.widen (k := 0) (n := 0) (Nat.le_of_ble_eq_true rfl) (Nat.le_of_ble_eq_true rfl) ?_
          exact W.zret (v := f_X12_goes x1 x2 x3) hx hb hr (y57) (fun t ht hW9 => ⟨⟨f_X12_goes x1 x2 x3, S49, rfl, ⟨(by show (f_X12_goes x1 x2 x3, S49) = f_X12_planets S o1 x1 x2 x3; unfold f_X12_planets; rw [if_neg c5, if_neg c22, if_neg c37, l1_eq hS49, if_pos c54]), t51, (y57)⟩, wd_end hP hK hD ht hW9.alike⟩, hS.F ht⟩) hS.2.2 dX12_planets_69 hlocks
theorem hd_X12_rings : yX12_rings.cls = RX12 ∧ yX12_rings.cls ≠ "java/lang/invoke/MethodHandle" ∧ yX12_rings.cls ≠ "java/lang/invoke/VarHandle" ∧ (parseMethodDescriptor yX12_rings.desc).map (fun d => d.parameters.length) = some 4 := by decide +kernel
set_option maxHeartbeats 4000000 in
set_option maxRecDepth 100000 in
theorem c_X12_rings (l : Launch) {D : va_G} {cy : Nat → ClassId} {X : va_W} (S : wPS) (sz : Nat) (o1 : Nat) (h_o1 : isA S o1 12) (x1 : Int32) (x2 : Int32) (x3 : Int32) (x4 : Int32) (hW : wtB S [])  : Met l yX12_rings wsX12_rings ({ frames := 1, cells := 0, slots := 0, locals := 25 }) (va_Pc [.ref o1, .int x1, .int x2, .int x3, .int x4] (fun U => U.heap.size = sz ∧ WD D cy X (fun _ => True) S U ∧ NW U)) (va_Qi (fun r (u : wPS) => stp [(12, 15)] [] [] S u) (fun u t => WD D cy X (va_A (X ++ PL cy S) sz) u t) (va_A (X ++ PL cy S) sz)) 0 0 (va_A (X ++ PL cy S) sz) := by
  refine Met.ofW (cc := cX12_rings) (maxL := 8) (ret := (some .int)) (by decide) rfl ?_
  intro p e s m args below meth c s₁ B hml hv
  obtain ⟨rfl, hsz, ⟨hP, hK, hD0⟩, hN⟩ := hv
  have hx := B.exec
  have hb := B.bytes
  have hr := B.returns
  have hts := atoms_spec (ws := wsX12_rings) B.pre
  have hown : s.vm.findClass RX12 = some m.cls := findClass_of_methodNamed (x := yX12_rings) B.named
  have hlocks := B.notSynchronized
  subst hsz
  have hD := hD0.self (sz := s.heap.size)
  generalize hAe : va_A (X ++ PL cy S) s.heap.size = A at hD ⊢
  have hA : ∀ q : Nat, s.heap.size ≤ q → A q := fun q h => by rw [← hAe]; exact Or.inr h
  have hS : va_S A s.heap s.heap [] := va_S.rf
  have hl := lv_entry ([.ref o1, .int x1, .int x2, .int x3, .int x4]) (n := 8) (Nat.le_of_ble_eq_true rfl)
  rw [lg_entry_eq]
  generalize (lg_sl ([.ref o1, .int x1, .int x2, .int x3, .int x4]) ++ List.replicate (8 - (lg_sl ([.ref o1, .int x1, .int x2, .int x3, .int x4])).length) Slot.unset).toArray = ls at hl ⊢
  have hl : lv_has ls 8 [(0, .ref o1), (1, .int x1), (2, .int x2), (3, .int x3), (4, .int x4)] := hl
  have t0 : stp [(12, 15)] [] [] S S := stp.rf hW
  refine lv_iload_n hx hb dX12_rings_0 rfl (lv_at hl 1 rfl) ?_
  refine lv_i2l hx hb dX12_rings_1 rfl ?_
  refine lv_ldc2 (own := RX12) (v := 6) hx hb hown (hts (.constantLong RX12 129 (6)) (by decide +kernel)) dX12_rings_2 ?_
  refine lv_ldc2 (own := RX12) (v := 200) hx hb hown (hts (.constantLong RX12 131 (200)) (by decide +kernel)) dX12_rings_5 ?_
  have hFc := free_all hD hS hA
  refine va_calli (va_runS (As := [.long x1.toInt64, .long (6 : Int64), .long (200 : Int64)]) (rest := []) ⟨hx, hb, hml, hown, hts⟩ (c_X12_in l (cy := cy) (X := X) (D := D) S _ x1.toInt64 (6 : Int64) (200 : Int64)) (cwS 3 hts gX12_rings_X12_in rfl rfl rfl hd_X12_in ⟨Nat.le_of_ble_eq_true rfl, Nat.le_of_ble_eq_true rfl⟩) (pS hP hK hD hN) rfl rfl hl.1 rfl (lv_room (Nat.le_of_ble_eq_true rfl)) dX12_rings_8 ⟨(Nat.zero_le _), (Nat.zero_le _)⟩) hS (fun q _ h => hFc q h) hFc (fun r1 u t H1 locs ht hvm hw hB hz1 hk1 hS => ?_)
  have c2 := hw
  obtain ⟨hP, hD⟩ := wd_post hFc ht hB
  generalize H1 = H at hP hS ⊢
  obtain rfl : f_X12_in x1.toInt64 (6 : Int64) (200 : Int64) = r1 := c2.symm
  have i3 := i64_i x1
  have l64_6 : (6 : Int64).toInt = 6 := rfl
  have l64_200 : (200 : Int64).toInt = 200 := rfl
  have i4 := in_rng x1.toInt64 (6 : Int64) (200 : Int64)
  refine lv_if_eq (tgt := 56) hx hb dX12_rings_11 (by decide) (fun c5 => ?_) (fun c5 => ?_)
  · have c5i : (f_X12_in x1.toInt64 (6 : Int64) (200 : Int64)).toInt = 0 := eq_v rfl rfl c5
    refine lv_aload_n hx hb dX12_rings_56 rfl (lv_at hl 0 rfl) ?_
    refine lv_iconst (v := 1) hx hb dX12_rings_57 (by decide) ?_
    have l32_1 : (1 : Int32).toInt = 1 := rfl
    have hFc := free_all hD hS hA
    obtain ⟨k6, gk6, hk6⟩ := wGt (cy := cy) X S h_o1.1 h_o1.2.1
    refine va_calli (va_runV (As := [.int (1 : Int32)]) (rest := []) ⟨hx, hb, hml, hown, hts⟩ (c_X12_fails l (cy := cy) (X := X) (D := D) S _ o1 h_o1 (1 : Int32) (hW)) (cwV 1 hts gX12_rings_X12_fails rfl rfl rfl hd_X12_fails ⟨Nat.le_of_ble_eq_true rfl, Nat.le_of_ble_eq_true rfl⟩) (pV (va_recv hK hP (q := (RX12, TX12, 34)) (ci := 16) (q0 := k6) rfl hk6) hP hK hD hN) rfl rfl hl.1 rfl (lv_room (Nat.le_of_ble_eq_true rfl)) dX12_rings_58 ⟨(Nat.zero_le _), (Nat.zero_le _)⟩) hS (fun q _ h => hFc q h) hFc (fun r7 u t H1 locs ht hvm hw hB hz1 hk1 hS => ?_)
    obtain ⟨c8, w9⟩ := hw
    obtain ⟨hP, hD⟩ := wd_post hFc ht hB
    generalize H1 = H at hP hS ⊢
    obtain ⟨S10, rfl⟩ : ∃ z, z = u := ⟨_, rfl⟩
    have t11 : stp [(12, 15)] [] [] S S10 := t0.tr w9 (by decide) (fun _ q => absurd q List.not_mem_nil)
    have xe12 : ext S S10 := w9.x
    refine W.widen (k := 0) (n := 0) (Nat.le_of_ble_eq_true rfl) (Nat.le_of_ble_eq_true rfl) ?_
    exact W.iret (v := r7) hx hb hr (fun t ht hW9 => ⟨⟨r7, S10, rfl, t11, wd_end hP hK hD ht hW9.alike⟩, hS.F ht⟩) hS.2.2 dX12_rings_61 hlocks
  · have c5i : ¬ (f_X12_in x1.toInt64 (6 : Int64) (200 : Int64)).toInt = 0 := neq_v rfl rfl c5
    refine lv_iload_n hx hb dX12_rings_14 rfl (lv_at hl 2 rfl) ?_
    refine lv_i2l hx hb dX12_rings_15 rfl ?_
    refine lv_ldc2 (own := RX12) (v := 3) hx hb hown (hts (.constantLong RX12 247 (3)) (by decide +kernel)) dX12_rings_16 ?_
    refine lv_ldc2 (own := RX12) (v := 6) hx hb hown (hts (.constantLong RX12 129 (6)) (by decide +kernel)) dX12_rings_19 ?_
    have hFc := free_all hD hS hA
    refine va_calli (va_runS (As := [.long x2.toInt64, .long (3 : Int64), .long (6 : Int64)]) (rest := []) ⟨hx, hb, hml, hown, hts⟩ (c_X12_in l (cy := cy) (X := X) (D := D) S _ x2.toInt64 (3 : Int64) (6 : Int64)) (cwS 3 hts gX12_rings_X12_in rfl rfl rfl hd_X12_in ⟨Nat.le_of_ble_eq_true rfl, Nat.le_of_ble_eq_true rfl⟩) (pS hP hK hD hN) rfl rfl hl.1 rfl (lv_room (Nat.le_of_ble_eq_true rfl)) dX12_rings_22 ⟨(Nat.zero_le _), (Nat.zero_le _)⟩) hS (fun q _ h => hFc q h) hFc (fun r13 u t H1 locs ht hvm hw hB hz1 hk1 hS => ?_)
    have c14 := hw
    obtain ⟨hP, hD⟩ := wd_post hFc ht hB
    generalize H1 = H at hP hS ⊢
    obtain rfl : f_X12_in x2.toInt64 (3 : Int64) (6 : Int64) = r13 := c14.symm
    have i15 := i64_i x2
    have l64_3 : (3 : Int64).toInt = 3 := rfl
    have i16 := in_rng x2.toInt64 (3 : Int64) (6 : Int64)
    refine lv_if_eq (tgt := 56) hx hb dX12_rings_25 (by decide) (fun c17 => ?_) (fun c17 => ?_)
    · have c17i : (f_X12_in x2.toInt64 (3 : Int64) (6 : Int64)).toInt = 0 := eq_v rfl rfl c17
      refine lv_aload_n hx hb dX12_rings_56 rfl (lv_at hl 0 rfl) ?_
      refine lv_iconst (v := 1) hx hb dX12_rings_57 (by decide) ?_
      have l32_1 : (1 : Int32).toInt = 1 := rfl
      have hFc := free_all hD hS hA
      obtain ⟨k18, gk18, hk18⟩ := wGt (cy := cy) X S h_o1.1 h_o1.2.1
      refine va_calli (va_runV (As := [.int (1 : Int32)]) (rest := []) ⟨hx, hb, hml, hown, hts⟩ (c_X12_fails l (cy := cy) (X := X) (D := D) S _ o1 h_o1 (1 : Int32) (hW)) (cwV 1 hts gX12_rings_X12_fails rfl rfl rfl hd_X12_fails ⟨Nat.le_of_ble_eq_true rfl, Nat.le_of_ble_eq_true rfl⟩) (pV (va_recv hK hP (q := (RX12, TX12, 34)) (ci := 16) (q0 := k18) rfl hk18) hP hK hD hN) rfl rfl hl.1 rfl (lv_room (Nat.le_of_ble_eq_true rfl)) dX12_rings_58 ⟨(Nat.zero_le _), (Nat.zero_le _)⟩) hS (fun q _ h => hFc q h) hFc (fun r19 u t H1 locs ht hvm hw hB hz1 hk1 hS => ?_)
      obtain ⟨c20, w21⟩ := hw
      obtain ⟨hP, hD⟩ := wd_post hFc ht hB
      generalize H1 = H at hP hS ⊢
      obtain ⟨S22, rfl⟩ : ∃ z, z = u := ⟨_, rfl⟩
      have t23 : stp [(12, 15)] [] [] S S22 := t0.tr w21 (by decide) (fun _ q => absurd q List.not_mem_nil)
      have xe24 : ext S S22 := w21.x
      refine W.widen (k := 0) (n := 0) (Nat.le_of_ble_eq_true rfl) (Nat.le_of_ble_eq_true rfl) ?_
      exact W.iret (v := r19) hx hb hr (fun t ht hW9 => ⟨⟨r19, S22, rfl, t23, wd_end hP hK hD ht hW9.alike⟩, hS.F ht⟩) hS.2.2 dX12_rings_61 hlocks
    · have c17i : ¬ (f_X12_in x2.toInt64 (3 : Int64) (6 : Int64)).toInt = 0 := neq_v rfl rfl c17
      refine lv_iload_n hx hb dX12_rings_28 rfl (lv_at hl 3 rfl) ?_
      refine lv_i2l hx hb dX12_rings_29 rfl ?_
      refine lv_ldc2 (own := RX12) (v := 200) hx hb hown (hts (.constantLong RX12 131 (200)) (by decide +kernel)) dX12_rings_30 ?_
      refine lv_ldc2 (own := RX12) (v := 9999) hx hb hown (hts (.constantLong RX12 249 (9999)) (by decide +kernel)) dX12_rings_33 ?_
      have hFc := free_all hD hS hA
      refine va_calli (va_runS (As := [.long x3.toInt64, .long (200 : Int64), .long (9999 : Int64)]) (rest := []) ⟨hx, hb, hml, hown, hts⟩ (c_X12_in l (cy := cy) (X := X) (D := D) S _ x3.toInt64 (200 : Int64) (9999 : Int64)) (cwS 3 hts gX12_rings_X12_in rfl rfl rfl hd_X12_in ⟨Nat.le_of_ble_eq_true rfl, Nat.le_of_ble_eq_true rfl⟩) (pS hP hK hD hN) rfl rfl hl.1 rfl (lv_room (Nat.le_of_ble_eq_true rfl)) dX12_rings_36 ⟨(Nat.zero_le _), (Nat.zero_le _)⟩) hS (fun q _ h => hFc q h) hFc (fun r25 u t H1 locs ht hvm hw hB hz1 hk1 hS => ?_)
      have c26 := hw
      obtain ⟨hP, hD⟩ := wd_post hFc ht hB
      generalize H1 = H at hP hS ⊢
      obtain rfl : f_X12_in x3.toInt64 (200 : Int64) (9999 : Int64) = r25 := c26.symm
      have i27 := i64_i x3
      have l64_9999 : (9999 : Int64).toInt = 9999 := rfl
      have i28 := in_rng x3.toInt64 (200 : Int64) (9999 : Int64)
      refine lv_if_eq (tgt := 56) hx hb dX12_rings_39 (by decide) (fun c29 => ?_) (fun c29 => ?_)
      · have c29i : (f_X12_in x3.toInt64 (200 : Int64) (9999 : Int64)).toInt = 0 := eq_v rfl rfl c29
        refine lv_aload_n hx hb dX12_rings_56 rfl (lv_at hl 0 rfl) ?_
        refine lv_iconst (v := 1) hx hb dX12_rings_57 (by decide) ?_
        have l32_1 : (1 : Int32).toInt = 1 := rfl
        have hFc := free_all hD hS hA
        obtain ⟨k30, gk30, hk30⟩ := wGt (cy := cy) X S h_o1.1 h_o1.2.1
        refine va_calli (va_runV (As := [.int (1 : Int32)]) (rest := []) ⟨hx, hb, hml, hown, hts⟩ (c_X12_fails l (cy := cy) (X := X) (D := D) S _ o1 h_o1 (1 : Int32) (hW)) (cwV 1 hts gX12_rings_X12_fails rfl rfl rfl hd_X12_fails ⟨Nat.le_of_ble_eq_true rfl, Nat.le_of_ble_eq_true rfl⟩) (pV (va_recv hK hP (q := (RX12, TX12, 34)) (ci := 16) (q0 := k30) rfl hk30) hP hK hD hN) rfl rfl hl.1 rfl (lv_room (Nat.le_of_ble_eq_true rfl)) dX12_rings_58 ⟨(Nat.zero_le _), (Nat.zero_le _)⟩) hS (fun q _ h => hFc q h) hFc (fun r31 u t H1 locs ht hvm hw hB hz1 hk1 hS => ?_)
        obtain ⟨c32, w33⟩ := hw
        obtain ⟨hP, hD⟩ := wd_post hFc ht hB
        generalize H1 = H at hP hS ⊢
        obtain ⟨S34, rfl⟩ : ∃ z, z = u := ⟨_, rfl⟩
        have t35 : stp [(12, 15)] [] [] S S34 := t0.tr w33 (by decide) (fun _ q => absurd q List.not_mem_nil)
        have xe36 : ext S S34 := w33.x
        refine W.widen (k := 0) (n := 0) (Nat.le_of_ble_eq_true rfl) (Nat.le_of_ble_eq_true rfl) ?_
        exact W.iret (v := r31) hx hb hr (fun t ht hW9 => ⟨⟨r31, S34, rfl, t35, wd_end hP hK hD ht hW9.alike⟩, hS.F ht⟩) hS.2.2 dX12_rings_61 hlocks
      · have c29i : ¬ (f_X12_in x3.toInt64 (200 : Int64) (9999 : Int64)).toInt = 0 := neq_v rfl rfl c29
        refine lv_iload hx hb dX12_rings_42 (lv_at hl 4 rfl) ?_
        refine lv_i2l hx hb dX12_rings_44 rfl ?_
        refine lv_iload_n hx hb dX12_rings_45 rfl (lv_at hl 3 rfl) ?_
        refine lv_i2l hx hb dX12_rings_46 rfl ?_
        refine lv_ldc2 (own := RX12) (v := 9999) hx hb hown (hts (.constantLong RX12 249 (9999)) (by decide +kernel)) dX12_rings_47 ?_
        have hFc := free_all hD hS hA
        refine va_calli (va_runS (As := [.long x4.toInt64, .long x3.toInt64, .long (9999 : Int64)]) (rest := []) ⟨hx, hb, hml, hown, hts⟩ (c_X12_in l (cy := cy) (X := X) (D := D) S _ x4.toInt64 x3.toInt64 (9999 : Int64)) (cwS 3 hts gX12_rings_X12_in rfl rfl rfl hd_X12_in ⟨Nat.le_of_ble_eq_true rfl, Nat.le_of_ble_eq_true rfl⟩) (pS hP hK hD hN) rfl rfl hl.1 rfl (lv_room (Nat.le_of_ble_eq_true rfl)) dX12_rings_50 ⟨(Nat.zero_le _), (Nat.zero_le _)⟩) hS (fun q _ h => hFc q h) hFc (fun r37 u t H1 locs ht hvm hw hB hz1 hk1 hS => ?_)
        have c38 := hw
        obtain ⟨hP, hD⟩ := wd_post hFc ht hB
        generalize H1 = H at hP hS ⊢
        obtain rfl : f_X12_in x4.toInt64 x3.toInt64 (9999 : Int64) = r37 := c38.symm
        have i39 := i64_i x4
        have i40 := in_rng x4.toInt64 x3.toInt64 (9999 : Int64)
        refine lv_if_ne (tgt := 62) hx hb dX12_rings_53 (by decide) (fun c41 => ?_) (fun c41 => ?_)
        · have c41i : ¬ (f_X12_in x4.toInt64 x3.toInt64 (9999 : Int64)).toInt = 0 := neq_v rfl rfl c41
          refine lv_iconst (v := 0) hx hb dX12_rings_62 (by decide) ?_
          refine lv_istore (lv' := [(5, .int (0 : Int32)), (0, .ref o1), (1, .int x1), (2, .int x2), (3, .int x3), (4, .int x4)]) hx hb dX12_rings_63 hl (by decide) rfl (fun ls hl => ?_)
          refine lv_iload_n hx hb dX12_rings_65 rfl (lv_at hl 2 rfl) ?_
          refine lv_iconst (v := 1) hx hb dX12_rings_66 (by decide) ?_
          refine lv_iadd hx hb dX12_rings_67 ?_
          refine lv_istore (lv' := [(6, .int (x1 + (1 : Int32))), (5, .int (0 : Int32)), (0, .ref o1), (1, .int x1), (2, .int x2), (3, .int x3), (4, .int x4)]) hx hb dX12_rings_68 hl (by decide) rfl (fun ls hl => ?_)
          have l32_1 : (1 : Int32).toInt = 1 := rfl
          have i42 : (x1 + (1 : Int32)).toInt = x1.toInt + 1 := t_addr (n := 1) rfl (by omega)
          have loop70 : ∀ (n : Nat) (w70_5 : Int32) (w70_6 : Int32) (H : Heap) (locs : List Loc) (ls : Array Slot), (601 - w70_6.toInt).toNat < n → 7 ≤ w70_6.toInt ∧ w70_6.toInt ≤ 601 → va_P D vwCl (X ++ PL cy S) H → va_S A s.heap H locs → lv_has ls 8 [(6, .int w70_6), (5, .int w70_5), (0, .ref o1), (1, .int x1), (2, .int x2), (3, .int x3), (4, .int x4)] → (∀ (w70_5x : Int32) (w70_6x : Int32) (H : Heap) (locs : List Loc) (ls : Array Slot), 7 ≤ w70_6x.toInt ∧ w70_6x.toInt ≤ 601 → va_P D vwCl (X ++ PL cy S) H → va_S A s.heap H locs → lv_has ls 8 [(6, .int w70_6x), (5, .int w70_5x), (0, .ref o1), (1, .int x1), (2, .int x2), (3, .int x3), (4, .int x4)] → W p l e (headSpec wsX12_rings ({ frames := 1, cells := 0, slots := 0, locals := 25 } : Room)).room s m [.ref o1, .int x1, .int x2, .int x3, .int x4].toArray below meth c H locs 0 0 (MQ below (va_Qi (fun r (u : wPS) => stp [(12, 15)] [] [] S u) (fun u t => WD D cy X A u t) A) [.ref o1, .int x1, .int x2, .int x3, .int x4].toArray s 0 0 A) (F0 m 132 ls [])) → W p l e (headSpec wsX12_rings ({ frames := 1, cells := 0, slots := 0, locals := 25 } : Room)).room s m [.ref o1, .int x1, .int x2, .int x3, .int x4].toArray below meth c H locs 0 0 (MQ below (va_Qi (fun r (u : wPS) => stp [(12, 15)] [] [] S u) (fun u t => WD D cy X A u t) A) [.ref o1, .int x1, .int x2, .int x3, .int x4].toArray s 0 0 A) (F0 m 70 ls []) := by
            intro n70
            induction n70 with
            | zero => intro w70_5 w70_6 H locs ls hm; exact absurd hm (Nat.not_lt_zero _)
            | succ n70 ih70 =>
              intro w70_5 w70_6 H locs ls hm70 hi70 hP hS hl ko70
              refine lv_iload hx hb dX12_rings_70 (lv_at hl 0 rfl) ?_
              refine lv_sipush (v := 600) hx hb dX12_rings_72 (by decide +kernel) ?_
              refine lv_icmp_gt (tgt := 132) hx hb dX12_rings_75 (by decide) (fun c43 => ?_) (fun c43 => ?_)
              · have c43i : 600 < w70_6.toInt := lt_v rfl rfl c43
                exact ko70 w70_5 w70_6 _ _ _ (by omega) hP hS (lv_sub hl [0, 1, 2, 3, 4, 5, 6] rfl)
              · have c43i : w70_6.toInt ≤ 600 := nlt_v rfl rfl c43
                refine lv_bipush (v := 100) hx hb dX12_rings_78 (by decide +kernel) ?_
                refine lv_iload_n hx hb dX12_rings_80 rfl (lv_at hl 3 rfl) ?_
                refine lv_iload hx hb dX12_rings_81 (lv_at hl 0 rfl) ?_
                refine lv_iadd hx hb dX12_rings_83 ?_
                refine lv_imul hx hb dX12_rings_84 ?_
                refine lv_istore (lv' := [(7, .int ((100 : Int32) * (x1 + w70_6))), (6, .int w70_6), (5, .int w70_5), (0, .ref o1), (1, .int x1), (2, .int x2), (3, .int x3), (4, .int x4)]) hx hb dX12_rings_85 hl (by decide) rfl (fun ls hl => ?_)
                refine lv_iload hx hb dX12_rings_87 (lv_at hl 2 rfl) ?_
                refine lv_iload_n hx hb dX12_rings_89 rfl (lv_at hl 4 rfl) ?_
                refine lv_iload hx hb dX12_rings_90 (lv_at hl 1 rfl) ?_
                refine lv_iload_n hx hb dX12_rings_92 rfl (lv_at hl 5 rfl) ?_
                have hFc := free_all hD hS hA
                refine va_calli (va_runS (As := [.int x1, .int w70_6, .int x2]) (rest := [.int w70_5]) ⟨hx, hb, hml, hown, hts⟩ (c_X12_goes l (cy := cy) (X := X) (D := D) S _ x1 w70_6 x2 (by omega)) (cwS 3 hts gX12_rings_X12_goes rfl rfl rfl hd_X12_goes ⟨Nat.le_of_ble_eq_true rfl, Nat.le_of_ble_eq_true rfl⟩) (pS hP hK hD hN) rfl rfl hl.1 rfl (lv_room (Nat.le_of_ble_eq_true rfl)) dX12_rings_93 ⟨(Nat.zero_le _), (Nat.zero_le _)⟩) hS (fun q _ h => hFc q h) hFc (fun r44 u t H1 locs ht hvm hw hB hz1 hk1 hS => ?_)
                obtain ⟨c45, y46⟩ := hw
                obtain ⟨hP, hD⟩ := wd_post hFc ht hB
                generalize H1 = H at hP hS ⊢
                obtain rfl : f_X12_goes x1 w70_6 x2 = r44 := c45.symm
                refine lv_bipush (v := 103) hx hb dX12_rings_96 (by decide +kernel) ?_
                refine lv_icmp_ne (tgt := 122) hx hb dX12_rings_98 (by decide) (fun c47 => ?_) (fun c47 => ?_)
                · have c47i : ¬ (f_X12_goes x1 w70_6 x2).toInt = 103 := neq_v rfl rfl c47
                  refine lv_iconst (v := 0) hx hb dX12_rings_122 (by decide) ?_
                  refine lv_iadd hx hb dX12_rings_123 ?_
                  refine lv_istore (lv' := [(5, .int (w70_5 + (0 : Int32))), (7, .int ((100 : Int32) * (x1 + w70_6))), (6, .int w70_6), (0, .ref o1), (1, .int x1), (2, .int x2), (3, .int x3), (4, .int x4)]) hx hb dX12_rings_124 hl (by decide) rfl (fun ls hl => ?_)
                  refine lv_iinc (v := w70_6 + (1 : Int32)) (lv' := [(6, .int (w70_6 + (1 : Int32))), (5, .int (w70_5 + (0 : Int32))), (7, .int ((100 : Int32) * (x1 + w70_6))), (0, .ref o1), (1, .int x1), (2, .int x2), (3, .int x3), (4, .int x4)]) hx hb dX12_rings_126 hl (k := 2) rfl (by rfl) (by decide) rfl (fun ls hl => ?_)
                  refine lv_goto (tgt := 70) hx hb dX12_rings_129 (by decide) ?_
                  have i48 : (w70_6 + (1 : Int32)).toInt = w70_6.toInt + 1 := t_addr (n := 1) rfl (by omega)
                  exact ih70 (w70_5 + (0 : Int32)) (w70_6 + (1 : Int32)) _ _ _ (Nat.lt_of_lt_of_le (by omega) (Nat.le_of_lt_succ hm70)) (by omega) hP hS (lv_sub hl [0, 1, 3, 4, 5, 6, 7] rfl) ko70
                · have c47i : (f_X12_goes x1 w70_6 x2).toInt = 103 := eq_v rfl rfl c47
                  refine lv_iload hx hb dX12_rings_101 (lv_at hl 0 rfl) ?_
                  refine lv_iload_n hx hb dX12_rings_103 rfl (lv_at hl 6 rfl) ?_
                  refine lv_iload_n hx hb dX12_rings_104 rfl (lv_at hl 4 rfl) ?_
                  refine lv_imul hx hb dX12_rings_105 ?_
                  refine lv_icmp_lt (tgt := 122) hx hb dX12_rings_106 (by decide) (fun c49 => ?_) (fun c49 => ?_)
                  · have c49i : ((100 : Int32) * (x1 + w70_6)).toInt < (x3 * x1).toInt := lt_v rfl rfl c49
                    refine lv_iconst (v := 0) hx hb dX12_rings_122 (by decide) ?_
                    refine lv_iadd hx hb dX12_rings_123 ?_
                    refine lv_istore (lv' := [(5, .int (w70_5 + (0 : Int32))), (7, .int ((100 : Int32) * (x1 + w70_6))), (6, .int w70_6), (0, .ref o1), (1, .int x1), (2, .int x2), (3, .int x3), (4, .int x4)]) hx hb dX12_rings_124 hl (by decide) rfl (fun ls hl => ?_)
                    refine lv_iinc (v := w70_6 + (1 : Int32)) (lv' := [(6, .int (w70_6 + (1 : Int32))), (5, .int (w70_5 + (0 : Int32))), (7, .int ((100 : Int32) * (x1 + w70_6))), (0, .ref o1), (1, .int x1), (2, .int x2), (3, .int x3), (4, .int x4)]) hx hb dX12_rings_126 hl (k := 2) rfl (by rfl) (by decide) rfl (fun ls hl => ?_)
                    refine lv_goto (tgt := 70) hx hb dX12_rings_129 (by decide) ?_
                    have i50 : (w70_6 + (1 : Int32)).toInt = w70_6.toInt + 1 := t_addr (n := 1) rfl (by omega)
                    exact ih70 (w70_5 + (0 : Int32)) (w70_6 + (1 : Int32)) _ _ _ (Nat.lt_of_lt_of_le (by omega) (Nat.le_of_lt_succ hm70)) (by omega) hP hS (lv_sub hl [0, 1, 3, 4, 5, 6, 7] rfl) ko70
                  · have c49i : (x3 * x1).toInt ≤ ((100 : Int32) * (x1 + w70_6)).toInt := nlt_v rfl rfl c49
                    refine lv_iload hx hb dX12_rings_109 (lv_at hl 0 rfl) ?_
                    refine lv_iload hx hb dX12_rings_111 (lv_at hl 7 rfl) ?_
                    refine lv_iload_n hx hb dX12_rings_113 rfl (lv_at hl 4 rfl) ?_
                    refine lv_imul hx hb dX12_rings_114 ?_
                    refine lv_icmp_gt (tgt := 122) hx hb dX12_rings_115 (by decide) (fun c51 => ?_) (fun c51 => ?_)
                    · have c51i : (x4 * x1).toInt < ((100 : Int32) * (x1 + w70_6)).toInt := lt_v rfl rfl c51
                      refine lv_iconst (v := 0) hx hb dX12_rings_122 (by decide) ?_
                      refine lv_iadd hx hb dX12_rings_123 ?_
                      refine lv_istore (lv' := [(5, .int (w70_5 + (0 : Int32))), (7, .int ((100 : Int32) * (x1 + w70_6))), (6, .int w70_6), (0, .ref o1), (1, .int x1), (2, .int x2), (3, .int x3), (4, .int x4)]) hx hb dX12_rings_124 hl (by decide) rfl (fun ls hl => ?_)
                      refine lv_iinc (v := w70_6 + (1 : Int32)) (lv' := [(6, .int (w70_6 + (1 : Int32))), (5, .int (w70_5 + (0 : Int32))), (7, .int ((100 : Int32) * (x1 + w70_6))), (0, .ref o1), (1, .int x1), (2, .int x2), (3, .int x3), (4, .int x4)]) hx hb dX12_rings_126 hl (k := 2) rfl (by rfl) (by decide) rfl (fun ls hl => ?_)
                      refine lv_goto (tgt := 70) hx hb dX12_rings_129 (by decide) ?_
                      have i52 : (w70_6 + (1 : Int32)).toInt = w70_6.toInt + 1 := t_addr (n := 1) rfl (by omega)
                      exact ih70 (w70_5 + (0 : Int32)) (w70_6 + (1 : Int32)) _ _ _ (Nat.lt_of_lt_of_le (by omega) (Nat.le_of_lt_succ hm70)) (by omega) hP hS (lv_sub hl [0, 1, 3, 4, 5, 6, 7] rfl) ko70
                    · have c51i : ((100 : Int32) * (x1 + w70_6)).toInt ≤ (x4 * x1).toInt := nlt_v rfl rfl c51
                      refine lv_iconst (v := 1) hx hb dX12_rings_118 (by decide) ?_
                      refine lv_goto (tgt := 123) hx hb dX12_rings_119 (by decide) ?_
                      refine lv_iadd hx hb dX12_rings_123 ?_
                      refine lv_istore (lv' := [(5, .int (w70_5 + (1 : Int32))), (7, .int ((100 : Int32) * (x1 + w70_6))), (6, .int w70_6), (0, .ref o1), (1, .int x1), (2, .int x2), (3, .int x3), (4, .int x4)]) hx hb dX12_rings_124 hl (by decide) rfl (fun ls hl => ?_)
                      refine lv_iinc (v := w70_6 + (1 : Int32)) (lv' := [(6, .int (w70_6 + (1 : Int32))), (5, .int (w70_5 + (1 : Int32))), (7, .int ((100 : Int32) * (x1 + w70_6))), (0, .ref o1), (1, .int x1), (2, .int x2), (3, .int x3), (4, .int x4)]) hx hb dX12_rings_126 hl (k := 2) rfl (by rfl) (by decide) rfl (fun ls hl => ?_)
                      refine lv_goto (tgt := 70) hx hb dX12_rings_129 (by decide) ?_
                      have i53 : (w70_6 + (1 : Int32)).toInt = w70_6.toInt + 1 := t_addr (n := 1) rfl (by omega)
                      exact ih70 (w70_5 + (1 : Int32)) (w70_6 + (1 : Int32)) _ _ _ (Nat.lt_of_lt_of_le (by omega) (Nat.le_of_lt_succ hm70)) (by omega) hP hS (lv_sub hl [0, 1, 3, 4, 5, 6, 7] rfl) ko70
          refine loop70 602 (0 : Int32) (x1 + (1 : Int32)) _ _ _ (by omega) (by omega) hP hS (lv_sub hl [0, 1, 2, 3, 4, 5, 6] rfl) (fun z55 z56 H locs ls hi70 hP hS hl => ?_)
          refine lv_aload_n hx hb dX12_rings_132 rfl (lv_at hl 2 rfl) ?_
          refine lv_iload hx hb dX12_rings_133 (lv_at hl 1 rfl) ?_
          have hFc := free_all hD hS hA
          obtain ⟨k57, gk57, hk57⟩ := wGt (cy := cy) X S h_o1.1 h_o1.2.1
          refine va_calli (va_runV (As := [.int z55]) (rest := []) ⟨hx, hb, hml, hown, hts⟩ (c_X12_answer l (cy := cy) (X := X) (D := D) S _ o1 h_o1 z55 (hW)) (cwV 1 hts gX12_rings_X12_answer rfl rfl rfl hd_X12_answer ⟨Nat.le_of_ble_eq_true rfl, Nat.le_of_ble_eq_true rfl⟩) (pV (va_recv hK hP (q := (RX12, TX12, 34)) (ci := 16) (q0 := k57) rfl hk57) hP hK hD hN) rfl rfl hl.1 rfl (lv_room (Nat.le_of_ble_eq_true rfl)) dX12_rings_135 ⟨(Nat.zero_le _), (Nat.zero_le _)⟩) hS (fun q _ h => hFc q h) hFc (fun r58 u t H1 locs ht hvm hw hB hz1 hk1 hS => ?_)
          obtain ⟨c59, w60⟩ := hw
          obtain ⟨hP, hD⟩ := wd_post hFc ht hB
          generalize H1 = H at hP hS ⊢
          obtain ⟨S61, rfl⟩ : ∃ z, z = u := ⟨_, rfl⟩
          have t62 : stp [(12, 15)] [] [] S S61 := t0.tr w60 (by decide) (fun _ q => absurd q List.not_mem_nil)
          have xe63 : ext S S61 := w60.x
          refine W.widen (k := 0) (n := 0) (Nat.le_of_ble_eq_true rfl) (Nat.le_of_ble_eq_true rfl) ?_
          exact W.iret (v := r58) hx hb hr (fun t ht hW9 => ⟨⟨r58, S61, rfl, t62, wd_end hP hK hD ht hW9.alike⟩, hS.F ht⟩) hS.2.2 dX12_rings_138 hlocks
        · have c41i : (f_X12_in x4.toInt64 x3.toInt64 (9999 : Int64)).toInt = 0 := eq_v rfl rfl c41
          refine lv_aload_n hx hb dX12_rings_56 rfl (lv_at hl 0 rfl) ?_
          refine lv_iconst (v := 1) hx hb dX12_rings_57 (by decide) ?_
          have l32_1 : (1 : Int32).toInt = 1 := rfl
          have hFc := free_all hD hS hA
          obtain ⟨k64, gk64, hk64⟩ := wGt (cy := cy) X S h_o1.1 h_o1.2.1
          refine va_calli (va_runV (As := [.int (1 : Int32)]) (rest := []) ⟨hx, hb, hml, hown, hts⟩ (c_X12_fails l (cy := cy) (X := X) (D := D) S _ o1 h_o1 (1 : Int32) (hW)) (cwV 1 hts gX12_rings_X12_fails rfl rfl rfl hd_X12_fails ⟨Nat.le_of_ble_eq_true rfl, Nat.le_of_ble_eq_true rfl⟩) (pV (va_recv hK hP (q := (RX12, TX12, 34)) (ci := 16) (q0 := k64) rfl hk64) hP hK hD hN) rfl rfl hl.1 rfl (lv_room (Nat.le_of_ble_eq_true rfl)) dX12_rings_58 ⟨(Nat.zero_le _), (Nat.zero_le _)⟩) hS (fun q _ h => hFc q h) hFc (fun r65 u t H1 locs ht hvm hw hB hz1 hk1 hS => ?_)
          obtain ⟨c66, w67⟩ := hw
          obtain ⟨hP, hD⟩ := wd_post hFc ht hB
          generalize H1 = H at hP hS ⊢
          obtain ⟨S68, rfl⟩ : ∃ z, z = u := ⟨_, rfl⟩
          have t69 : stp [(12, 15)] [] [] S S68 := t0.tr w67 (by decide) (fun _ q => absurd q List.not_mem_nil)
          have xe70 : ext S S68 := w67.x
          refine W.widen (k := 0) (n := 0) (Nat.le_of_ble_eq_true rfl) (Nat.le_of_ble_eq_true rfl) ?_
          exact W.iret (v := r65) hx hb hr (fun t ht hW9 => ⟨⟨r65, S68, rfl, t69, wd_end hP hK hD ht hW9.alike⟩, hS.F ht⟩) hS.2.2 dX12_rings_61 hlocks
def f_X12_wheel (S : wPS) (o1 : Nat) (x1 : Int32) : (Int32 × wPS) := if (f_X12_in x1.toInt64 (15 : Int64) (127 : Int64)) = (0 : Int32) then l2 (f_X12_fails S o1 (1 : Int32)) (fun r44 S47 => (r44, S47)) else if (S.I o1 16) = (16 : Int32) then l2 (f_X12_fails S o1 (2 : Int32)) (fun r36 S39 => (r36, S39)) else l1 (S.si (S.f o1 2) (upd (S.i (S.f o1 2)) (S.I o1 16).toNatClampNeg x1)) (fun S13 => l1 (S13.sI o1 16 ((S13.I o1 16) + (1 : Int32))) (fun S21 => l2 (f_X12_answer S21 o1 (S21.I o1 16)) (fun r28 S31 => (r28, S31))))
theorem hi_X12_wheel_X12 : ∀ w ∈ u_ws RX12 TX12 34, w ∈ wsX12_wheel := by decide +kernel
theorem hd_X12_wheel : yX12_wheel.cls = RX12 ∧ yX12_wheel.cls ≠ "java/lang/invoke/MethodHandle" ∧ yX12_wheel.cls ≠ "java/lang/invoke/VarHandle" ∧ (parseMethodDescriptor yX12_wheel.desc).map (fun d => d.parameters.length) = some 1 := by decide +kernel
set_option maxHeartbeats 4000000 in
set_option maxRecDepth 100000 in
theorem c_X12_wheel (l : Launch) {D : va_G} {cy : Nat → ClassId} {X : va_W} (S : wPS) (sz : Nat) (o1 : Nat) (h_o1 : isA S o1 12) (x1 : Int32) (hW : wtB S [])  : Met l yX12_wheel wsX12_wheel ({ frames := 1, cells := 0, slots := 0, locals := 25 }) (va_Pc [.ref o1, .int x1] (fun U => U.heap.size = sz ∧ WD D cy X (fun _ => True) S U ∧ NW U)) (va_Qi (fun r (u : wPS) => (r, u) = f_X12_wheel S o1 x1 ∧ stp [(12, 15), (12, 16), (31, 100)] [] [] S u) (fun u t => WD D cy X (va_A (X ++ PL cy S) sz) u t) (va_A (X ++ PL cy S) sz)) 0 0 (va_A (X ++ PL cy S) sz) := by
  refine Met.ofW (cc := cX12_wheel) (maxL := 2) (ret := (some .int)) (by decide) rfl ?_
  intro p e s m args below meth c s₁ B hml hv
  obtain ⟨rfl, hsz, ⟨hP, hK, hD0⟩, hN⟩ := hv
  have hx := B.exec
  have hb := B.bytes
  have hr := B.returns
  have hts := atoms_spec (ws := wsX12_wheel) B.pre
  have hown : s.vm.findClass RX12 = some m.cls := findClass_of_methodNamed (x := yX12_wheel) B.named
  have hlocks := B.notSynchronized
  subst hsz
  have hD := hD0.self (sz := s.heap.size)
  generalize hAe : va_A (X ++ PL cy S) s.heap.size = A at hD ⊢
  have hA : ∀ q : Nat, s.heap.size ≤ q → A q := fun q h => by rw [← hAe]; exact Or.inr h
  have hS : va_S A s.heap s.heap [] := va_S.rf
  have hl := lv_entry ([.ref o1, .int x1]) (n := 2) (Nat.le_of_ble_eq_true rfl)
  rw [lg_entry_eq]
  generalize (lg_sl ([.ref o1, .int x1]) ++ List.replicate (2 - (lg_sl ([.ref o1, .int x1])).length) Slot.unset).toArray = ls at hl ⊢
  have hl : lv_has ls 2 [(0, .ref o1), (1, .int x1)] := hl
  have t0 : stp [(12, 15), (12, 16), (31, 100)] [] [] S S := stp.rf hW
  have r16 := ((hW.at h_o1 List.not_mem_nil).to_12 h_o1.2.1).R16
  refine lv_iload_n hx hb dX12_wheel_0 rfl (lv_at hl 1 rfl) ?_
  refine lv_i2l hx hb dX12_wheel_1 rfl ?_
  refine lv_ldc2 (own := RX12) (v := 15) hx hb hown (hts (.constantLong RX12 278 (15)) (by decide +kernel)) dX12_wheel_2 ?_
  refine lv_ldc2 (own := RX12) (v := 127) hx hb hown (hts (.constantLong RX12 280 (127)) (by decide +kernel)) dX12_wheel_5 ?_
  have hFc := free_all hD hS hA
  refine va_calli (va_runS (As := [.long x1.toInt64, .long (15 : Int64), .long (127 : Int64)]) (rest := []) ⟨hx, hb, hml, hown, hts⟩ (c_X12_in l (cy := cy) (X := X) (D := D) S _ x1.toInt64 (15 : Int64) (127 : Int64)) (cwS 3 hts gX12_wheel_X12_in rfl rfl rfl hd_X12_in ⟨Nat.le_of_ble_eq_true rfl, Nat.le_of_ble_eq_true rfl⟩) (pS hP hK hD hN) rfl rfl hl.1 rfl (lv_room (Nat.le_of_ble_eq_true rfl)) dX12_wheel_8 ⟨(Nat.zero_le _), (Nat.zero_le _)⟩) hS (fun q _ h => hFc q h) hFc (fun r1 u t H1 locs ht hvm hw hB hz1 hk1 hS => ?_)
  have c2 := hw
  obtain ⟨hP, hD⟩ := wd_post hFc ht hB
  generalize H1 = H at hP hS ⊢
  obtain rfl : f_X12_in x1.toInt64 (15 : Int64) (127 : Int64) = r1 := c2.symm
  have i3 := i64_i x1
  have l64_15 : (15 : Int64).toInt = 15 := rfl
  have l64_127 : (127 : Int64).toInt = 127 := rfl
  have i4 := in_rng x1.toInt64 (15 : Int64) (127 : Int64)
  refine lv_if_ne (tgt := 20) hx hb dX12_wheel_11 (by decide) (fun c5 => ?_) (fun c5 => ?_)
  · have c5i : ¬ (f_X12_in x1.toInt64 (15 : Int64) (127 : Int64)).toInt = 0 := neq_v rfl rfl c5
    refine lv_aload_n hx hb dX12_wheel_20 rfl (lv_at hl 0 rfl) ?_
    obtain ⟨k6, gk6, hk6⟩ := wGt (cy := cy) X S h_o1.1 h_o1.2.1
    have i7 := ((hW.at h_o1 List.not_mem_nil).to_12 h_o1.2.1).R16
    refine va_get (D := D) (ci := 16) (v := .int (S.I o1 16)) (C := RX12) (T := TX12) (N := 34) hx hb hts hi_X12_wheel_X12 hown hK hP k6 hk6 rfl 16 (by decide) (hts (.fieldLink RX12 282 "HobhouseModel" "box" "I") (by decide +kernel)) (fun _ h9 => h9) rfl dX12_wheel_21 ?_
    refine lv_bipush (v := 16) hx hb dX12_wheel_24 (by decide +kernel) ?_
    refine lv_icmp_ne (tgt := 35) hx hb dX12_wheel_26 (by decide) (fun c8 => ?_) (fun c8 => ?_)
    · have c8i : ¬ (S.I o1 16).toInt = 16 := neq_v rfl rfl c8
      refine lv_aload_n hx hb dX12_wheel_35 rfl (lv_at hl 0 rfl) ?_
      have F9 := ((hW.at h_o1 List.not_mem_nil).to_12 h_o1.2.1).F2
      obtain ⟨k10, gk10, hk10⟩ := wGt (cy := cy) X S h_o1.1 h_o1.2.1
      simp only [kE, F9.1] at hk10
      refine va_get (D := D) (ci := 16) (v := .ref (S.f o1 2)) (C := RX12) (T := TX12) (N := 34) hx hb hts hi_X12_wheel_X12 hown hK hP k10 hk10 rfl 2 (by decide) (hts (.fieldLink RX12 31 "HobhouseModel" "wheels" "[I") (by decide +kernel)) (fun _ h9 => h9) rfl dX12_wheel_36 ?_
      refine lv_aload_n hx hb dX12_wheel_39 rfl (lv_at hl 0 rfl) ?_
      obtain ⟨k11, gk11, hk11⟩ := wGt (cy := cy) X S h_o1.1 h_o1.2.1
      refine va_get (D := D) (ci := 16) (v := .int (S.I o1 16)) (C := RX12) (T := TX12) (N := 34) hx hb hts hi_X12_wheel_X12 hown hK hP k11 hk11 rfl 16 (by decide) (hts (.fieldLink RX12 282 "HobhouseModel" "box" "I") (by decide +kernel)) (fun _ h9 => h9) rfl dX12_wheel_40 ?_
      refine lv_iload_n hx hb dX12_wheel_43 rfl (lv_at hl 1 rfl) ?_
      obtain ⟨k12, gk12, hk12⟩ := wGt (cy := cy) X S F9.2.1.1 F9.2.1.2.1
      refine va_iast hx hb hK hP hD hS k12 2 hk12 rfl (inb (m := 16) F9.2.2 (by omega) (by omega)) dX12_wheel_44 (fun H locs hP2 hD2 hS => ?_)
      have e9 := wPui (cy := cy) (f := (upd (S.i (S.f o1 2)) (S.I o1 16).toNatClampNeg x1)) hD F9.2.1.1 F9.2.1.2.1 gk12 rfl
      obtain ⟨S13, hS13⟩ : ∃ z, S.si (S.f o1 2) (upd (S.i (S.f o1 2)) (S.I o1 16).toNatClampNeg x1) = z := ⟨_, rfl⟩
      have hP : va_P D vwCl (X ++ PL cy S13) H := by rw [← hS13, ← e9]; exact hP2
      have hD : va_D A (X ++ PL cy S13) := by rw [← hS13, ← e9]; exact hD2
      have xe14 : ext S S13 := by rw [← hS13]; exact ext.si _ _ _
      have t15 : stp [(12, 15), (12, 16), (31, 100)] [] [] S S13 := by rw [← hS13]; exact t0.i (upd (S.i (S.f o1 2)) (S.I o1 16).toNatClampNeg x1) F9.2.1 (by decide)
      have k16 : (S13.I o1 16).toInt = (S.I o1 16).toInt := by rw [← hS13]; rfl
      refine lv_aload_n hx hb dX12_wheel_45 rfl (lv_at hl 0 rfl) ?_
      refine lv_dup hx hb dX12_wheel_46 rfl ?_
      obtain ⟨k17, gk17, hk17⟩ := wGt (cy := cy) X S13 (xe14.A h_o1).1 (xe14.A h_o1).2.1
      have i18 := ((t15.w.at (xe14.A h_o1) List.not_mem_nil).to_12 (xe14.A h_o1).2.1).R16
      refine va_get (D := D) (ci := 16) (v := .int (S13.I o1 16)) (C := RX12) (T := TX12) (N := 34) hx hb hts hi_X12_wheel_X12 hown hK hP k17 hk17 rfl 16 (by decide) (hts (.fieldLink RX12 282 "HobhouseModel" "box" "I") (by decide +kernel)) (fun _ h9 => h9) rfl dX12_wheel_47 ?_
      refine lv_iconst (v := 1) hx hb dX12_wheel_50 (by decide) ?_
      refine lv_iadd hx hb dX12_wheel_51 ?_
      have l32_1 : (1 : Int32).toInt = 1 := rfl
      have i19 : ((S13.I o1 16) + (1 : Int32)).toInt = (S13.I o1 16).toInt + 1 := t_addr (n := 1) rfl (by omega)
      obtain ⟨k20, gk20, hk20⟩ := wGt (cy := cy) X S13 (xe14.A h_o1).1 (xe14.A h_o1).2.1
      refine va_put (D := D) (ci := 16) (v := .int ((S13.I o1 16) + (1 : Int32))) (ty := .int) (C := RX12) (T := TX12) (N := 34) hx hb hts hi_X12_wheel_X12 tyX12 tyX12_ok nmX12 hown hK hP hD hS k20 hk20 rfl 16 (by decide) (hts (.fieldLink RX12 282 "HobhouseModel" "box" "I") (by decide +kernel)) (fun _ h9 => h9) rfl (by decide +kernel) (rfl) (rfl) (Nat.le_of_ble_eq_true rfl) dX12_wheel_52 (fun H locs hP2 hD2 hS => ?_)
      have e9 := wPuI (cy := cy) (j := 16) (v := ((S13.I o1 16) + (1 : Int32))) hD (xe14.A h_o1).1 (xe14.A h_o1).2.1 gk20 rfl
      obtain ⟨S21, hS21⟩ : ∃ z, S13.sI o1 16 ((S13.I o1 16) + (1 : Int32)) = z := ⟨_, rfl⟩
      have hP : va_P D vwCl (X ++ PL cy S21) H := by rw [← hS21, ← e9]; exact hP2
      have hD : va_D A (X ++ PL cy S21) := by rw [← hS21, ← e9]; exact hD2
      have xe22 : ext S13 S21 := by rw [← hS21]; exact ext.sI _ _ _ _
      have t23 : stp [(12, 15), (12, 16), (31, 100)] [] [] S S21 := by rw [← hS21]; exact t15.I 16 ((S13.I o1 16) + (1 : Int32)) (xe14.A h_o1) (by decide) (⟨by omega, by omega⟩) (Or.inl (by decide))
      have k24 : (S21.I o1 16).toInt = ((S13.I o1 16) + (1 : Int32)).toInt := by rw [← hS21, sI_eq]
      refine lv_aload_n hx hb dX12_wheel_55 rfl (lv_at hl 0 rfl) ?_
      refine lv_aload_n hx hb dX12_wheel_56 rfl (lv_at hl 0 rfl) ?_
      obtain ⟨k25, gk25, hk25⟩ := wGt (cy := cy) X S21 (xe22.A (xe14.A h_o1)).1 (xe22.A (xe14.A h_o1)).2.1
      have i26 := ((t23.w.at (xe22.A (xe14.A h_o1)) List.not_mem_nil).to_12 (xe22.A (xe14.A h_o1)).2.1).R16
      refine va_get (D := D) (ci := 16) (v := .int (S21.I o1 16)) (C := RX12) (T := TX12) (N := 34) hx hb hts hi_X12_wheel_X12 hown hK hP k25 hk25 rfl 16 (by decide) (hts (.fieldLink RX12 282 "HobhouseModel" "box" "I") (by decide +kernel)) (fun _ h9 => h9) rfl dX12_wheel_57 ?_
      have hFc := free_all hD hS hA
      obtain ⟨k27, gk27, hk27⟩ := wGt (cy := cy) X S21 (xe22.A (xe14.A h_o1)).1 (xe22.A (xe14.A h_o1)).2.1
      refine va_calli (va_runV (As := [.int (S21.I o1 16)]) (rest := []) ⟨hx, hb, hml, hown, hts⟩ (c_X12_answer l (cy := cy) (X := X) (D := D) S21 _ o1 (xe22.A (xe14.A h_o1)) (S21.I o1 16) (t23.w)) (cwV 1 hts gX12_wheel_X12_answer rfl rfl rfl hd_X12_answer ⟨Nat.le_of_ble_eq_true rfl, Nat.le_of_ble_eq_true rfl⟩) (pV (va_recv hK hP (q := (RX12, TX12, 34)) (ci := 16) (q0 := k27) rfl hk27) hP hK hD hN) rfl rfl hl.1 rfl (lv_room (Nat.le_of_ble_eq_true rfl)) dX12_wheel_60 ⟨(Nat.zero_le _), (Nat.zero_le _)⟩) hS (fun q _ h => hFc q h) hFc (fun r28 u t H1 locs ht hvm hw hB hz1 hk1 hS => ?_)
      obtain ⟨c29, w30⟩ := hw
      obtain ⟨hP, hD⟩ := wd_post hFc ht hB
      generalize H1 = H at hP hS ⊢
      obtain ⟨S31, rfl⟩ : ∃ z, z = u := ⟨_, rfl⟩
      have t32 : stp [(12, 15), (12, 16), (31, 100)] [] [] S S31 := t23.tr w30 (by decide) (fun _ q => absurd q List.not_mem_nil)
      have xe33 : ext S21 S31 := w30.x
      have k34 : (S31.I o1 16).toInt = (S21.I o1 16).toInt := by rw [(w30.fR o1 ((xe14.tr xe22).A h_o1).1 List.not_mem_nil).1 16 (by rw [((xe14.tr xe22).A h_o1).2.1]; decide) |>.1]
      refine W.widen (k := 0) (n := 0) (Nat.le_of_ble_eq_true rfl) (Nat.le_of_ble_eq_true rfl) ?_
      exact W.iret (v := r28) hx hb hr (fun t ht hW9 => ⟨⟨r28, S31, rfl, ⟨(by show (r28, S31) = f_X12_wheel S o1 x1; unfold f_X12_wheel; rw [if_neg c5, if_neg c8, l1_eq hS13, l1_eq hS21, l2_eq c29.symm]), t32⟩, wd_end hP hK hD ht hW9.alike⟩, hS.F ht⟩) hS.2.2 dX12_wheel_63 hlocks
    · have c8i : (S.I o1 16).toInt = 16 := eq_v rfl rfl c8
      refine lv_aload_n hx hb dX12_wheel_29 rfl (lv_at hl 0 rfl) ?_
      refine lv_iconst (v := 2) hx hb dX12_wheel_30 (by decide) ?_
      have l32_2 : (2 : Int32).toInt = 2 := rfl
      have hFc := free_all hD hS hA
      obtain ⟨k35, gk35, hk35⟩ := wGt (cy := cy) X S h_o1.1 h_o1.2.1
      refine va_calli (va_runV (As := [.int (2 : Int32)]) (rest := []) ⟨hx, hb, hml, hown, hts⟩ (c_X12_fails l (cy := cy) (X := X) (D := D) S _ o1 h_o1 (2 : Int32) (hW)) (cwV 1 hts gX12_wheel_X12_fails rfl rfl rfl hd_X12_fails ⟨Nat.le_of_ble_eq_true rfl, Nat.le_of_ble_eq_true rfl⟩) (pV (va_recv hK hP (q := (RX12, TX12, 34)) (ci := 16) (q0 := k35) rfl hk35) hP hK hD hN) rfl rfl hl.1 rfl (lv_room (Nat.le_of_ble_eq_true rfl)) dX12_wheel_31 ⟨(Nat.zero_le _), (Nat.zero_le _)⟩) hS (fun q _ h => hFc q h) hFc (fun r36 u t H1 locs ht hvm hw hB hz1 hk1 hS => ?_)
      obtain ⟨c37, w38⟩ := hw
      obtain ⟨hP, hD⟩ := wd_post hFc ht hB
      generalize H1 = H at hP hS ⊢
      obtain ⟨S39, rfl⟩ : ∃ z, z = u := ⟨_, rfl⟩
      have t40 : stp [(12, 15), (12, 16), (31, 100)] [] [] S S39 := t0.tr w38 (by decide) (fun _ q => absurd q List.not_mem_nil)
      have xe41 : ext S S39 := w38.x
      have k42 : (S39.I o1 16).toInt = (S.I o1 16).toInt := by rw [(w38.fR o1 h_o1.1 List.not_mem_nil).1 16 (by rw [h_o1.2.1]; decide) |>.1]
      refine W.widen (k := 0) (n := 0) (Nat.le_of_ble_eq_true rfl) (Nat.le_of_ble_eq_true rfl) ?_
      exact W.iret (v := r36) hx hb hr (fun t ht hW9 => ⟨⟨r36, S39, rfl, ⟨(by show (r36, S39) = f_X12_wheel S o1 x1; unfold f_X12_wheel; rw [if_neg c5, if_pos c8, l2_eq c37.symm]), t40⟩, wd_end hP hK hD ht hW9.alike⟩, hS.F ht⟩) hS.2.2 dX12_wheel_34 hlocks
  · have c5i : (f_X12_in x1.toInt64 (15 : Int64) (127 : Int64)).toInt = 0 := eq_v rfl rfl c5
    refine lv_aload_n hx hb dX12_wheel_14 rfl (lv_at hl 0 rfl) ?_
    refine lv_iconst (v := 1) hx hb dX12_wheel_15 (by decide) ?_
    have l32_1 : (1 : Int32).toInt = 1 := rfl
    have hFc := free_all hD hS hA
    obtain ⟨k43, gk43, hk43⟩ := wGt (cy := cy) X S h_o1.1 h_o1.2.1
    refine va_calli (va_runV (As := [.int (1 : Int32)]) (rest := []) ⟨hx, hb, hml, hown, hts⟩ (c_X12_fails l (cy := cy) (X := X) (D := D) S _ o1 h_o1 (1 : Int32) (hW)) (cwV 1 hts gX12_wheel_X12_fails rfl rfl rfl hd_X12_fails ⟨Nat.le_of_ble_eq_true rfl, Nat.le_of_ble_eq_true rfl⟩) (pV (va_recv hK hP (q := (RX12, TX12, 34)) (ci := 16) (q0 := k43) rfl hk43) hP hK hD hN) rfl rfl hl.1 rfl (lv_room (Nat.le_of_ble_eq_true rfl)) dX12_wheel_16 ⟨(Nat.zero_le _), (Nat.zero_le _)⟩) hS (fun q _ h => hFc q h) hFc (fun r44 u t H1 locs ht hvm hw hB hz1 hk1 hS => ?_)
    obtain ⟨c45, w46⟩ := hw
    obtain ⟨hP, hD⟩ := wd_post hFc ht hB
    generalize H1 = H at hP hS ⊢
    obtain ⟨S47, rfl⟩ : ∃ z, z = u := ⟨_, rfl⟩
    have t48 : stp [(12, 15), (12, 16), (31, 100)] [] [] S S47 := t0.tr w46 (by decide) (fun _ q => absurd q List.not_mem_nil)
    have xe49 : ext S S47 := w46.x
    have k50 : (S47.I o1 16).toInt = (S.I o1 16).toInt := by rw [(w46.fR o1 h_o1.1 List.not_mem_nil).1 16 (by rw [h_o1.2.1]; decide) |>.1]
    refine W.widen (k := 0) (n := 0) (Nat.le_of_ble_eq_true rfl) (Nat.le_of_ble_eq_true rfl) ?_
    exact W.iret (v := r44) hx hb hr (fun t ht hW9 => ⟨⟨r44, S47, rfl, ⟨(by show (r44, S47) = f_X12_wheel S o1 x1; unfold f_X12_wheel; rw [if_pos c5, l2_eq c45.symm]), t48⟩, wd_end hP hK hD ht hW9.alike⟩, hS.F ht⟩) hS.2.2 dX12_wheel_19 hlocks
theorem hd_X12_offOf : yX12_offOf.cls = RX12 ∧ yX12_offOf.cls ≠ "java/lang/invoke/MethodHandle" ∧ yX12_offOf.cls ≠ "java/lang/invoke/VarHandle" ∧ (parseMethodDescriptor yX12_offOf.desc).map (fun d => d.parameters.length) = some 3 := by decide +kernel
set_option maxHeartbeats 4000000 in
set_option maxRecDepth 100000 in
theorem c_X12_offOf (l : Launch) {D : va_G} {cy : Nat → ClassId} {X : va_W} (S : wPS) (sz : Nat) (o1 : Nat) (h_o1 : isA S o1 17) (x1 : Int64) (x2 : Int64) (n1 : S.n o1 = 4) : Met l yX12_offOf wsX12_offOf ({ frames := 1, cells := 0, slots := 0, locals := 13 }) (va_Pc [.ref o1, .long x1, .long x2] (fun U => U.heap.size = sz ∧ WD D cy X (fun _ => True) S U ∧ NW U)) (va_Ql (fun r (_ : Unit) => True) (fun _ t => WD D cy X (va_A (X ++ PL cy S) sz) S t) (va_A (X ++ PL cy S) sz)) 0 0 (va_A (X ++ PL cy S) sz) := by
  refine Met.ofW (cc := cX12_offOf) (maxL := 5) (ret := (some .long)) (by decide) rfl ?_
  intro p e s m args below meth c s₁ B hml hv
  obtain ⟨rfl, hsz, ⟨hP, hK, hD0⟩, hN⟩ := hv
  have hx := B.exec
  have hb := B.bytes
  have hr := B.returns
  have hts := atoms_spec (ws := wsX12_offOf) B.pre
  have hown : s.vm.findClass RX12 = some m.cls := findClass_of_methodNamed (x := yX12_offOf) B.named
  have hlocks := B.notSynchronized
  subst hsz
  have hD := hD0.self (sz := s.heap.size)
  generalize hAe : va_A (X ++ PL cy S) s.heap.size = A at hD ⊢
  have hA : ∀ q : Nat, s.heap.size ≤ q → A q := fun q h => by rw [← hAe]; exact Or.inr h
  have hS : va_S A s.heap s.heap [] := va_S.rf
  have hl := lv_entry ([.ref o1, .long x1, .long x2]) (n := 5) (Nat.le_of_ble_eq_true rfl)
  rw [lg_entry_eq]
  generalize (lg_sl ([.ref o1, .long x1, .long x2]) ++ List.replicate (5 - (lg_sl ([.ref o1, .long x1, .long x2])).length) Slot.unset).toArray = ls at hl ⊢
  have hl : lv_has ls 5 [(0, .ref o1), (1, .long x1), (3, .long x2)] := hl
  refine lv_aload_n hx hb dX12_offOf_0 rfl (lv_at hl 0 rfl) ?_
  refine lv_iconst (v := 0) hx hb dX12_offOf_1 (by decide) ?_
  obtain ⟨k1, gk1, hk1⟩ := wGt (cy := cy) X S h_o1.1 h_o1.2.1
  refine va_iald hx hb hK hP k1 2 hk1 rfl (inb n1 (by decide) (by decide)) dX12_offOf_2 ?_
  refine lv_i2l hx hb dX12_offOf_3 rfl ?_
  refine lv_aload_n hx hb dX12_offOf_4 rfl (lv_at hl 0 rfl) ?_
  refine lv_iconst (v := 2) hx hb dX12_offOf_5 (by decide) ?_
  obtain ⟨k2, gk2, hk2⟩ := wGt (cy := cy) X S h_o1.1 h_o1.2.1
  refine va_iald hx hb hK hP k2 2 hk2 rfl (inb n1 (by decide) (by decide)) dX12_offOf_6 ?_
  refine lv_i2l hx hb dX12_offOf_7 rfl ?_
  refine lv_lmul hx hb dX12_offOf_8 ?_
  refine lv_lload_n hx hb dX12_offOf_9 rfl (lv_at hl 2 rfl) ?_
  refine lv_lmul hx hb dX12_offOf_10 ?_
  refine lv_lload_n hx hb dX12_offOf_11 rfl (lv_at hl 1 rfl) ?_
  refine lv_aload_n hx hb dX12_offOf_12 rfl (lv_at hl 0 rfl) ?_
  refine lv_iconst (v := 1) hx hb dX12_offOf_13 (by decide) ?_
  obtain ⟨k3, gk3, hk3⟩ := wGt (cy := cy) X S h_o1.1 h_o1.2.1
  refine va_iald hx hb hK hP k3 2 hk3 rfl (inb n1 (by decide) (by decide)) dX12_offOf_14 ?_
  refine lv_i2l hx hb dX12_offOf_15 rfl ?_
  refine lv_lmul hx hb dX12_offOf_16 ?_
  refine lv_aload_n hx hb dX12_offOf_17 rfl (lv_at hl 0 rfl) ?_
  refine lv_iconst (v := 3) hx hb dX12_offOf_18 (by decide) ?_
  obtain ⟨k4, gk4, hk4⟩ := wGt (cy := cy) X S h_o1.1 h_o1.2.1
  refine va_iald hx hb hK hP k4 2 hk4 rfl (inb n1 (by decide) (by decide)) dX12_offOf_19 ?_
  refine lv_i2l hx hb dX12_offOf_20 rfl ?_
  refine lv_lmul hx hb dX12_offOf_21 ?_
  refine lv_lsub hx hb dX12_offOf_22 ?_
  refine va_mabs_long hx hb (hml.trans hl.1.symm) hown (hts (.methodLink RX12 239 Lib.MathLoose.abs_long.x) (by decide +kernel)) (hts (.static Lib.MathLoose.abs_long.x) (by decide +kernel)) (hts (.initialized "java/lang/Math") (by decide +kernel)) (hts (.code Lib.MathLoose.abs_long.x Lib.MathLoose.abs_long.code 2 (some .long)) (by decide +kernel)) (Nat.le_of_ble_eq_true rfl) (Nat.le_of_ble_eq_true rfl) (Nat.zero_le _) (Nat.zero_le _) dX12_offOf_23 ?_
  refine W.widen (k := 0) (n := 0) (Nat.le_of_ble_eq_true rfl) (Nat.le_of_ble_eq_true rfl) ?_
  exact W.lret (v := (if 0 < (((((S.i o1 (0 : Int32).toNatClampNeg).toInt64) * ((S.i o1 (2 : Int32).toNatClampNeg).toInt64)) * x2) - ((x1 * ((S.i o1 (1 : Int32).toNatClampNeg).toInt64)) * ((S.i o1 (3 : Int32).toNatClampNeg).toInt64))) then (((((S.i o1 (0 : Int32).toNatClampNeg).toInt64) * ((S.i o1 (2 : Int32).toNatClampNeg).toInt64)) * x2) - ((x1 * ((S.i o1 (1 : Int32).toNatClampNeg).toInt64)) * ((S.i o1 (3 : Int32).toNatClampNeg).toInt64))) else -(((((S.i o1 (0 : Int32).toNatClampNeg).toInt64) * ((S.i o1 (2 : Int32).toNatClampNeg).toInt64)) * x2) - ((x1 * ((S.i o1 (1 : Int32).toNatClampNeg).toInt64)) * ((S.i o1 (3 : Int32).toNatClampNeg).toInt64))))) hx hb hr (fun t ht hW9 => ⟨⟨(if 0 < (((((S.i o1 (0 : Int32).toNatClampNeg).toInt64) * ((S.i o1 (2 : Int32).toNatClampNeg).toInt64)) * x2) - ((x1 * ((S.i o1 (1 : Int32).toNatClampNeg).toInt64)) * ((S.i o1 (3 : Int32).toNatClampNeg).toInt64))) then (((((S.i o1 (0 : Int32).toNatClampNeg).toInt64) * ((S.i o1 (2 : Int32).toNatClampNeg).toInt64)) * x2) - ((x1 * ((S.i o1 (1 : Int32).toNatClampNeg).toInt64)) * ((S.i o1 (3 : Int32).toNatClampNeg).toInt64))) else -(((((S.i o1 (0 : Int32).toNatClampNeg).toInt64) * ((S.i o1 (2 : Int32).toNatClampNeg).toInt64)) * x2) - ((x1 * ((S.i o1 (1 : Int32).toNatClampNeg).toInt64)) * ((S.i o1 (3 : Int32).toNatClampNeg).toInt64)))), (), rfl, trivial, wd_end hP hK hD ht hW9.alike⟩, hS.F ht⟩) hS.2.2 dX12_offOf_26 hlocks
theorem hi_X12_isBetterFour_X12 : ∀ w ∈ u_ws RX12 TX12 34, w ∈ wsX12_isBetterFour := by decide +kernel
theorem hd_X12_isBetterFour : yX12_isBetterFour.cls = RX12 ∧ yX12_isBetterFour.cls ≠ "java/lang/invoke/MethodHandle" ∧ yX12_isBetterFour.cls ≠ "java/lang/invoke/VarHandle" ∧ (parseMethodDescriptor yX12_isBetterFour.desc).map (fun d => d.parameters.length) = some 2 := by decide +kernel
set_option maxHeartbeats 4000000 in
set_option maxRecDepth 100000 in
theorem c_X12_isBetterFour (l : Launch) {D : va_G} {cy : Nat → ClassId} {X : va_W} (S : wPS) (sz : Nat) (o1 : Nat) (h_o1 : isA S o1 12) (x1 : Int64) (x2 : Int64) (hW : wtB S [])  : Met l yX12_isBetterFour wsX12_isBetterFour ({ frames := 2, cells := 0, slots := 0, locals := 37 }) (va_Pc [.ref o1, .long x1, .long x2] (fun U => U.heap.size = sz ∧ WD D cy X (fun _ => True) S U ∧ NW U)) (va_Qi (fun r (_ : Unit) => narrow .boolean (.int r) = .int r) (fun _ t => WD D cy X (va_A (X ++ PL cy S) sz) S t) (va_A (X ++ PL cy S) sz)) 0 0 (va_A (X ++ PL cy S) sz) := by
  refine Met.ofW (cc := cX12_isBetterFour) (maxL := 10) (ret := (some .boolean)) (by decide) rfl ?_
  intro p e s m args below meth c s₁ B hml hv
  obtain ⟨rfl, hsz, ⟨hP, hK, hD0⟩, hN⟩ := hv
  have hx := B.exec
  have hb := B.bytes
  have hr := B.returns
  have hts := atoms_spec (ws := wsX12_isBetterFour) B.pre
  have hown : s.vm.findClass RX12 = some m.cls := findClass_of_methodNamed (x := yX12_isBetterFour) B.named
  have hlocks := B.notSynchronized
  subst hsz
  have hD := hD0.self (sz := s.heap.size)
  generalize hAe : va_A (X ++ PL cy S) s.heap.size = A at hD ⊢
  have hA : ∀ q : Nat, s.heap.size ≤ q → A q := fun q h => by rw [← hAe]; exact Or.inr h
  have hS : va_S A s.heap s.heap [] := va_S.rf
  have hl := lv_entry ([.ref o1, .long x1, .long x2]) (n := 10) (Nat.le_of_ble_eq_true rfl)
  rw [lg_entry_eq]
  generalize (lg_sl ([.ref o1, .long x1, .long x2]) ++ List.replicate (10 - (lg_sl ([.ref o1, .long x1, .long x2])).length) Slot.unset).toArray = ls at hl ⊢
  have hl : lv_has ls 10 [(0, .ref o1), (1, .long x1), (3, .long x2)] := hl
  refine lv_aload_n hx hb dX12_isBetterFour_0 rfl (lv_at hl 0 rfl) ?_
  have F1 := ((hW.at h_o1 List.not_mem_nil).to_12 h_o1.2.1).F4
  obtain ⟨k2, gk2, hk2⟩ := wGt (cy := cy) X S h_o1.1 h_o1.2.1
  simp only [kE, F1.1] at hk2
  refine va_get (D := D) (ci := 16) (v := .ref (S.f o1 4)) (C := RX12) (T := TX12) (N := 34) hx hb hts hi_X12_isBetterFour_X12 hown hK hP k2 hk2 rfl 4 (by decide) (hts (.fieldLink RX12 38 "HobhouseModel" "trial" "[I") (by decide +kernel)) (fun _ h9 => h9) rfl dX12_isBetterFour_1 ?_
  refine lv_lload_n hx hb dX12_isBetterFour_4 rfl (lv_at hl 1 rfl) ?_
  refine lv_lload_n hx hb dX12_isBetterFour_5 rfl (lv_at hl 2 rfl) ?_
  have hFc := free_all hD hS hA
  refine va_calll (va_runS (As := [.ref (S.f o1 4), .long x1, .long x2]) (rest := []) ⟨hx, hb, hml, hown, hts⟩ (c_X12_offOf l (cy := cy) (X := X) (D := D) S _ (S.f o1 4) F1.2.1 x1 x2 (F1.2.2)) (cwS 3 hts gX12_isBetterFour_X12_offOf rfl rfl rfl hd_X12_offOf ⟨Nat.le_of_ble_eq_true rfl, Nat.le_of_ble_eq_true rfl⟩) (pS hP hK hD hN) rfl rfl hl.1 rfl (lv_room (Nat.le_of_ble_eq_true rfl)) dX12_isBetterFour_6 ⟨(Nat.zero_le _), (Nat.zero_le _)⟩) hS (fun q _ h => hFc q h) hFc (fun r3 u t H1 locs ht hvm hw hB hz1 hk1 hS => ?_)
  clear hw
  obtain ⟨hP, hD⟩ := wd_post hFc ht hB
  generalize H1 = H at hP hS ⊢
  refine lv_aload_n hx hb dX12_isBetterFour_9 rfl (lv_at hl 0 rfl) ?_
  have F4 := ((hW.at h_o1 List.not_mem_nil).to_12 h_o1.2.1).F3
  obtain ⟨k5, gk5, hk5⟩ := wGt (cy := cy) X S h_o1.1 h_o1.2.1
  simp only [kE, F4.1] at hk5
  refine va_get (D := D) (ci := 16) (v := .ref (S.f o1 3)) (C := RX12) (T := TX12) (N := 34) hx hb hts hi_X12_isBetterFour_X12 hown hK hP k5 hk5 rfl 3 (by decide) (hts (.fieldLink RX12 35 "HobhouseModel" "four" "[I") (by decide +kernel)) (fun _ h9 => h9) rfl dX12_isBetterFour_10 ?_
  refine lv_iconst (v := 1) hx hb dX12_isBetterFour_13 (by decide) ?_
  obtain ⟨k6, gk6, hk6⟩ := wGt (cy := cy) X S F4.2.1.1 F4.2.1.2.1
  refine va_iald hx hb hK hP k6 2 hk6 rfl (inb F4.2.2 (by decide) (by decide)) dX12_isBetterFour_14 ?_
  refine lv_i2l hx hb dX12_isBetterFour_15 rfl ?_
  refine lv_lmul hx hb dX12_isBetterFour_16 ?_
  refine lv_aload_n hx hb dX12_isBetterFour_17 rfl (lv_at hl 0 rfl) ?_
  obtain ⟨k7, gk7, hk7⟩ := wGt (cy := cy) X S h_o1.1 h_o1.2.1
  simp only [kE, F4.1] at hk7
  refine va_get (D := D) (ci := 16) (v := .ref (S.f o1 3)) (C := RX12) (T := TX12) (N := 34) hx hb hts hi_X12_isBetterFour_X12 hown hK hP k7 hk7 rfl 3 (by decide) (hts (.fieldLink RX12 35 "HobhouseModel" "four" "[I") (by decide +kernel)) (fun _ h9 => h9) rfl dX12_isBetterFour_18 ?_
  refine lv_iconst (v := 3) hx hb dX12_isBetterFour_21 (by decide) ?_
  obtain ⟨k8, gk8, hk8⟩ := wGt (cy := cy) X S F4.2.1.1 F4.2.1.2.1
  refine va_iald hx hb hK hP k8 2 hk8 rfl (inb F4.2.2 (by decide) (by decide)) dX12_isBetterFour_22 ?_
  refine lv_i2l hx hb dX12_isBetterFour_23 rfl ?_
  refine lv_lmul hx hb dX12_isBetterFour_24 ?_
  refine lv_lstore (lv' := [(5, .long ((r3 * ((S.i (S.f o1 3) (1 : Int32).toNatClampNeg).toInt64)) * ((S.i (S.f o1 3) (3 : Int32).toNatClampNeg).toInt64))), (0, .ref o1), (1, .long x1), (3, .long x2)]) hx hb dX12_isBetterFour_25 hl (by decide) rfl (fun ls hl => ?_)
  refine lv_aload_n hx hb dX12_isBetterFour_27 rfl (lv_at hl 1 rfl) ?_
  obtain ⟨k9, gk9, hk9⟩ := wGt (cy := cy) X S h_o1.1 h_o1.2.1
  simp only [kE, F4.1] at hk9
  refine va_get (D := D) (ci := 16) (v := .ref (S.f o1 3)) (C := RX12) (T := TX12) (N := 34) hx hb hts hi_X12_isBetterFour_X12 hown hK hP k9 hk9 rfl 3 (by decide) (hts (.fieldLink RX12 35 "HobhouseModel" "four" "[I") (by decide +kernel)) (fun _ h9 => h9) rfl dX12_isBetterFour_28 ?_
  refine lv_lload_n hx hb dX12_isBetterFour_31 rfl (lv_at hl 2 rfl) ?_
  refine lv_lload_n hx hb dX12_isBetterFour_32 rfl (lv_at hl 3 rfl) ?_
  have hFc := free_all hD hS hA
  refine va_calll (va_runS (As := [.ref (S.f o1 3), .long x1, .long x2]) (rest := []) ⟨hx, hb, hml, hown, hts⟩ (c_X12_offOf l (cy := cy) (X := X) (D := D) S _ (S.f o1 3) F4.2.1 x1 x2 (F4.2.2)) (cwS 3 hts gX12_isBetterFour_X12_offOf rfl rfl rfl hd_X12_offOf ⟨Nat.le_of_ble_eq_true rfl, Nat.le_of_ble_eq_true rfl⟩) (pS hP hK hD hN) rfl rfl hl.1 rfl (lv_room (Nat.le_of_ble_eq_true rfl)) dX12_isBetterFour_33 ⟨(Nat.zero_le _), (Nat.zero_le _)⟩) hS (fun q _ h => hFc q h) hFc (fun r10 u t H1 locs ht hvm hw hB hz1 hk1 hS => ?_)
  clear hw
  obtain ⟨hP, hD⟩ := wd_post hFc ht hB
  generalize H1 = H at hP hS ⊢
  refine lv_aload_n hx hb dX12_isBetterFour_36 rfl (lv_at hl 1 rfl) ?_
  obtain ⟨k11, gk11, hk11⟩ := wGt (cy := cy) X S h_o1.1 h_o1.2.1
  simp only [kE, F1.1] at hk11
  refine va_get (D := D) (ci := 16) (v := .ref (S.f o1 4)) (C := RX12) (T := TX12) (N := 34) hx hb hts hi_X12_isBetterFour_X12 hown hK hP k11 hk11 rfl 4 (by decide) (hts (.fieldLink RX12 38 "HobhouseModel" "trial" "[I") (by decide +kernel)) (fun _ h9 => h9) rfl dX12_isBetterFour_37 ?_
  refine lv_iconst (v := 1) hx hb dX12_isBetterFour_40 (by decide) ?_
  obtain ⟨k12, gk12, hk12⟩ := wGt (cy := cy) X S F1.2.1.1 F1.2.1.2.1
  refine va_iald hx hb hK hP k12 2 hk12 rfl (inb F1.2.2 (by decide) (by decide)) dX12_isBetterFour_41 ?_
  refine lv_i2l hx hb dX12_isBetterFour_42 rfl ?_
  refine lv_lmul hx hb dX12_isBetterFour_43 ?_
  refine lv_aload_n hx hb dX12_isBetterFour_44 rfl (lv_at hl 1 rfl) ?_
  obtain ⟨k13, gk13, hk13⟩ := wGt (cy := cy) X S h_o1.1 h_o1.2.1
  simp only [kE, F1.1] at hk13
  refine va_get (D := D) (ci := 16) (v := .ref (S.f o1 4)) (C := RX12) (T := TX12) (N := 34) hx hb hts hi_X12_isBetterFour_X12 hown hK hP k13 hk13 rfl 4 (by decide) (hts (.fieldLink RX12 38 "HobhouseModel" "trial" "[I") (by decide +kernel)) (fun _ h9 => h9) rfl dX12_isBetterFour_45 ?_
  refine lv_iconst (v := 3) hx hb dX12_isBetterFour_48 (by decide) ?_
  obtain ⟨k14, gk14, hk14⟩ := wGt (cy := cy) X S F1.2.1.1 F1.2.1.2.1
  refine va_iald hx hb hK hP k14 2 hk14 rfl (inb F1.2.2 (by decide) (by decide)) dX12_isBetterFour_49 ?_
  refine lv_i2l hx hb dX12_isBetterFour_50 rfl ?_
  refine lv_lmul hx hb dX12_isBetterFour_51 ?_
  refine lv_lstore (lv' := [(7, .long ((r10 * ((S.i (S.f o1 4) (1 : Int32).toNatClampNeg).toInt64)) * ((S.i (S.f o1 4) (3 : Int32).toNatClampNeg).toInt64))), (5, .long ((r3 * ((S.i (S.f o1 3) (1 : Int32).toNatClampNeg).toInt64)) * ((S.i (S.f o1 3) (3 : Int32).toNatClampNeg).toInt64))), (0, .ref o1), (1, .long x1), (3, .long x2)]) hx hb dX12_isBetterFour_52 hl (by decide) rfl (fun ls hl => ?_)
  refine lv_lload hx hb dX12_isBetterFour_54 (lv_at hl 1 rfl) ?_
  refine lv_lload hx hb dX12_isBetterFour_56 (lv_at hl 0 rfl) ?_
  refine W.lcmp hx hb dX12_isBetterFour_58 ?_
  refine lv_if_eq (tgt := 76) hx hb dX12_isBetterFour_59 (by decide) (fun c15 => ?_) (fun c15 => ?_)
  · refine lv_iconst (v := 0) hx hb dX12_isBetterFour_76 (by decide) ?_
    refine lv_istore (lv' := [(9, .int (0 : Int32)), (7, .long ((r10 * ((S.i (S.f o1 4) (1 : Int32).toNatClampNeg).toInt64)) * ((S.i (S.f o1 4) (3 : Int32).toNatClampNeg).toInt64))), (5, .long ((r3 * ((S.i (S.f o1 3) (1 : Int32).toNatClampNeg).toInt64)) * ((S.i (S.f o1 3) (3 : Int32).toNatClampNeg).toInt64))), (0, .ref o1), (1, .long x1), (3, .long x2)]) hx hb dX12_isBetterFour_77 hl (by decide) rfl (fun ls hl => ?_)
    have l32_0 : (0 : Int32).toInt = 0 := rfl
    have loop79 : ∀ (n : Nat) (w79_9 : Int32) (H : Heap) (locs : List Loc) (ls : Array Slot), (4 - w79_9.toInt).toNat < n → 0 ≤ w79_9.toInt ∧ w79_9.toInt ≤ 4 → va_P D vwCl (X ++ PL cy S) H → va_S A s.heap H locs → lv_has ls 10 [(9, .int w79_9), (7, .long ((r10 * ((S.i (S.f o1 4) (1 : Int32).toNatClampNeg).toInt64)) * ((S.i (S.f o1 4) (3 : Int32).toNatClampNeg).toInt64))), (5, .long ((r3 * ((S.i (S.f o1 3) (1 : Int32).toNatClampNeg).toInt64)) * ((S.i (S.f o1 3) (3 : Int32).toNatClampNeg).toInt64))), (0, .ref o1), (1, .long x1), (3, .long x2)] → (∀ (w79_9x : Int32) (H : Heap) (locs : List Loc) (ls : Array Slot), 0 ≤ w79_9x.toInt ∧ w79_9x.toInt ≤ 4 → va_P D vwCl (X ++ PL cy S) H → va_S A s.heap H locs → lv_has ls 10 [(9, .int w79_9x), (7, .long ((r10 * ((S.i (S.f o1 4) (1 : Int32).toNatClampNeg).toInt64)) * ((S.i (S.f o1 4) (3 : Int32).toNatClampNeg).toInt64))), (5, .long ((r3 * ((S.i (S.f o1 3) (1 : Int32).toNatClampNeg).toInt64)) * ((S.i (S.f o1 3) (3 : Int32).toNatClampNeg).toInt64))), (0, .ref o1), (1, .long x1), (3, .long x2)] → W p l e (headSpec wsX12_isBetterFour ({ frames := 2, cells := 0, slots := 0, locals := 37 } : Room)).room s m [.ref o1, .long x1, .long x2].toArray below meth c H locs 0 0 (MQ below (va_Qi (fun r (_ : Unit) => narrow .boolean (.int r) = .int r) (fun _ t => WD D cy X A S t) A) [.ref o1, .long x1, .long x2].toArray s 0 0 A) (F0 m 131 ls [])) → W p l e (headSpec wsX12_isBetterFour ({ frames := 2, cells := 0, slots := 0, locals := 37 } : Room)).room s m [.ref o1, .long x1, .long x2].toArray below meth c H locs 0 0 (MQ below (va_Qi (fun r (_ : Unit) => narrow .boolean (.int r) = .int r) (fun _ t => WD D cy X A S t) A) [.ref o1, .long x1, .long x2].toArray s 0 0 A) (F0 m 79 ls []) := by
      intro n79
      induction n79 with
      | zero => intro w79_9 H locs ls hm; exact absurd hm (Nat.not_lt_zero _)
      | succ n79 ih79 =>
        intro w79_9 H locs ls hm79 hi79 hP hS hl ko79
        refine lv_iload hx hb dX12_isBetterFour_79 (lv_at hl 0 rfl) ?_
        refine lv_iconst (v := 4) hx hb dX12_isBetterFour_81 (by decide) ?_
        refine lv_icmp_ge (tgt := 131) hx hb dX12_isBetterFour_82 (by decide) (fun c16 => ?_) (fun c16 => ?_)
        · have c16i : 4 ≤ w79_9.toInt := le_v rfl rfl c16
          exact ko79 w79_9 _ _ _ (by omega) hP hS (lv_sub hl [0, 1, 2, 3, 4, 5] rfl)
        · have c16i : w79_9.toInt < 4 := nle_v rfl rfl c16
          refine lv_aload_n hx hb dX12_isBetterFour_85 rfl (lv_at hl 3 rfl) ?_
          obtain ⟨k17, gk17, hk17⟩ := wGt (cy := cy) X S h_o1.1 h_o1.2.1
          simp only [kE, F1.1] at hk17
          refine va_get (D := D) (ci := 16) (v := .ref (S.f o1 4)) (C := RX12) (T := TX12) (N := 34) hx hb hts hi_X12_isBetterFour_X12 hown hK hP k17 hk17 rfl 4 (by decide) (hts (.fieldLink RX12 38 "HobhouseModel" "trial" "[I") (by decide +kernel)) (fun _ h9 => h9) rfl dX12_isBetterFour_86 ?_
          refine lv_iload hx hb dX12_isBetterFour_89 (lv_at hl 0 rfl) ?_
          obtain ⟨k18, gk18, hk18⟩ := wGt (cy := cy) X S F1.2.1.1 F1.2.1.2.1
          refine va_iald hx hb hK hP k18 2 hk18 rfl (inb (m := 4) F1.2.2 (by omega) (by omega)) dX12_isBetterFour_91 ?_
          refine lv_aload_n hx hb dX12_isBetterFour_92 rfl (lv_at hl 3 rfl) ?_
          obtain ⟨k19, gk19, hk19⟩ := wGt (cy := cy) X S h_o1.1 h_o1.2.1
          simp only [kE, F4.1] at hk19
          refine va_get (D := D) (ci := 16) (v := .ref (S.f o1 3)) (C := RX12) (T := TX12) (N := 34) hx hb hts hi_X12_isBetterFour_X12 hown hK hP k19 hk19 rfl 3 (by decide) (hts (.fieldLink RX12 35 "HobhouseModel" "four" "[I") (by decide +kernel)) (fun _ h9 => h9) rfl dX12_isBetterFour_93 ?_
          refine lv_iload hx hb dX12_isBetterFour_96 (lv_at hl 0 rfl) ?_
          obtain ⟨k20, gk20, hk20⟩ := wGt (cy := cy) X S F4.2.1.1 F4.2.1.2.1
          refine va_iald hx hb hK hP k20 2 hk20 rfl (inb (m := 4) F4.2.2 (by omega) (by omega)) dX12_isBetterFour_98 ?_
          refine lv_icmp_eq (tgt := 125) hx hb dX12_isBetterFour_99 (by decide) (fun c21 => ?_) (fun c21 => ?_)
          · have c21i : (S.i (S.f o1 4) w79_9.toNatClampNeg).toInt = (S.i (S.f o1 3) w79_9.toNatClampNeg).toInt := eq_v rfl rfl c21
            refine lv_iinc (v := w79_9 + (1 : Int32)) (lv' := [(9, .int (w79_9 + (1 : Int32))), (7, .long ((r10 * ((S.i (S.f o1 4) (1 : Int32).toNatClampNeg).toInt64)) * ((S.i (S.f o1 4) (3 : Int32).toNatClampNeg).toInt64))), (5, .long ((r3 * ((S.i (S.f o1 3) (1 : Int32).toNatClampNeg).toInt64)) * ((S.i (S.f o1 3) (3 : Int32).toNatClampNeg).toInt64))), (0, .ref o1), (1, .long x1), (3, .long x2)]) hx hb dX12_isBetterFour_125 hl (k := 0) rfl (by rfl) (by decide) rfl (fun ls hl => ?_)
            refine lv_goto (tgt := 79) hx hb dX12_isBetterFour_128 (by decide) ?_
            have l32_1 : (1 : Int32).toInt = 1 := rfl
            have i22 : (w79_9 + (1 : Int32)).toInt = w79_9.toInt + 1 := t_addr (n := 1) rfl (by omega)
            exact ih79 (w79_9 + (1 : Int32)) _ _ _ (Nat.lt_of_lt_of_le (by omega) (Nat.le_of_lt_succ hm79)) (by omega) hP hS (lv_sub hl [0, 1, 2, 3, 4, 5] rfl) ko79
          · have c21i : ¬ (S.i (S.f o1 4) w79_9.toNatClampNeg).toInt = (S.i (S.f o1 3) w79_9.toNatClampNeg).toInt := neq_v rfl rfl c21
            refine lv_aload_n hx hb dX12_isBetterFour_102 rfl (lv_at hl 3 rfl) ?_
            obtain ⟨k23, gk23, hk23⟩ := wGt (cy := cy) X S h_o1.1 h_o1.2.1
            simp only [kE, F1.1] at hk23
            refine va_get (D := D) (ci := 16) (v := .ref (S.f o1 4)) (C := RX12) (T := TX12) (N := 34) hx hb hts hi_X12_isBetterFour_X12 hown hK hP k23 hk23 rfl 4 (by decide) (hts (.fieldLink RX12 38 "HobhouseModel" "trial" "[I") (by decide +kernel)) (fun _ h9 => h9) rfl dX12_isBetterFour_103 ?_
            refine lv_iload hx hb dX12_isBetterFour_106 (lv_at hl 0 rfl) ?_
            obtain ⟨k24, gk24, hk24⟩ := wGt (cy := cy) X S F1.2.1.1 F1.2.1.2.1
            refine va_iald hx hb hK hP k24 2 hk24 rfl (inb (m := 4) F1.2.2 (by omega) (by omega)) dX12_isBetterFour_108 ?_
            refine lv_aload_n hx hb dX12_isBetterFour_109 rfl (lv_at hl 3 rfl) ?_
            obtain ⟨k25, gk25, hk25⟩ := wGt (cy := cy) X S h_o1.1 h_o1.2.1
            simp only [kE, F4.1] at hk25
            refine va_get (D := D) (ci := 16) (v := .ref (S.f o1 3)) (C := RX12) (T := TX12) (N := 34) hx hb hts hi_X12_isBetterFour_X12 hown hK hP k25 hk25 rfl 3 (by decide) (hts (.fieldLink RX12 35 "HobhouseModel" "four" "[I") (by decide +kernel)) (fun _ h9 => h9) rfl dX12_isBetterFour_110 ?_
            refine lv_iload hx hb dX12_isBetterFour_113 (lv_at hl 0 rfl) ?_
            obtain ⟨k26, gk26, hk26⟩ := wGt (cy := cy) X S F4.2.1.1 F4.2.1.2.1
            refine va_iald hx hb hK hP k26 2 hk26 rfl (inb (m := 4) F4.2.2 (by omega) (by omega)) dX12_isBetterFour_115 ?_
            refine lv_icmp_ge (tgt := 123) hx hb dX12_isBetterFour_116 (by decide) (fun c27 => ?_) (fun c27 => ?_)
            · have c27i : (S.i (S.f o1 3) w79_9.toNatClampNeg).toInt ≤ (S.i (S.f o1 4) w79_9.toNatClampNeg).toInt := le_v rfl rfl c27
              refine lv_iconst (v := 0) hx hb dX12_isBetterFour_123 (by decide) ?_
              refine W.widen (k := 0) (n := 0) (Nat.le_of_ble_eq_true rfl) (Nat.le_of_ble_eq_true rfl) ?_
              exact W.zret (v := (0 : Int32)) hx hb hr (by rfl) (fun t ht hW9 => ⟨⟨(0 : Int32), (), rfl, (by rfl), wd_end hP hK hD ht hW9.alike⟩, hS.F ht⟩) hS.2.2 dX12_isBetterFour_124 hlocks
            · have c27i : (S.i (S.f o1 4) w79_9.toNatClampNeg).toInt < (S.i (S.f o1 3) w79_9.toNatClampNeg).toInt := nle_v rfl rfl c27
              refine lv_iconst (v := 1) hx hb dX12_isBetterFour_119 (by decide) ?_
              refine lv_goto (tgt := 124) hx hb dX12_isBetterFour_120 (by decide) ?_
              refine W.widen (k := 0) (n := 0) (Nat.le_of_ble_eq_true rfl) (Nat.le_of_ble_eq_true rfl) ?_
              exact W.zret (v := (1 : Int32)) hx hb hr (by rfl) (fun t ht hW9 => ⟨⟨(1 : Int32), (), rfl, (by rfl), wd_end hP hK hD ht hW9.alike⟩, hS.F ht⟩) hS.2.2 dX12_isBetterFour_124 hlocks
    refine loop79 5 (0 : Int32) _ _ _ (by omega) (by omega) hP hS (lv_sub hl [0, 1, 2, 3, 4, 5] rfl) (fun z29 H locs ls hi79 hP hS hl => ?_)
    refine lv_iconst (v := 0) hx hb dX12_isBetterFour_131 (by decide) ?_
    refine W.widen (k := 0) (n := 0) (Nat.le_of_ble_eq_true rfl) (Nat.le_of_ble_eq_true rfl) ?_
    exact W.zret (v := (0 : Int32)) hx hb hr (by rfl) (fun t ht hW9 => ⟨⟨(0 : Int32), (), rfl, (by rfl), wd_end hP hK hD ht hW9.alike⟩, hS.F ht⟩) hS.2.2 dX12_isBetterFour_132 hlocks
  · refine lv_lload hx hb dX12_isBetterFour_62 (lv_at hl 1 rfl) ?_
    refine lv_lload hx hb dX12_isBetterFour_64 (lv_at hl 0 rfl) ?_
    refine W.lcmp hx hb dX12_isBetterFour_66 ?_
    refine lv_if_ge (tgt := 74) hx hb dX12_isBetterFour_67 (by decide) (fun c30 => ?_) (fun c30 => ?_)
    · refine lv_iconst (v := 0) hx hb dX12_isBetterFour_74 (by decide) ?_
      refine W.widen (k := 0) (n := 0) (Nat.le_of_ble_eq_true rfl) (Nat.le_of_ble_eq_true rfl) ?_
      exact W.zret (v := (0 : Int32)) hx hb hr (by rfl) (fun t ht hW9 => ⟨⟨(0 : Int32), (), rfl, (by rfl), wd_end hP hK hD ht hW9.alike⟩, hS.F ht⟩) hS.2.2 dX12_isBetterFour_75 hlocks
    · refine lv_iconst (v := 1) hx hb dX12_isBetterFour_70 (by decide) ?_
      refine lv_goto (tgt := 75) hx hb dX12_isBetterFour_71 (by decide) ?_
      refine W.widen (k := 0) (n := 0) (Nat.le_of_ble_eq_true rfl) (Nat.le_of_ble_eq_true rfl) ?_
      exact W.zret (v := (1 : Int32)) hx hb hr (by rfl) (fun t ht hW9 => ⟨⟨(1 : Int32), (), rfl, (by rfl), wd_end hP hK hD ht hW9.alike⟩, hS.F ht⟩) hS.2.2 dX12_isBetterFour_75 hlocks
theorem hi_X12_tries_X12 : ∀ w ∈ u_ws RX12 TX12 34, w ∈ wsX12_tries := by decide +kernel
theorem hd_X12_tries : yX12_tries.cls = RX12 ∧ yX12_tries.cls ≠ "java/lang/invoke/MethodHandle" ∧ yX12_tries.cls ≠ "java/lang/invoke/VarHandle" ∧ (parseMethodDescriptor yX12_tries.desc).map (fun d => d.parameters.length) = some 4 := by decide +kernel
set_option maxHeartbeats 4000000 in
set_option maxRecDepth 100000 in
theorem c_X12_tries_4 (l : Launch) {D : va_G} {cy : Nat → ClassId} {X : va_W} (S : wPS) (sz : Nat) (o1 : Nat) (h_o1 : isA S o1 12) (x1 : Int32) (x2 : Int32) (x3 : Int64) (x4 : Int64) (hW : wtB S []) (h1 : x1.toInt = 4) : Met l yX12_tries wsX12_tries ({ frames := 3, cells := 0, slots := 0, locals := 66 }) (va_Pc [.ref o1, .int x1, .int x2, .long x3, .long x4] (fun U => U.heap.size = sz ∧ WD D cy X (fun _ => True) S U ∧ NW U)) (va_Qv (fun (u : wPS) => stp [(17, 100)] [] [] S u) (fun u t => WD D cy X (va_A (X ++ PL cy S) sz) u t) (va_A (X ++ PL cy S) sz)) 0 0 (va_A (X ++ PL cy S) sz) := by
  refine Met.ofW (cc := cX12_tries) (maxL := 8) (ret := none) (by decide) rfl ?_
  intro p e s m args below meth c s₁ B hml hv
  obtain ⟨rfl, hsz, ⟨hP, hK, hD0⟩, hN⟩ := hv
  have hx := B.exec
  have hb := B.bytes
  have hr := B.returns
  have hts := atoms_spec (ws := wsX12_tries) B.pre
  have hown : s.vm.findClass RX12 = some m.cls := findClass_of_methodNamed (x := yX12_tries) B.named
  have hlocks := B.notSynchronized
  subst hsz
  have hD := hD0.self (sz := s.heap.size)
  generalize hAe : va_A (X ++ PL cy S) s.heap.size = A at hD ⊢
  have hA : ∀ q : Nat, s.heap.size ≤ q → A q := fun q h => by rw [← hAe]; exact Or.inr h
  have hS : va_S A s.heap s.heap [] := va_S.rf
  have hl := lv_entry ([.ref o1, .int x1, .int x2, .long x3, .long x4]) (n := 8) (Nat.le_of_ble_eq_true rfl)
  rw [lg_entry_eq]
  generalize (lg_sl ([.ref o1, .int x1, .int x2, .long x3, .long x4]) ++ List.replicate (8 - (lg_sl ([.ref o1, .int x1, .int x2, .long x3, .long x4])).length) Slot.unset).toArray = ls at hl ⊢
  have hl : lv_has ls 8 [(0, .ref o1), (1, .int x1), (2, .int x2), (3, .long x3), (5, .long x4)] := hl
  have t0 : stp [(17, 100)] [] [] S S := stp.rf hW
  have r16 := ((hW.at h_o1 List.not_mem_nil).to_12 h_o1.2.1).R16
  refine lv_iload_n hx hb dX12_tries_0 rfl (lv_at hl 1 rfl) ?_
  refine lv_iconst (v := 4) hx hb dX12_tries_1 (by decide) ?_
  refine lv_icmp_ne (tgt := 55) hx hb dX12_tries_2 (by decide) (fun c1 => ?_) (fun c1 => ?_)
  · have c1i : ¬ x1.toInt = 4 := neq_v rfl rfl c1
    exact False.elim (by omega)
  · have c1i : x1.toInt = 4 := eq_v rfl rfl c1
    refine lv_aload_n hx hb dX12_tries_5 rfl (lv_at hl 0 rfl) ?_
    have F2 := ((hW.at h_o1 List.not_mem_nil).to_12 h_o1.2.1).F3
    obtain ⟨k3, gk3, hk3⟩ := wGt (cy := cy) X S h_o1.1 h_o1.2.1
    simp only [kE, F2.1] at hk3
    refine va_get (D := D) (ci := 16) (v := .ref (S.f o1 3)) (C := RX12) (T := TX12) (N := 34) hx hb hts hi_X12_tries_X12 hown hK hP k3 hk3 rfl 3 (by decide) (hts (.fieldLink RX12 35 "HobhouseModel" "four" "[I") (by decide +kernel)) (fun _ h9 => h9) rfl dX12_tries_6 ?_
    refine lv_iconst (v := 0) hx hb dX12_tries_9 (by decide) ?_
    obtain ⟨k4, gk4, hk4⟩ := wGt (cy := cy) X S F2.2.1.1 F2.2.1.2.1
    refine va_iald hx hb hK hP k4 2 hk4 rfl (inb F2.2.2 (by decide) (by decide)) dX12_tries_10 ?_
    refine lv_if_le (tgt := 25) hx hb dX12_tries_11 (by decide) (fun c5 => ?_) (fun c5 => ?_)
    · have c5i : (S.i (S.f o1 3) (0 : Int32).toNatClampNeg).toInt ≤ 0 := le_v rfl rfl c5
      refine lv_iconst (v := 0) hx hb dX12_tries_25 (by decide) ?_
      refine lv_istore (lv' := [(7, .int (0 : Int32)), (0, .ref o1), (1, .int x1), (2, .int x2), (3, .long x3), (5, .long x4)]) hx hb dX12_tries_26 hl (by decide) rfl (fun ls hl => ?_)
      have l32_0 : (0 : Int32).toInt = 0 := rfl
      have loop28 : ∀ (n : Nat) (S28_ : wPS) (w28_7 : Int32) (H : Heap) (locs : List Loc) (ls : Array Slot), (4 - w28_7.toInt).toNat < n → 0 ≤ w28_7.toInt ∧ w28_7.toInt ≤ 4 → stp [(17, 100)] [] [] S S28_ → va_P D vwCl (X ++ PL cy S28_) H → va_D A (X ++ PL cy S28_) → va_S A s.heap H locs → lv_has ls 8 [(7, .int w28_7), (0, .ref o1), (1, .int x1), (2, .int x2), (3, .long x3), (5, .long x4)] → (∀ (S28_x : wPS) (w28_7x : Int32) (H : Heap) (locs : List Loc) (ls : Array Slot), 0 ≤ w28_7x.toInt ∧ w28_7x.toInt ≤ 4 → stp [(17, 100)] [] [] S S28_x → va_P D vwCl (X ++ PL cy S28_x) H → va_D A (X ++ PL cy S28_x) → va_S A s.heap H locs → lv_has ls 8 [(7, .int w28_7x), (0, .ref o1), (1, .int x1), (2, .int x2), (3, .long x3), (5, .long x4)] → W p l e (headSpec wsX12_tries ({ frames := 3, cells := 0, slots := 0, locals := 66 } : Room)).room s m [.ref o1, .int x1, .int x2, .long x3, .long x4].toArray below meth c H locs 0 0 (MQ below (va_Qv (fun (u : wPS) => stp [(17, 100)] [] [] S u) (fun u t => WD D cy X A u t) A) [.ref o1, .int x1, .int x2, .long x3, .long x4].toArray s 0 0 A) (F0 m 54 ls [])) → W p l e (headSpec wsX12_tries ({ frames := 3, cells := 0, slots := 0, locals := 66 } : Room)).room s m [.ref o1, .int x1, .int x2, .long x3, .long x4].toArray below meth c H locs 0 0 (MQ below (va_Qv (fun (u : wPS) => stp [(17, 100)] [] [] S u) (fun u t => WD D cy X A u t) A) [.ref o1, .int x1, .int x2, .long x3, .long x4].toArray s 0 0 A) (F0 m 28 ls []) := by
        intro n28
        induction n28 with
        | zero => intro S28_ w28_7 H locs ls hm; exact absurd hm (Nat.not_lt_zero _)
        | succ n28 ih28 =>
          intro S28_ w28_7 H locs ls hm28 hi28 hsh28 hP hD hS hl ko28
          refine lv_iload hx hb dX12_tries_28 (lv_at hl 0 rfl) ?_
          refine lv_iconst (v := 4) hx hb dX12_tries_30 (by decide) ?_
          refine lv_icmp_ge (tgt := 54) hx hb dX12_tries_31 (by decide) (fun c6 => ?_) (fun c6 => ?_)
          · have c6i : 4 ≤ w28_7.toInt := le_v rfl rfl c6
            exact ko28 S28_ w28_7 _ _ _ (by omega) hsh28 hP hD hS (lv_sub hl [0, 1, 2, 3, 4, 5] rfl)
          · have c6i : w28_7.toInt < 4 := nle_v rfl rfl c6
            refine lv_aload_n hx hb dX12_tries_34 rfl (lv_at hl 1 rfl) ?_
            obtain ⟨k7, gk7, hk7⟩ := wGt (cy := cy) X S28_ (hsh28.x.A h_o1).1 (hsh28.x.A h_o1).2.1
            simp only [kE, (hsh28.x.F h_o1 (by decide) F2.1)] at hk7
            refine va_get (D := D) (ci := 16) (v := .ref (S.f o1 3)) (C := RX12) (T := TX12) (N := 34) hx hb hts hi_X12_tries_X12 hown hK hP k7 hk7 rfl 3 (by decide) (hts (.fieldLink RX12 35 "HobhouseModel" "four" "[I") (by decide +kernel)) (fun _ h9 => h9) rfl dX12_tries_35 ?_
            refine lv_iload hx hb dX12_tries_38 (lv_at hl 0 rfl) ?_
            refine lv_aload_n hx hb dX12_tries_40 rfl (lv_at hl 1 rfl) ?_
            have F8 := ((hW.at h_o1 List.not_mem_nil).to_12 h_o1.2.1).F4
            obtain ⟨k9, gk9, hk9⟩ := wGt (cy := cy) X S28_ (hsh28.x.A h_o1).1 (hsh28.x.A h_o1).2.1
            simp only [kE, (hsh28.x.F h_o1 (by decide) F8.1)] at hk9
            refine va_get (D := D) (ci := 16) (v := .ref (S.f o1 4)) (C := RX12) (T := TX12) (N := 34) hx hb hts hi_X12_tries_X12 hown hK hP k9 hk9 rfl 4 (by decide) (hts (.fieldLink RX12 38 "HobhouseModel" "trial" "[I") (by decide +kernel)) (fun _ h9 => h9) rfl dX12_tries_41 ?_
            refine lv_iload hx hb dX12_tries_44 (lv_at hl 0 rfl) ?_
            obtain ⟨k10, gk10, hk10⟩ := wGt (cy := cy) X S28_ (hsh28.x.A F8.2.1).1 (hsh28.x.A F8.2.1).2.1
            refine va_iald hx hb hK hP k10 2 hk10 rfl (inb (m := 4) ((hsh28.x.n F8.2.1).trans F8.2.2) (by omega) (by omega)) dX12_tries_46 ?_
            obtain ⟨k11, gk11, hk11⟩ := wGt (cy := cy) X S28_ (hsh28.x.A F2.2.1).1 (hsh28.x.A F2.2.1).2.1
            refine va_iast hx hb hK hP hD hS k11 2 hk11 rfl (inb (m := 4) ((hsh28.x.n F2.2.1).trans F2.2.2) (by omega) (by omega)) dX12_tries_47 (fun H locs hP2 hD2 hS => ?_)
            have e9 := wPui (cy := cy) (f := (upd (S28_.i (S.f o1 3)) w28_7.toNatClampNeg (S28_.i (S.f o1 4) w28_7.toNatClampNeg))) hD (hsh28.x.A F2.2.1).1 (hsh28.x.A F2.2.1).2.1 gk11 rfl
            obtain ⟨S12, hS12⟩ : ∃ z, S28_.si (S.f o1 3) (upd (S28_.i (S.f o1 3)) w28_7.toNatClampNeg (S28_.i (S.f o1 4) w28_7.toNatClampNeg)) = z := ⟨_, rfl⟩
            have hP : va_P D vwCl (X ++ PL cy S12) H := by rw [← hS12, ← e9]; exact hP2
            have hD : va_D A (X ++ PL cy S12) := by rw [← hS12, ← e9]; exact hD2
            have xe13 : ext S28_ S12 := by rw [← hS12]; exact ext.si _ _ _
            have t14 : stp [(17, 100)] [] [] S S12 := by rw [← hS12]; exact hsh28.i (upd (S28_.i (S.f o1 3)) w28_7.toNatClampNeg (S28_.i (S.f o1 4) w28_7.toNatClampNeg)) (hsh28.x.A F2.2.1) (by decide)
            refine lv_iinc (v := w28_7 + (1 : Int32)) (lv' := [(7, .int (w28_7 + (1 : Int32))), (0, .ref o1), (1, .int x1), (2, .int x2), (3, .long x3), (5, .long x4)]) hx hb dX12_tries_48 hl (k := 0) rfl (by rfl) (by decide) rfl (fun ls hl => ?_)
            refine lv_goto (tgt := 28) hx hb dX12_tries_51 (by decide) ?_
            have l32_1 : (1 : Int32).toInt = 1 := rfl
            have i15 : (w28_7 + (1 : Int32)).toInt = w28_7.toInt + 1 := t_addr (n := 1) rfl (by omega)
            exact ih28 S12 (w28_7 + (1 : Int32)) _ _ _ (Nat.lt_of_lt_of_le (by omega) (Nat.le_of_lt_succ hm28)) (by omega) t14 hP hD hS (lv_sub hl [0, 1, 2, 3, 4, 5] rfl) ko28
      refine loop28 5 S (0 : Int32) _ _ _ (by omega) (by omega) (stp.rf hW) hP hD hS (lv_sub hl [0, 1, 2, 3, 4, 5] rfl) (fun S17 z18 H locs ls hi28 hsh28 hP hD hS hl => ?_)
      have t19 : stp [(17, 100)] [] [] S S17 := t0.tr hsh28 (fun _ q => q) (fun _ q => Or.inl q)
      have et19 := hsh28.x
      refine W.widen (k := 0) (n := 0) (Nat.le_of_ble_eq_true rfl) (Nat.le_of_ble_eq_true rfl) ?_
      exact W.vret hx hb hr (fun t ht hW9 => ⟨⟨S17, rfl, t19, wd_end hP hK hD ht hW9.alike⟩, hS.F ht⟩) hS.2.2 dX12_tries_54 hlocks
    · have c5i : 0 < (S.i (S.f o1 3) (0 : Int32).toNatClampNeg).toInt := nle_v rfl rfl c5
      refine lv_aload_n hx hb dX12_tries_14 rfl (lv_at hl 0 rfl) ?_
      refine lv_lload_n hx hb dX12_tries_15 rfl (lv_at hl 3 rfl) ?_
      refine lv_lload hx hb dX12_tries_16 (lv_at hl 4 rfl) ?_
      have hFc := free_all hD hS hA
      obtain ⟨k20, gk20, hk20⟩ := wGt (cy := cy) X S h_o1.1 h_o1.2.1
      refine va_calli (va_runV (As := [.long x3, .long x4]) (rest := []) ⟨hx, hb, hml, hown, hts⟩ (c_X12_isBetterFour l (cy := cy) (X := X) (D := D) S _ o1 h_o1 x3 x4 (hW)) (cwV 2 hts gX12_tries_X12_isBetterFour rfl rfl rfl hd_X12_isBetterFour ⟨Nat.le_of_ble_eq_true rfl, Nat.le_of_ble_eq_true rfl⟩) (pV (va_recv hK hP (q := (RX12, TX12, 34)) (ci := 16) (q0 := k20) rfl hk20) hP hK hD hN) rfl rfl hl.1 rfl (lv_room (Nat.le_of_ble_eq_true rfl)) dX12_tries_18 ⟨(Nat.zero_le _), (Nat.zero_le _)⟩) hS (fun q _ h => hFc q h) hFc (fun r21 u t H1 locs ht hvm hw hB hz1 hk1 hS => ?_)
      have y22 := hw
      obtain ⟨hP, hD⟩ := wd_post hFc ht hB
      generalize H1 = H at hP hS ⊢
      refine lv_if_ne (tgt := 25) hx hb dX12_tries_21 (by decide) (fun c23 => ?_) (fun c23 => ?_)
      · have c23i : ¬ r21.toInt = 0 := neq_v rfl rfl c23
        refine lv_iconst (v := 0) hx hb dX12_tries_25 (by decide) ?_
        refine lv_istore (lv' := [(7, .int (0 : Int32)), (0, .ref o1), (1, .int x1), (2, .int x2), (3, .long x3), (5, .long x4)]) hx hb dX12_tries_26 hl (by decide) rfl (fun ls hl => ?_)
        have l32_0 : (0 : Int32).toInt = 0 := rfl
        have loop28 : ∀ (n : Nat) (S28_ : wPS) (w28_7 : Int32) (H : Heap) (locs : List Loc) (ls : Array Slot), (4 - w28_7.toInt).toNat < n → 0 ≤ w28_7.toInt ∧ w28_7.toInt ≤ 4 → stp [(17, 100)] [] [] S S28_ → va_P D vwCl (X ++ PL cy S28_) H → va_D A (X ++ PL cy S28_) → va_S A s.heap H locs → lv_has ls 8 [(7, .int w28_7), (0, .ref o1), (1, .int x1), (2, .int x2), (3, .long x3), (5, .long x4)] → (∀ (S28_x : wPS) (w28_7x : Int32) (H : Heap) (locs : List Loc) (ls : Array Slot), 0 ≤ w28_7x.toInt ∧ w28_7x.toInt ≤ 4 → stp [(17, 100)] [] [] S S28_x → va_P D vwCl (X ++ PL cy S28_x) H → va_D A (X ++ PL cy S28_x) → va_S A s.heap H locs → lv_has ls 8 [(7, .int w28_7x), (0, .ref o1), (1, .int x1), (2, .int x2), (3, .long x3), (5, .long x4)] → W p l e (headSpec wsX12_tries ({ frames := 3, cells := 0, slots := 0, locals := 66 } : Room)).room s m [.ref o1, .int x1, .int x2, .long x3, .long x4].toArray below meth c H locs 0 0 (MQ below (va_Qv (fun (u : wPS) => stp [(17, 100)] [] [] S u) (fun u t => WD D cy X A u t) A) [.ref o1, .int x1, .int x2, .long x3, .long x4].toArray s 0 0 A) (F0 m 54 ls [])) → W p l e (headSpec wsX12_tries ({ frames := 3, cells := 0, slots := 0, locals := 66 } : Room)).room s m [.ref o1, .int x1, .int x2, .long x3, .long x4].toArray below meth c H locs 0 0 (MQ below (va_Qv (fun (u : wPS) => stp [(17, 100)] [] [] S u) (fun u t => WD D cy X A u t) A) [.ref o1, .int x1, .int x2, .long x3, .long x4].toArray s 0 0 A) (F0 m 28 ls []) := by
          intro n28
          induction n28 with
          | zero => intro S28_ w28_7 H locs ls hm; exact absurd hm (Nat.not_lt_zero _)
          | succ n28 ih28 =>
            intro S28_ w28_7 H locs ls hm28 hi28 hsh28 hP hD hS hl ko28
            refine lv_iload hx hb dX12_tries_28 (lv_at hl 0 rfl) ?_
            refine lv_iconst (v := 4) hx hb dX12_tries_30 (by decide) ?_
            refine lv_icmp_ge (tgt := 54) hx hb dX12_tries_31 (by decide) (fun c24 => ?_) (fun c24 => ?_)
            · have c24i : 4 ≤ w28_7.toInt := le_v rfl rfl c24
              exact ko28 S28_ w28_7 _ _ _ (by omega) hsh28 hP hD hS (lv_sub hl [0, 1, 2, 3, 4, 5] rfl)
            · have c24i : w28_7.toInt < 4 := nle_v rfl rfl c24
              refine lv_aload_n hx hb dX12_tries_34 rfl (lv_at hl 1 rfl) ?_
              obtain ⟨k25, gk25, hk25⟩ := wGt (cy := cy) X S28_ (hsh28.x.A h_o1).1 (hsh28.x.A h_o1).2.1
              simp only [kE, (hsh28.x.F h_o1 (by decide) F2.1)] at hk25
              refine va_get (D := D) (ci := 16) (v := .ref (S.f o1 3)) (C := RX12) (T := TX12) (N := 34) hx hb hts hi_X12_tries_X12 hown hK hP k25 hk25 rfl 3 (by decide) (hts (.fieldLink RX12 35 "HobhouseModel" "four" "[I") (by decide +kernel)) (fun _ h9 => h9) rfl dX12_tries_35 ?_
              refine lv_iload hx hb dX12_tries_38 (lv_at hl 0 rfl) ?_
              refine lv_aload_n hx hb dX12_tries_40 rfl (lv_at hl 1 rfl) ?_
              have F26 := ((hW.at h_o1 List.not_mem_nil).to_12 h_o1.2.1).F4
              obtain ⟨k27, gk27, hk27⟩ := wGt (cy := cy) X S28_ (hsh28.x.A h_o1).1 (hsh28.x.A h_o1).2.1
              simp only [kE, (hsh28.x.F h_o1 (by decide) F26.1)] at hk27
              refine va_get (D := D) (ci := 16) (v := .ref (S.f o1 4)) (C := RX12) (T := TX12) (N := 34) hx hb hts hi_X12_tries_X12 hown hK hP k27 hk27 rfl 4 (by decide) (hts (.fieldLink RX12 38 "HobhouseModel" "trial" "[I") (by decide +kernel)) (fun _ h9 => h9) rfl dX12_tries_41 ?_
              refine lv_iload hx hb dX12_tries_44 (lv_at hl 0 rfl) ?_
              obtain ⟨k28, gk28, hk28⟩ := wGt (cy := cy) X S28_ (hsh28.x.A F26.2.1).1 (hsh28.x.A F26.2.1).2.1
              refine va_iald hx hb hK hP k28 2 hk28 rfl (inb (m := 4) ((hsh28.x.n F26.2.1).trans F26.2.2) (by omega) (by omega)) dX12_tries_46 ?_
              obtain ⟨k29, gk29, hk29⟩ := wGt (cy := cy) X S28_ (hsh28.x.A F2.2.1).1 (hsh28.x.A F2.2.1).2.1
              refine va_iast hx hb hK hP hD hS k29 2 hk29 rfl (inb (m := 4) ((hsh28.x.n F2.2.1).trans F2.2.2) (by omega) (by omega)) dX12_tries_47 (fun H locs hP2 hD2 hS => ?_)
              have e9 := wPui (cy := cy) (f := (upd (S28_.i (S.f o1 3)) w28_7.toNatClampNeg (S28_.i (S.f o1 4) w28_7.toNatClampNeg))) hD (hsh28.x.A F2.2.1).1 (hsh28.x.A F2.2.1).2.1 gk29 rfl
              obtain ⟨S30, hS30⟩ : ∃ z, S28_.si (S.f o1 3) (upd (S28_.i (S.f o1 3)) w28_7.toNatClampNeg (S28_.i (S.f o1 4) w28_7.toNatClampNeg)) = z := ⟨_, rfl⟩
              have hP : va_P D vwCl (X ++ PL cy S30) H := by rw [← hS30, ← e9]; exact hP2
              have hD : va_D A (X ++ PL cy S30) := by rw [← hS30, ← e9]; exact hD2
              have xe31 : ext S28_ S30 := by rw [← hS30]; exact ext.si _ _ _
              have t32 : stp [(17, 100)] [] [] S S30 := by rw [← hS30]; exact hsh28.i (upd (S28_.i (S.f o1 3)) w28_7.toNatClampNeg (S28_.i (S.f o1 4) w28_7.toNatClampNeg)) (hsh28.x.A F2.2.1) (by decide)
              refine lv_iinc (v := w28_7 + (1 : Int32)) (lv' := [(7, .int (w28_7 + (1 : Int32))), (0, .ref o1), (1, .int x1), (2, .int x2), (3, .long x3), (5, .long x4)]) hx hb dX12_tries_48 hl (k := 0) rfl (by rfl) (by decide) rfl (fun ls hl => ?_)
              refine lv_goto (tgt := 28) hx hb dX12_tries_51 (by decide) ?_
              have l32_1 : (1 : Int32).toInt = 1 := rfl
              have i33 : (w28_7 + (1 : Int32)).toInt = w28_7.toInt + 1 := t_addr (n := 1) rfl (by omega)
              exact ih28 S30 (w28_7 + (1 : Int32)) _ _ _ (Nat.lt_of_lt_of_le (by omega) (Nat.le_of_lt_succ hm28)) (by omega) t32 hP hD hS (lv_sub hl [0, 1, 2, 3, 4, 5] rfl) ko28
        refine loop28 5 S (0 : Int32) _ _ _ (by omega) (by omega) (stp.rf hW) hP hD hS (lv_sub hl [0, 1, 2, 3, 4, 5] rfl) (fun S35 z36 H locs ls hi28 hsh28 hP hD hS hl => ?_)
        have t37 : stp [(17, 100)] [] [] S S35 := t0.tr hsh28 (fun _ q => q) (fun _ q => Or.inl q)
        have et37 := hsh28.x
        refine W.widen (k := 0) (n := 0) (Nat.le_of_ble_eq_true rfl) (Nat.le_of_ble_eq_true rfl) ?_
        exact W.vret hx hb hr (fun t ht hW9 => ⟨⟨S35, rfl, t37, wd_end hP hK hD ht hW9.alike⟩, hS.F ht⟩) hS.2.2 dX12_tries_54 hlocks
      · have c23i : r21.toInt = 0 := eq_v rfl rfl c23
        refine W.widen (k := 0) (n := 0) (Nat.le_of_ble_eq_true rfl) (Nat.le_of_ble_eq_true rfl) ?_
        exact W.vret hx hb hr (fun t ht hW9 => ⟨⟨S, rfl, t0, wd_end hP hK hD ht hW9.alike⟩, hS.F ht⟩) hS.2.2 dX12_tries_24 hlocks
set_option maxHeartbeats 4000000 in
set_option maxRecDepth 100000 in
theorem c_X12_tries_3 (l : Launch) {D : va_G} {cy : Nat → ClassId} {X : va_W} (S : wPS) (sz : Nat) (o1 : Nat) (h_o1 : isA S o1 12) (x1 : Int32) (x2 : Int32) (x3 : Int64) (x4 : Int64) (hW : wtB S []) (h1 : x1.toInt = 3) : Met l yX12_tries wsX12_tries ({ frames := 4, cells := 0, slots := 0, locals := 93 }) (va_Pc [.ref o1, .int x1, .int x2, .long x3, .long x4] (fun U => U.heap.size = sz ∧ WD D cy X (fun _ => True) S U ∧ NW U)) (va_Qv (fun (u : wPS) => stp [(17, 100)] [] [] S u) (fun u t => WD D cy X (va_A (X ++ PL cy S) sz) u t) (va_A (X ++ PL cy S) sz)) 0 0 (va_A (X ++ PL cy S) sz) := by
  refine Met.ofW (cc := cX12_tries) (maxL := 8) (ret := none) (by decide) rfl ?_
  intro p e s m args below meth c s₁ B hml hv
  obtain ⟨rfl, hsz, ⟨hP, hK, hD0⟩, hN⟩ := hv
  have hx := B.exec
  have hb := B.bytes
  have hr := B.returns
  have hts := atoms_spec (ws := wsX12_tries) B.pre
  have hown : s.vm.findClass RX12 = some m.cls := findClass_of_methodNamed (x := yX12_tries) B.named
  have hlocks := B.notSynchronized
  subst hsz
  have hD := hD0.self (sz := s.heap.size)
  generalize hAe : va_A (X ++ PL cy S) s.heap.size = A at hD ⊢
  have hA : ∀ q : Nat, s.heap.size ≤ q → A q := fun q h => by rw [← hAe]; exact Or.inr h
  have hS : va_S A s.heap s.heap [] := va_S.rf
  have hl := lv_entry ([.ref o1, .int x1, .int x2, .long x3, .long x4]) (n := 8) (Nat.le_of_ble_eq_true rfl)
  rw [lg_entry_eq]
  generalize (lg_sl ([.ref o1, .int x1, .int x2, .long x3, .long x4]) ++ List.replicate (8 - (lg_sl ([.ref o1, .int x1, .int x2, .long x3, .long x4])).length) Slot.unset).toArray = ls at hl ⊢
  have hl : lv_has ls 8 [(0, .ref o1), (1, .int x1), (2, .int x2), (3, .long x3), (5, .long x4)] := hl
  have t0 : stp [(17, 100)] [] [] S S := stp.rf hW
  have r16 := ((hW.at h_o1 List.not_mem_nil).to_12 h_o1.2.1).R16
  refine lv_iload_n hx hb dX12_tries_0 rfl (lv_at hl 1 rfl) ?_
  refine lv_iconst (v := 4) hx hb dX12_tries_1 (by decide) ?_
  refine lv_icmp_ne (tgt := 55) hx hb dX12_tries_2 (by decide) (fun c1 => ?_) (fun c1 => ?_)
  · have c1i : ¬ x1.toInt = 4 := neq_v rfl rfl c1
    refine lv_iconst (v := 0) hx hb dX12_tries_55 (by decide) ?_
    refine lv_istore (lv' := [(7, .int (0 : Int32)), (0, .ref o1), (1, .int x1), (2, .int x2), (3, .long x3), (5, .long x4)]) hx hb dX12_tries_56 hl (by decide) rfl (fun ls hl => ?_)
    have l32_0 : (0 : Int32).toInt = 0 := rfl
    have loop58 : ∀ (n : Nat) (S58_ : wPS) (w58_7 : Int32) (H : Heap) (locs : List Loc) (ls : Array Slot), (17 - w58_7.toInt).toNat < n → 0 ≤ w58_7.toInt ∧ w58_7.toInt ≤ 16 → stp [(17, 100)] [] [] S S58_ → va_P D vwCl (X ++ PL cy S58_) H → va_D A (X ++ PL cy S58_) → va_S A s.heap H locs → lv_has ls 8 [(7, .int w58_7), (0, .ref o1), (1, .int x1), (2, .int x2), (3, .long x3), (5, .long x4)] → (∀ (S58_x : wPS) (w58_7x : Int32) (H : Heap) (locs : List Loc) (ls : Array Slot), 0 ≤ w58_7x.toInt ∧ w58_7x.toInt ≤ 16 → stp [(17, 100)] [] [] S S58_x → va_P D vwCl (X ++ PL cy S58_x) H → va_D A (X ++ PL cy S58_x) → va_S A s.heap H locs → lv_has ls 8 [(7, .int w58_7x), (0, .ref o1), (1, .int x1), (2, .int x2), (3, .long x3), (5, .long x4)] → W p l e (headSpec wsX12_tries ({ frames := 4, cells := 0, slots := 0, locals := 93 } : Room)).room s m [.ref o1, .int x1, .int x2, .long x3, .long x4].toArray below meth c H locs 0 0 (MQ below (va_Qv (fun (u : wPS) => stp [(17, 100)] [] [] S u) (fun u t => WD D cy X A u t) A) [.ref o1, .int x1, .int x2, .long x3, .long x4].toArray s 0 0 A) (F0 m 115 ls [])) → W p l e (headSpec wsX12_tries ({ frames := 4, cells := 0, slots := 0, locals := 93 } : Room)).room s m [.ref o1, .int x1, .int x2, .long x3, .long x4].toArray below meth c H locs 0 0 (MQ below (va_Qv (fun (u : wPS) => stp [(17, 100)] [] [] S u) (fun u t => WD D cy X A u t) A) [.ref o1, .int x1, .int x2, .long x3, .long x4].toArray s 0 0 A) (F0 m 58 ls []) := by
      intro n58
      induction n58 with
      | zero => intro S58_ w58_7 H locs ls hm; exact absurd hm (Nat.not_lt_zero _)
      | succ n58 ih58 =>
        intro S58_ w58_7 H locs ls hm58 hi58 hsh58 hP hD hS hl ko58
        have r16 := ((hsh58.w.at (hsh58.x.A h_o1) List.not_mem_nil).to_12 (hsh58.x.A h_o1).2.1).R16
        refine lv_iload hx hb dX12_tries_58 (lv_at hl 0 rfl) ?_
        refine lv_aload_n hx hb dX12_tries_60 rfl (lv_at hl 1 rfl) ?_
        obtain ⟨k2, gk2, hk2⟩ := wGt (cy := cy) X S58_ (hsh58.x.A h_o1).1 (hsh58.x.A h_o1).2.1
        have i3 := ((hsh58.w.at (hsh58.x.A h_o1) List.not_mem_nil).to_12 (hsh58.x.A h_o1).2.1).R16
        refine va_get (D := D) (ci := 16) (v := .int (S58_.I o1 16)) (C := RX12) (T := TX12) (N := 34) hx hb hts hi_X12_tries_X12 hown hK hP k2 hk2 rfl 16 (by decide) (hts (.fieldLink RX12 282 "HobhouseModel" "box" "I") (by decide +kernel)) (fun _ h9 => h9) rfl dX12_tries_61 ?_
        refine lv_icmp_ge (tgt := 115) hx hb dX12_tries_64 (by decide) (fun c4 => ?_) (fun c4 => ?_)
        · have c4i : (S58_.I o1 16).toInt ≤ w58_7.toInt := le_v rfl rfl c4
          exact ko58 S58_ w58_7 _ _ _ (by omega) hsh58 hP hD hS (lv_sub hl [0, 1, 2, 3, 4, 5] rfl)
        · have c4i : w58_7.toInt < (S58_.I o1 16).toInt := nle_v rfl rfl c4
          refine lv_iload_n hx hb dX12_tries_67 rfl (lv_at hl 3 rfl) ?_
          refine lv_iload hx hb dX12_tries_68 (lv_at hl 0 rfl) ?_
          refine lv_ishr hx hb dX12_tries_70 ?_
          refine lv_iconst (v := 1) hx hb dX12_tries_71 (by decide) ?_
          refine lv_iand hx hb dX12_tries_72 ?_
          refine lv_iconst (v := 1) hx hb dX12_tries_73 (by decide) ?_
          refine lv_icmp_ne (tgt := 80) hx hb dX12_tries_74 (by decide) (fun c5 => ?_) (fun c5 => ?_)
          · have c5i : ¬ ((x2 >>> (w58_7 &&& 31)) &&& (1 : Int32)).toInt = 1 := neq_v rfl rfl c5
            refine lv_aload_n hx hb dX12_tries_80 rfl (lv_at hl 1 rfl) ?_
            have F6 := ((hW.at h_o1 List.not_mem_nil).to_12 h_o1.2.1).F4
            obtain ⟨k7, gk7, hk7⟩ := wGt (cy := cy) X S58_ (hsh58.x.A h_o1).1 (hsh58.x.A h_o1).2.1
            simp only [kE, (hsh58.x.F h_o1 (by decide) F6.1)] at hk7
            refine va_get (D := D) (ci := 16) (v := .ref (S.f o1 4)) (C := RX12) (T := TX12) (N := 34) hx hb hts hi_X12_tries_X12 hown hK hP k7 hk7 rfl 4 (by decide) (hts (.fieldLink RX12 38 "HobhouseModel" "trial" "[I") (by decide +kernel)) (fun _ h9 => h9) rfl dX12_tries_81 ?_
            refine lv_iload_n hx hb dX12_tries_84 rfl (lv_at hl 2 rfl) ?_
            refine lv_aload_n hx hb dX12_tries_85 rfl (lv_at hl 1 rfl) ?_
            have F8 := ((hW.at h_o1 List.not_mem_nil).to_12 h_o1.2.1).F2
            obtain ⟨k9, gk9, hk9⟩ := wGt (cy := cy) X S58_ (hsh58.x.A h_o1).1 (hsh58.x.A h_o1).2.1
            simp only [kE, (hsh58.x.F h_o1 (by decide) F8.1)] at hk9
            refine va_get (D := D) (ci := 16) (v := .ref (S.f o1 2)) (C := RX12) (T := TX12) (N := 34) hx hb hts hi_X12_tries_X12 hown hK hP k9 hk9 rfl 2 (by decide) (hts (.fieldLink RX12 31 "HobhouseModel" "wheels" "[I") (by decide +kernel)) (fun _ h9 => h9) rfl dX12_tries_86 ?_
            refine lv_iload hx hb dX12_tries_89 (lv_at hl 0 rfl) ?_
            obtain ⟨k10, gk10, hk10⟩ := wGt (cy := cy) X S58_ (hsh58.x.A F8.2.1).1 (hsh58.x.A F8.2.1).2.1
            refine va_iald hx hb hK hP k10 2 hk10 rfl (inb (m := 16) ((hsh58.x.n F8.2.1).trans F8.2.2) (by omega) (by omega)) dX12_tries_91 ?_
            obtain ⟨k11, gk11, hk11⟩ := wGt (cy := cy) X S58_ (hsh58.x.A F6.2.1).1 (hsh58.x.A F6.2.1).2.1
            refine va_iast hx hb hK hP hD hS k11 2 hk11 rfl (inb (m := 4) ((hsh58.x.n F6.2.1).trans F6.2.2) (by omega) (by omega)) dX12_tries_92 (fun H locs hP2 hD2 hS => ?_)
            have e9 := wPui (cy := cy) (f := (upd (S58_.i (S.f o1 4)) x1.toNatClampNeg (S58_.i (S.f o1 2) w58_7.toNatClampNeg))) hD (hsh58.x.A F6.2.1).1 (hsh58.x.A F6.2.1).2.1 gk11 rfl
            obtain ⟨S12, hS12⟩ : ∃ z, S58_.si (S.f o1 4) (upd (S58_.i (S.f o1 4)) x1.toNatClampNeg (S58_.i (S.f o1 2) w58_7.toNatClampNeg)) = z := ⟨_, rfl⟩
            have hP : va_P D vwCl (X ++ PL cy S12) H := by rw [← hS12, ← e9]; exact hP2
            have hD : va_D A (X ++ PL cy S12) := by rw [← hS12, ← e9]; exact hD2
            have xe13 : ext S58_ S12 := by rw [← hS12]; exact ext.si _ _ _
            have t14 : stp [(17, 100)] [] [] S S12 := by rw [← hS12]; exact hsh58.i (upd (S58_.i (S.f o1 4)) x1.toNatClampNeg (S58_.i (S.f o1 2) w58_7.toNatClampNeg)) (hsh58.x.A F6.2.1) (by decide)
            refine lv_aload_n hx hb dX12_tries_93 rfl (lv_at hl 1 rfl) ?_
            refine lv_iload_n hx hb dX12_tries_94 rfl (lv_at hl 2 rfl) ?_
            refine lv_iconst (v := 1) hx hb dX12_tries_95 (by decide) ?_
            refine lv_iadd hx hb dX12_tries_96 ?_
            refine lv_iload_n hx hb dX12_tries_97 rfl (lv_at hl 3 rfl) ?_
            refine lv_iconst (v := 1) hx hb dX12_tries_98 (by decide) ?_
            refine lv_iload hx hb dX12_tries_99 (lv_at hl 0 rfl) ?_
            refine lv_ishl hx hb dX12_tries_101 ?_
            refine lv_ior hx hb dX12_tries_102 ?_
            refine lv_lload_n hx hb dX12_tries_103 rfl (lv_at hl 4 rfl) ?_
            refine lv_lload hx hb dX12_tries_104 (lv_at hl 5 rfl) ?_
            have l32_1 : (1 : Int32).toInt = 1 := rfl
            have i15 : (x1 + (1 : Int32)).toInt = x1.toInt + 1 := t_addr (n := 1) rfl (by omega)
            have hFc := free_all hD hS hA
            obtain ⟨k16, gk16, hk16⟩ := wGt (cy := cy) X S12 (xe13.A (hsh58.x.A h_o1)).1 (xe13.A (hsh58.x.A h_o1)).2.1
            refine va_callv (va_runV (As := [.int (x1 + (1 : Int32)), .int (x2 ||| ((1 : Int32) <<< (w58_7 &&& 31))), .long x3, .long x4]) (rest := []) ⟨hx, hb, hml, hown, hts⟩ (c_X12_tries_4 l (cy := cy) (X := X) (D := D) S12 _ o1 (xe13.A (hsh58.x.A h_o1)) (x1 + (1 : Int32)) (x2 ||| ((1 : Int32) <<< (w58_7 &&& 31))) x3 x4 (t14.w) (by omega)) (cwV 4 hts gX12_tries_X12_tries rfl rfl rfl hd_X12_tries ⟨Nat.le_of_ble_eq_true rfl, Nat.le_of_ble_eq_true rfl⟩) (pV (va_recv hK hP (q := (RX12, TX12, 34)) (ci := 16) (q0 := k16) rfl hk16) hP hK hD hN) rfl rfl hl.1 rfl (lv_room (Nat.le_of_ble_eq_true rfl)) dX12_tries_106 ⟨(Nat.zero_le _), (Nat.zero_le _)⟩) hS (fun q _ h => hFc q h) hFc (fun u t H1 locs ht hvm hw hB hz1 hk1 hS => ?_)
            have w18 := hw
            obtain ⟨hP, hD⟩ := wd_post hFc ht hB
            generalize H1 = H at hP hS ⊢
            obtain ⟨S19, rfl⟩ : ∃ z, z = u := ⟨_, rfl⟩
            have t20 : stp [(17, 100)] [] [] S S19 := t14.tr w18 (by decide) (fun _ q => absurd q List.not_mem_nil)
            have xe21 : ext S12 S19 := w18.x
            refine lv_iinc (v := w58_7 + (1 : Int32)) (lv' := [(7, .int (w58_7 + (1 : Int32))), (0, .ref o1), (1, .int x1), (2, .int x2), (3, .long x3), (5, .long x4)]) hx hb dX12_tries_109 hl (k := 0) rfl (by rfl) (by decide) rfl (fun ls hl => ?_)
            refine lv_goto (tgt := 58) hx hb dX12_tries_112 (by decide) ?_
            have i22 : (w58_7 + (1 : Int32)).toInt = w58_7.toInt + 1 := t_addr (n := 1) rfl (by omega)
            exact ih58 S19 (w58_7 + (1 : Int32)) _ _ _ (Nat.lt_of_lt_of_le (by omega) (Nat.le_of_lt_succ hm58)) (by omega) t20 hP hD hS (lv_sub hl [0, 1, 2, 3, 4, 5] rfl) ko58
          · have c5i : ((x2 >>> (w58_7 &&& 31)) &&& (1 : Int32)).toInt = 1 := eq_v rfl rfl c5
            refine lv_goto (tgt := 109) hx hb dX12_tries_77 (by decide) ?_
            refine lv_iinc (v := w58_7 + (1 : Int32)) (lv' := [(7, .int (w58_7 + (1 : Int32))), (0, .ref o1), (1, .int x1), (2, .int x2), (3, .long x3), (5, .long x4)]) hx hb dX12_tries_109 hl (k := 0) rfl (by rfl) (by decide) rfl (fun ls hl => ?_)
            refine lv_goto (tgt := 58) hx hb dX12_tries_112 (by decide) ?_
            have l32_1 : (1 : Int32).toInt = 1 := rfl
            have i23 : (w58_7 + (1 : Int32)).toInt = w58_7.toInt + 1 := t_addr (n := 1) rfl (by omega)
            exact ih58 S58_ (w58_7 + (1 : Int32)) _ _ _ (Nat.lt_of_lt_of_le (by omega) (Nat.le_of_lt_succ hm58)) (by omega) hsh58 hP hD hS (lv_sub hl [0, 1, 2, 3, 4, 5] rfl) ko58
    refine loop58 18 S (0 : Int32) _ _ _ (by omega) (by omega) (stp.rf hW) hP hD hS (lv_sub hl [0, 1, 2, 3, 4, 5] rfl) (fun S25 z26 H locs ls hi58 hsh58 hP hD hS hl => ?_)
    have t27 : stp [(17, 100)] [] [] S S25 := t0.tr hsh58 (fun _ q => q) (fun _ q => Or.inl q)
    have et27 := hsh58.x
    refine W.widen (k := 0) (n := 0) (Nat.le_of_ble_eq_true rfl) (Nat.le_of_ble_eq_true rfl) ?_
    exact W.vret hx hb hr (fun t ht hW9 => ⟨⟨S25, rfl, t27, wd_end hP hK hD ht hW9.alike⟩, hS.F ht⟩) hS.2.2 dX12_tries_115 hlocks
  · have c1i : x1.toInt = 4 := eq_v rfl rfl c1
    exact False.elim (by omega)
set_option maxHeartbeats 4000000 in
set_option maxRecDepth 100000 in
theorem c_X12_tries_2 (l : Launch) {D : va_G} {cy : Nat → ClassId} {X : va_W} (S : wPS) (sz : Nat) (o1 : Nat) (h_o1 : isA S o1 12) (x1 : Int32) (x2 : Int32) (x3 : Int64) (x4 : Int64) (hW : wtB S []) (h1 : x1.toInt = 2) : Met l yX12_tries wsX12_tries ({ frames := 5, cells := 0, slots := 0, locals := 120 }) (va_Pc [.ref o1, .int x1, .int x2, .long x3, .long x4] (fun U => U.heap.size = sz ∧ WD D cy X (fun _ => True) S U ∧ NW U)) (va_Qv (fun (u : wPS) => stp [(17, 100)] [] [] S u) (fun u t => WD D cy X (va_A (X ++ PL cy S) sz) u t) (va_A (X ++ PL cy S) sz)) 0 0 (va_A (X ++ PL cy S) sz) := by
  refine Met.ofW (cc := cX12_tries) (maxL := 8) (ret := none) (by decide) rfl ?_
  intro p e s m args below meth c s₁ B hml hv
  obtain ⟨rfl, hsz, ⟨hP, hK, hD0⟩, hN⟩ := hv
  have hx := B.exec
  have hb := B.bytes
  have hr := B.returns
  have hts := atoms_spec (ws := wsX12_tries) B.pre
  have hown : s.vm.findClass RX12 = some m.cls := findClass_of_methodNamed (x := yX12_tries) B.named
  have hlocks := B.notSynchronized
  subst hsz
  have hD := hD0.self (sz := s.heap.size)
  generalize hAe : va_A (X ++ PL cy S) s.heap.size = A at hD ⊢
  have hA : ∀ q : Nat, s.heap.size ≤ q → A q := fun q h => by rw [← hAe]; exact Or.inr h
  have hS : va_S A s.heap s.heap [] := va_S.rf
  have hl := lv_entry ([.ref o1, .int x1, .int x2, .long x3, .long x4]) (n := 8) (Nat.le_of_ble_eq_true rfl)
  rw [lg_entry_eq]
  generalize (lg_sl ([.ref o1, .int x1, .int x2, .long x3, .long x4]) ++ List.replicate (8 - (lg_sl ([.ref o1, .int x1, .int x2, .long x3, .long x4])).length) Slot.unset).toArray = ls at hl ⊢
  have hl : lv_has ls 8 [(0, .ref o1), (1, .int x1), (2, .int x2), (3, .long x3), (5, .long x4)] := hl
  have t0 : stp [(17, 100)] [] [] S S := stp.rf hW
  have r16 := ((hW.at h_o1 List.not_mem_nil).to_12 h_o1.2.1).R16
  refine lv_iload_n hx hb dX12_tries_0 rfl (lv_at hl 1 rfl) ?_
  refine lv_iconst (v := 4) hx hb dX12_tries_1 (by decide) ?_
  refine lv_icmp_ne (tgt := 55) hx hb dX12_tries_2 (by decide) (fun c1 => ?_) (fun c1 => ?_)
  · have c1i : ¬ x1.toInt = 4 := neq_v rfl rfl c1
    refine lv_iconst (v := 0) hx hb dX12_tries_55 (by decide) ?_
    refine lv_istore (lv' := [(7, .int (0 : Int32)), (0, .ref o1), (1, .int x1), (2, .int x2), (3, .long x3), (5, .long x4)]) hx hb dX12_tries_56 hl (by decide) rfl (fun ls hl => ?_)
    have l32_0 : (0 : Int32).toInt = 0 := rfl
    have loop58 : ∀ (n : Nat) (S58_ : wPS) (w58_7 : Int32) (H : Heap) (locs : List Loc) (ls : Array Slot), (17 - w58_7.toInt).toNat < n → 0 ≤ w58_7.toInt ∧ w58_7.toInt ≤ 16 → stp [(17, 100)] [] [] S S58_ → va_P D vwCl (X ++ PL cy S58_) H → va_D A (X ++ PL cy S58_) → va_S A s.heap H locs → lv_has ls 8 [(7, .int w58_7), (0, .ref o1), (1, .int x1), (2, .int x2), (3, .long x3), (5, .long x4)] → (∀ (S58_x : wPS) (w58_7x : Int32) (H : Heap) (locs : List Loc) (ls : Array Slot), 0 ≤ w58_7x.toInt ∧ w58_7x.toInt ≤ 16 → stp [(17, 100)] [] [] S S58_x → va_P D vwCl (X ++ PL cy S58_x) H → va_D A (X ++ PL cy S58_x) → va_S A s.heap H locs → lv_has ls 8 [(7, .int w58_7x), (0, .ref o1), (1, .int x1), (2, .int x2), (3, .long x3), (5, .long x4)] → W p l e (headSpec wsX12_tries ({ frames := 5, cells := 0, slots := 0, locals := 120 } : Room)).room s m [.ref o1, .int x1, .int x2, .long x3, .long x4].toArray below meth c H locs 0 0 (MQ below (va_Qv (fun (u : wPS) => stp [(17, 100)] [] [] S u) (fun u t => WD D cy X A u t) A) [.ref o1, .int x1, .int x2, .long x3, .long x4].toArray s 0 0 A) (F0 m 115 ls [])) → W p l e (headSpec wsX12_tries ({ frames := 5, cells := 0, slots := 0, locals := 120 } : Room)).room s m [.ref o1, .int x1, .int x2, .long x3, .long x4].toArray below meth c H locs 0 0 (MQ below (va_Qv (fun (u : wPS) => stp [(17, 100)] [] [] S u) (fun u t => WD D cy X A u t) A) [.ref o1, .int x1, .int x2, .long x3, .long x4].toArray s 0 0 A) (F0 m 58 ls []) := by
      intro n58
      induction n58 with
      | zero => intro S58_ w58_7 H locs ls hm; exact absurd hm (Nat.not_lt_zero _)
      | succ n58 ih58 =>
        intro S58_ w58_7 H locs ls hm58 hi58 hsh58 hP hD hS hl ko58
        have r16 := ((hsh58.w.at (hsh58.x.A h_o1) List.not_mem_nil).to_12 (hsh58.x.A h_o1).2.1).R16
        refine lv_iload hx hb dX12_tries_58 (lv_at hl 0 rfl) ?_
        refine lv_aload_n hx hb dX12_tries_60 rfl (lv_at hl 1 rfl) ?_
        obtain ⟨k2, gk2, hk2⟩ := wGt (cy := cy) X S58_ (hsh58.x.A h_o1).1 (hsh58.x.A h_o1).2.1
        have i3 := ((hsh58.w.at (hsh58.x.A h_o1) List.not_mem_nil).to_12 (hsh58.x.A h_o1).2.1).R16
        refine va_get (D := D) (ci := 16) (v := .int (S58_.I o1 16)) (C := RX12) (T := TX12) (N := 34) hx hb hts hi_X12_tries_X12 hown hK hP k2 hk2 rfl 16 (by decide) (hts (.fieldLink RX12 282 "HobhouseModel" "box" "I") (by decide +kernel)) (fun _ h9 => h9) rfl dX12_tries_61 ?_
        refine lv_icmp_ge (tgt := 115) hx hb dX12_tries_64 (by decide) (fun c4 => ?_) (fun c4 => ?_)
        · have c4i : (S58_.I o1 16).toInt ≤ w58_7.toInt := le_v rfl rfl c4
          exact ko58 S58_ w58_7 _ _ _ (by omega) hsh58 hP hD hS (lv_sub hl [0, 1, 2, 3, 4, 5] rfl)
        · have c4i : w58_7.toInt < (S58_.I o1 16).toInt := nle_v rfl rfl c4
          refine lv_iload_n hx hb dX12_tries_67 rfl (lv_at hl 3 rfl) ?_
          refine lv_iload hx hb dX12_tries_68 (lv_at hl 0 rfl) ?_
          refine lv_ishr hx hb dX12_tries_70 ?_
          refine lv_iconst (v := 1) hx hb dX12_tries_71 (by decide) ?_
          refine lv_iand hx hb dX12_tries_72 ?_
          refine lv_iconst (v := 1) hx hb dX12_tries_73 (by decide) ?_
          refine lv_icmp_ne (tgt := 80) hx hb dX12_tries_74 (by decide) (fun c5 => ?_) (fun c5 => ?_)
          · have c5i : ¬ ((x2 >>> (w58_7 &&& 31)) &&& (1 : Int32)).toInt = 1 := neq_v rfl rfl c5
            refine lv_aload_n hx hb dX12_tries_80 rfl (lv_at hl 1 rfl) ?_
            have F6 := ((hW.at h_o1 List.not_mem_nil).to_12 h_o1.2.1).F4
            obtain ⟨k7, gk7, hk7⟩ := wGt (cy := cy) X S58_ (hsh58.x.A h_o1).1 (hsh58.x.A h_o1).2.1
            simp only [kE, (hsh58.x.F h_o1 (by decide) F6.1)] at hk7
            refine va_get (D := D) (ci := 16) (v := .ref (S.f o1 4)) (C := RX12) (T := TX12) (N := 34) hx hb hts hi_X12_tries_X12 hown hK hP k7 hk7 rfl 4 (by decide) (hts (.fieldLink RX12 38 "HobhouseModel" "trial" "[I") (by decide +kernel)) (fun _ h9 => h9) rfl dX12_tries_81 ?_
            refine lv_iload_n hx hb dX12_tries_84 rfl (lv_at hl 2 rfl) ?_
            refine lv_aload_n hx hb dX12_tries_85 rfl (lv_at hl 1 rfl) ?_
            have F8 := ((hW.at h_o1 List.not_mem_nil).to_12 h_o1.2.1).F2
            obtain ⟨k9, gk9, hk9⟩ := wGt (cy := cy) X S58_ (hsh58.x.A h_o1).1 (hsh58.x.A h_o1).2.1
            simp only [kE, (hsh58.x.F h_o1 (by decide) F8.1)] at hk9
            refine va_get (D := D) (ci := 16) (v := .ref (S.f o1 2)) (C := RX12) (T := TX12) (N := 34) hx hb hts hi_X12_tries_X12 hown hK hP k9 hk9 rfl 2 (by decide) (hts (.fieldLink RX12 31 "HobhouseModel" "wheels" "[I") (by decide +kernel)) (fun _ h9 => h9) rfl dX12_tries_86 ?_
            refine lv_iload hx hb dX12_tries_89 (lv_at hl 0 rfl) ?_
            obtain ⟨k10, gk10, hk10⟩ := wGt (cy := cy) X S58_ (hsh58.x.A F8.2.1).1 (hsh58.x.A F8.2.1).2.1
            refine va_iald hx hb hK hP k10 2 hk10 rfl (inb (m := 16) ((hsh58.x.n F8.2.1).trans F8.2.2) (by omega) (by omega)) dX12_tries_91 ?_
            obtain ⟨k11, gk11, hk11⟩ := wGt (cy := cy) X S58_ (hsh58.x.A F6.2.1).1 (hsh58.x.A F6.2.1).2.1
            refine va_iast hx hb hK hP hD hS k11 2 hk11 rfl (inb (m := 4) ((hsh58.x.n F6.2.1).trans F6.2.2) (by omega) (by omega)) dX12_tries_92 (fun H locs hP2 hD2 hS => ?_)
            have e9 := wPui (cy := cy) (f := (upd (S58_.i (S.f o1 4)) x1.toNatClampNeg (S58_.i (S.f o1 2) w58_7.toNatClampNeg))) hD (hsh58.x.A F6.2.1).1 (hsh58.x.A F6.2.1).2.1 gk11 rfl
            obtain ⟨S12, hS12⟩ : ∃ z, S58_.si (S.f o1 4) (upd (S58_.i (S.f o1 4)) x1.toNatClampNeg (S58_.i (S.f o1 2) w58_7.toNatClampNeg)) = z := ⟨_, rfl⟩
            have hP : va_P D vwCl (X ++ PL cy S12) H := by rw [← hS12, ← e9]; exact hP2
            have hD : va_D A (X ++ PL cy S12) := by rw [← hS12, ← e9]; exact hD2
            have xe13 : ext S58_ S12 := by rw [← hS12]; exact ext.si _ _ _
            have t14 : stp [(17, 100)] [] [] S S12 := by rw [← hS12]; exact hsh58.i (upd (S58_.i (S.f o1 4)) x1.toNatClampNeg (S58_.i (S.f o1 2) w58_7.toNatClampNeg)) (hsh58.x.A F6.2.1) (by decide)
            refine lv_aload_n hx hb dX12_tries_93 rfl (lv_at hl 1 rfl) ?_
            refine lv_iload_n hx hb dX12_tries_94 rfl (lv_at hl 2 rfl) ?_
            refine lv_iconst (v := 1) hx hb dX12_tries_95 (by decide) ?_
            refine lv_iadd hx hb dX12_tries_96 ?_
            refine lv_iload_n hx hb dX12_tries_97 rfl (lv_at hl 3 rfl) ?_
            refine lv_iconst (v := 1) hx hb dX12_tries_98 (by decide) ?_
            refine lv_iload hx hb dX12_tries_99 (lv_at hl 0 rfl) ?_
            refine lv_ishl hx hb dX12_tries_101 ?_
            refine lv_ior hx hb dX12_tries_102 ?_
            refine lv_lload_n hx hb dX12_tries_103 rfl (lv_at hl 4 rfl) ?_
            refine lv_lload hx hb dX12_tries_104 (lv_at hl 5 rfl) ?_
            have l32_1 : (1 : Int32).toInt = 1 := rfl
            have i15 : (x1 + (1 : Int32)).toInt = x1.toInt + 1 := t_addr (n := 1) rfl (by omega)
            have hFc := free_all hD hS hA
            obtain ⟨k16, gk16, hk16⟩ := wGt (cy := cy) X S12 (xe13.A (hsh58.x.A h_o1)).1 (xe13.A (hsh58.x.A h_o1)).2.1
            refine va_callv (va_runV (As := [.int (x1 + (1 : Int32)), .int (x2 ||| ((1 : Int32) <<< (w58_7 &&& 31))), .long x3, .long x4]) (rest := []) ⟨hx, hb, hml, hown, hts⟩ (c_X12_tries_3 l (cy := cy) (X := X) (D := D) S12 _ o1 (xe13.A (hsh58.x.A h_o1)) (x1 + (1 : Int32)) (x2 ||| ((1 : Int32) <<< (w58_7 &&& 31))) x3 x4 (t14.w) (by omega)) (cwV 4 hts gX12_tries_X12_tries rfl rfl rfl hd_X12_tries ⟨Nat.le_of_ble_eq_true rfl, Nat.le_of_ble_eq_true rfl⟩) (pV (va_recv hK hP (q := (RX12, TX12, 34)) (ci := 16) (q0 := k16) rfl hk16) hP hK hD hN) rfl rfl hl.1 rfl (lv_room (Nat.le_of_ble_eq_true rfl)) dX12_tries_106 ⟨(Nat.zero_le _), (Nat.zero_le _)⟩) hS (fun q _ h => hFc q h) hFc (fun u t H1 locs ht hvm hw hB hz1 hk1 hS => ?_)
            have w18 := hw
            obtain ⟨hP, hD⟩ := wd_post hFc ht hB
            generalize H1 = H at hP hS ⊢
            obtain ⟨S19, rfl⟩ : ∃ z, z = u := ⟨_, rfl⟩
            have t20 : stp [(17, 100)] [] [] S S19 := t14.tr w18 (by decide) (fun _ q => absurd q List.not_mem_nil)
            have xe21 : ext S12 S19 := w18.x
            refine lv_iinc (v := w58_7 + (1 : Int32)) (lv' := [(7, .int (w58_7 + (1 : Int32))), (0, .ref o1), (1, .int x1), (2, .int x2), (3, .long x3), (5, .long x4)]) hx hb dX12_tries_109 hl (k := 0) rfl (by rfl) (by decide) rfl (fun ls hl => ?_)
            refine lv_goto (tgt := 58) hx hb dX12_tries_112 (by decide) ?_
            have i22 : (w58_7 + (1 : Int32)).toInt = w58_7.toInt + 1 := t_addr (n := 1) rfl (by omega)
            exact ih58 S19 (w58_7 + (1 : Int32)) _ _ _ (Nat.lt_of_lt_of_le (by omega) (Nat.le_of_lt_succ hm58)) (by omega) t20 hP hD hS (lv_sub hl [0, 1, 2, 3, 4, 5] rfl) ko58
          · have c5i : ((x2 >>> (w58_7 &&& 31)) &&& (1 : Int32)).toInt = 1 := eq_v rfl rfl c5
            refine lv_goto (tgt := 109) hx hb dX12_tries_77 (by decide) ?_
            refine lv_iinc (v := w58_7 + (1 : Int32)) (lv' := [(7, .int (w58_7 + (1 : Int32))), (0, .ref o1), (1, .int x1), (2, .int x2), (3, .long x3), (5, .long x4)]) hx hb dX12_tries_109 hl (k := 0) rfl (by rfl) (by decide) rfl (fun ls hl => ?_)
            refine lv_goto (tgt := 58) hx hb dX12_tries_112 (by decide) ?_
            have l32_1 : (1 : Int32).toInt = 1 := rfl
            have i23 : (w58_7 + (1 : Int32)).toInt = w58_7.toInt + 1 := t_addr (n := 1) rfl (by omega)
            exact ih58 S58_ (w58_7 + (1 : Int32)) _ _ _ (Nat.lt_of_lt_of_le (by omega) (Nat.le_of_lt_succ hm58)) (by omega) hsh58 hP hD hS (lv_sub hl [0, 1, 2, 3, 4, 5] rfl) ko58
    refine loop58 18 S (0 : Int32) _ _ _ (by omega) (by omega) (stp.rf hW) hP hD hS (lv_sub hl [0, 1, 2, 3, 4, 5] rfl) (fun S25 z26 H locs ls hi58 hsh58 hP hD hS hl => ?_)
    have t27 : stp [(17, 100)] [] [] S S25 := t0.tr hsh58 (fun _ q => q) (fun _ q => Or.inl q)
    have et27 := hsh58.x
    refine W.widen (k := 0) (n := 0) (Nat.le_of_ble_eq_true rfl) (Nat.le_of_ble_eq_true rfl) ?_
    exact W.vret hx hb hr (fun t ht hW9 => ⟨⟨S25, rfl, t27, wd_end hP hK hD ht hW9.alike⟩, hS.F ht⟩) hS.2.2 dX12_tries_115 hlocks
  · have c1i : x1.toInt = 4 := eq_v rfl rfl c1
    exact False.elim (by omega)
set_option maxHeartbeats 4000000 in
set_option maxRecDepth 100000 in
theorem c_X12_tries_1 (l : Launch) {D : va_G} {cy : Nat → ClassId} {X : va_W} (S : wPS) (sz : Nat) (o1 : Nat) (h_o1 : isA S o1 12) (x1 : Int32) (x2 : Int32) (x3 : Int64) (x4 : Int64) (hW : wtB S []) (h1 : x1.toInt = 1) : Met l yX12_tries wsX12_tries ({ frames := 6, cells := 0, slots := 0, locals := 147 }) (va_Pc [.ref o1, .int x1, .int x2, .long x3, .long x4] (fun U => U.heap.size = sz ∧ WD D cy X (fun _ => True) S U ∧ NW U)) (va_Qv (fun (u : wPS) => stp [(17, 100)] [] [] S u) (fun u t => WD D cy X (va_A (X ++ PL cy S) sz) u t) (va_A (X ++ PL cy S) sz)) 0 0 (va_A (X ++ PL cy S) sz) := by
  refine Met.ofW (cc := cX12_tries) (maxL := 8) (ret := none) (by decide) rfl ?_
  intro p e s m args below meth c s₁ B hml hv
  obtain ⟨rfl, hsz, ⟨hP, hK, hD0⟩, hN⟩ := hv
  have hx := B.exec
  have hb := B.bytes
  have hr := B.returns
  have hts := atoms_spec (ws := wsX12_tries) B.pre
  have hown : s.vm.findClass RX12 = some m.cls := findClass_of_methodNamed (x := yX12_tries) B.named
  have hlocks := B.notSynchronized
  subst hsz
  have hD := hD0.self (sz := s.heap.size)
  generalize hAe : va_A (X ++ PL cy S) s.heap.size = A at hD ⊢
  have hA : ∀ q : Nat, s.heap.size ≤ q → A q := fun q h => by rw [← hAe]; exact Or.inr h
  have hS : va_S A s.heap s.heap [] := va_S.rf
  have hl := lv_entry ([.ref o1, .int x1, .int x2, .long x3, .long x4]) (n := 8) (Nat.le_of_ble_eq_true rfl)
  rw [lg_entry_eq]
  generalize (lg_sl ([.ref o1, .int x1, .int x2, .long x3, .long x4]) ++ List.replicate (8 - (lg_sl ([.ref o1, .int x1, .int x2, .long x3, .long x4])).length) Slot.unset).toArray = ls at hl ⊢
  have hl : lv_has ls 8 [(0, .ref o1), (1, .int x1), (2, .int x2), (3, .long x3), (5, .long x4)] := hl
  have t0 : stp [(17, 100)] [] [] S S := stp.rf hW
  have r16 := ((hW.at h_o1 List.not_mem_nil).to_12 h_o1.2.1).R16
  refine lv_iload_n hx hb dX12_tries_0 rfl (lv_at hl 1 rfl) ?_
  refine lv_iconst (v := 4) hx hb dX12_tries_1 (by decide) ?_
  refine lv_icmp_ne (tgt := 55) hx hb dX12_tries_2 (by decide) (fun c1 => ?_) (fun c1 => ?_)
  · have c1i : ¬ x1.toInt = 4 := neq_v rfl rfl c1
    refine lv_iconst (v := 0) hx hb dX12_tries_55 (by decide) ?_
    refine lv_istore (lv' := [(7, .int (0 : Int32)), (0, .ref o1), (1, .int x1), (2, .int x2), (3, .long x3), (5, .long x4)]) hx hb dX12_tries_56 hl (by decide) rfl (fun ls hl => ?_)
    have l32_0 : (0 : Int32).toInt = 0 := rfl
    have loop58 : ∀ (n : Nat) (S58_ : wPS) (w58_7 : Int32) (H : Heap) (locs : List Loc) (ls : Array Slot), (17 - w58_7.toInt).toNat < n → 0 ≤ w58_7.toInt ∧ w58_7.toInt ≤ 16 → stp [(17, 100)] [] [] S S58_ → va_P D vwCl (X ++ PL cy S58_) H → va_D A (X ++ PL cy S58_) → va_S A s.heap H locs → lv_has ls 8 [(7, .int w58_7), (0, .ref o1), (1, .int x1), (2, .int x2), (3, .long x3), (5, .long x4)] → (∀ (S58_x : wPS) (w58_7x : Int32) (H : Heap) (locs : List Loc) (ls : Array Slot), 0 ≤ w58_7x.toInt ∧ w58_7x.toInt ≤ 16 → stp [(17, 100)] [] [] S S58_x → va_P D vwCl (X ++ PL cy S58_x) H → va_D A (X ++ PL cy S58_x) → va_S A s.heap H locs → lv_has ls 8 [(7, .int w58_7x), (0, .ref o1), (1, .int x1), (2, .int x2), (3, .long x3), (5, .long x4)] → W p l e (headSpec wsX12_tries ({ frames := 6, cells := 0, slots := 0, locals := 147 } : Room)).room s m [.ref o1, .int x1, .int x2, .long x3, .long x4].toArray below meth c H locs 0 0 (MQ below (va_Qv (fun (u : wPS) => stp [(17, 100)] [] [] S u) (fun u t => WD D cy X A u t) A) [.ref o1, .int x1, .int x2, .long x3, .long x4].toArray s 0 0 A) (F0 m 115 ls [])) → W p l e (headSpec wsX12_tries ({ frames := 6, cells := 0, slots := 0, locals := 147 } : Room)).room s m [.ref o1, .int x1, .int x2, .long x3, .long x4].toArray below meth c H locs 0 0 (MQ below (va_Qv (fun (u : wPS) => stp [(17, 100)] [] [] S u) (fun u t => WD D cy X A u t) A) [.ref o1, .int x1, .int x2, .long x3, .long x4].toArray s 0 0 A) (F0 m 58 ls []) := by
      intro n58
      induction n58 with
      | zero => intro S58_ w58_7 H locs ls hm; exact absurd hm (Nat.not_lt_zero _)
      | succ n58 ih58 =>
        intro S58_ w58_7 H locs ls hm58 hi58 hsh58 hP hD hS hl ko58
        have r16 := ((hsh58.w.at (hsh58.x.A h_o1) List.not_mem_nil).to_12 (hsh58.x.A h_o1).2.1).R16
        refine lv_iload hx hb dX12_tries_58 (lv_at hl 0 rfl) ?_
        refine lv_aload_n hx hb dX12_tries_60 rfl (lv_at hl 1 rfl) ?_
        obtain ⟨k2, gk2, hk2⟩ := wGt (cy := cy) X S58_ (hsh58.x.A h_o1).1 (hsh58.x.A h_o1).2.1
        have i3 := ((hsh58.w.at (hsh58.x.A h_o1) List.not_mem_nil).to_12 (hsh58.x.A h_o1).2.1).R16
        refine va_get (D := D) (ci := 16) (v := .int (S58_.I o1 16)) (C := RX12) (T := TX12) (N := 34) hx hb hts hi_X12_tries_X12 hown hK hP k2 hk2 rfl 16 (by decide) (hts (.fieldLink RX12 282 "HobhouseModel" "box" "I") (by decide +kernel)) (fun _ h9 => h9) rfl dX12_tries_61 ?_
        refine lv_icmp_ge (tgt := 115) hx hb dX12_tries_64 (by decide) (fun c4 => ?_) (fun c4 => ?_)
        · have c4i : (S58_.I o1 16).toInt ≤ w58_7.toInt := le_v rfl rfl c4
          exact ko58 S58_ w58_7 _ _ _ (by omega) hsh58 hP hD hS (lv_sub hl [0, 1, 2, 3, 4, 5] rfl)
        · have c4i : w58_7.toInt < (S58_.I o1 16).toInt := nle_v rfl rfl c4
          refine lv_iload_n hx hb dX12_tries_67 rfl (lv_at hl 3 rfl) ?_
          refine lv_iload hx hb dX12_tries_68 (lv_at hl 0 rfl) ?_
          refine lv_ishr hx hb dX12_tries_70 ?_
          refine lv_iconst (v := 1) hx hb dX12_tries_71 (by decide) ?_
          refine lv_iand hx hb dX12_tries_72 ?_
          refine lv_iconst (v := 1) hx hb dX12_tries_73 (by decide) ?_
          refine lv_icmp_ne (tgt := 80) hx hb dX12_tries_74 (by decide) (fun c5 => ?_) (fun c5 => ?_)
          · have c5i : ¬ ((x2 >>> (w58_7 &&& 31)) &&& (1 : Int32)).toInt = 1 := neq_v rfl rfl c5
            refine lv_aload_n hx hb dX12_tries_80 rfl (lv_at hl 1 rfl) ?_
            have F6 := ((hW.at h_o1 List.not_mem_nil).to_12 h_o1.2.1).F4
            obtain ⟨k7, gk7, hk7⟩ := wGt (cy := cy) X S58_ (hsh58.x.A h_o1).1 (hsh58.x.A h_o1).2.1
            simp only [kE, (hsh58.x.F h_o1 (by decide) F6.1)] at hk7
            refine va_get (D := D) (ci := 16) (v := .ref (S.f o1 4)) (C := RX12) (T := TX12) (N := 34) hx hb hts hi_X12_tries_X12 hown hK hP k7 hk7 rfl 4 (by decide) (hts (.fieldLink RX12 38 "HobhouseModel" "trial" "[I") (by decide +kernel)) (fun _ h9 => h9) rfl dX12_tries_81 ?_
            refine lv_iload_n hx hb dX12_tries_84 rfl (lv_at hl 2 rfl) ?_
            refine lv_aload_n hx hb dX12_tries_85 rfl (lv_at hl 1 rfl) ?_
            have F8 := ((hW.at h_o1 List.not_mem_nil).to_12 h_o1.2.1).F2
            obtain ⟨k9, gk9, hk9⟩ := wGt (cy := cy) X S58_ (hsh58.x.A h_o1).1 (hsh58.x.A h_o1).2.1
            simp only [kE, (hsh58.x.F h_o1 (by decide) F8.1)] at hk9
            refine va_get (D := D) (ci := 16) (v := .ref (S.f o1 2)) (C := RX12) (T := TX12) (N := 34) hx hb hts hi_X12_tries_X12 hown hK hP k9 hk9 rfl 2 (by decide) (hts (.fieldLink RX12 31 "HobhouseModel" "wheels" "[I") (by decide +kernel)) (fun _ h9 => h9) rfl dX12_tries_86 ?_
            refine lv_iload hx hb dX12_tries_89 (lv_at hl 0 rfl) ?_
            obtain ⟨k10, gk10, hk10⟩ := wGt (cy := cy) X S58_ (hsh58.x.A F8.2.1).1 (hsh58.x.A F8.2.1).2.1
            refine va_iald hx hb hK hP k10 2 hk10 rfl (inb (m := 16) ((hsh58.x.n F8.2.1).trans F8.2.2) (by omega) (by omega)) dX12_tries_91 ?_
            obtain ⟨k11, gk11, hk11⟩ := wGt (cy := cy) X S58_ (hsh58.x.A F6.2.1).1 (hsh58.x.A F6.2.1).2.1
            refine va_iast hx hb hK hP hD hS k11 2 hk11 rfl (inb (m := 4) ((hsh58.x.n F6.2.1).trans F6.2.2) (by omega) (by omega)) dX12_tries_92 (fun H locs hP2 hD2 hS => ?_)
            have e9 := wPui (cy := cy) (f := (upd (S58_.i (S.f o1 4)) x1.toNatClampNeg (S58_.i (S.f o1 2) w58_7.toNatClampNeg))) hD (hsh58.x.A F6.2.1).1 (hsh58.x.A F6.2.1).2.1 gk11 rfl
            obtain ⟨S12, hS12⟩ : ∃ z, S58_.si (S.f o1 4) (upd (S58_.i (S.f o1 4)) x1.toNatClampNeg (S58_.i (S.f o1 2) w58_7.toNatClampNeg)) = z := ⟨_, rfl⟩
            have hP : va_P D vwCl (X ++ PL cy S12) H := by rw [← hS12, ← e9]; exact hP2
            have hD : va_D A (X ++ PL cy S12) := by rw [← hS12, ← e9]; exact hD2
            have xe13 : ext S58_ S12 := by rw [← hS12]; exact ext.si _ _ _
            have t14 : stp [(17, 100)] [] [] S S12 := by rw [← hS12]; exact hsh58.i (upd (S58_.i (S.f o1 4)) x1.toNatClampNeg (S58_.i (S.f o1 2) w58_7.toNatClampNeg)) (hsh58.x.A F6.2.1) (by decide)
            refine lv_aload_n hx hb dX12_tries_93 rfl (lv_at hl 1 rfl) ?_
            refine lv_iload_n hx hb dX12_tries_94 rfl (lv_at hl 2 rfl) ?_
            refine lv_iconst (v := 1) hx hb dX12_tries_95 (by decide) ?_
            refine lv_iadd hx hb dX12_tries_96 ?_
            refine lv_iload_n hx hb dX12_tries_97 rfl (lv_at hl 3 rfl) ?_
            refine lv_iconst (v := 1) hx hb dX12_tries_98 (by decide) ?_
            refine lv_iload hx hb dX12_tries_99 (lv_at hl 0 rfl) ?_
            refine lv_ishl hx hb dX12_tries_101 ?_
            refine lv_ior hx hb dX12_tries_102 ?_
            refine lv_lload_n hx hb dX12_tries_103 rfl (lv_at hl 4 rfl) ?_
            refine lv_lload hx hb dX12_tries_104 (lv_at hl 5 rfl) ?_
            have l32_1 : (1 : Int32).toInt = 1 := rfl
            have i15 : (x1 + (1 : Int32)).toInt = x1.toInt + 1 := t_addr (n := 1) rfl (by omega)
            have hFc := free_all hD hS hA
            obtain ⟨k16, gk16, hk16⟩ := wGt (cy := cy) X S12 (xe13.A (hsh58.x.A h_o1)).1 (xe13.A (hsh58.x.A h_o1)).2.1
            refine va_callv (va_runV (As := [.int (x1 + (1 : Int32)), .int (x2 ||| ((1 : Int32) <<< (w58_7 &&& 31))), .long x3, .long x4]) (rest := []) ⟨hx, hb, hml, hown, hts⟩ (c_X12_tries_2 l (cy := cy) (X := X) (D := D) S12 _ o1 (xe13.A (hsh58.x.A h_o1)) (x1 + (1 : Int32)) (x2 ||| ((1 : Int32) <<< (w58_7 &&& 31))) x3 x4 (t14.w) (by omega)) (cwV 4 hts gX12_tries_X12_tries rfl rfl rfl hd_X12_tries ⟨Nat.le_of_ble_eq_true rfl, Nat.le_of_ble_eq_true rfl⟩) (pV (va_recv hK hP (q := (RX12, TX12, 34)) (ci := 16) (q0 := k16) rfl hk16) hP hK hD hN) rfl rfl hl.1 rfl (lv_room (Nat.le_of_ble_eq_true rfl)) dX12_tries_106 ⟨(Nat.zero_le _), (Nat.zero_le _)⟩) hS (fun q _ h => hFc q h) hFc (fun u t H1 locs ht hvm hw hB hz1 hk1 hS => ?_)
            have w18 := hw
            obtain ⟨hP, hD⟩ := wd_post hFc ht hB
            generalize H1 = H at hP hS ⊢
            obtain ⟨S19, rfl⟩ : ∃ z, z = u := ⟨_, rfl⟩
            have t20 : stp [(17, 100)] [] [] S S19 := t14.tr w18 (by decide) (fun _ q => absurd q List.not_mem_nil)
            have xe21 : ext S12 S19 := w18.x
            refine lv_iinc (v := w58_7 + (1 : Int32)) (lv' := [(7, .int (w58_7 + (1 : Int32))), (0, .ref o1), (1, .int x1), (2, .int x2), (3, .long x3), (5, .long x4)]) hx hb dX12_tries_109 hl (k := 0) rfl (by rfl) (by decide) rfl (fun ls hl => ?_)
            refine lv_goto (tgt := 58) hx hb dX12_tries_112 (by decide) ?_
            have i22 : (w58_7 + (1 : Int32)).toInt = w58_7.toInt + 1 := t_addr (n := 1) rfl (by omega)
            exact ih58 S19 (w58_7 + (1 : Int32)) _ _ _ (Nat.lt_of_lt_of_le (by omega) (Nat.le_of_lt_succ hm58)) (by omega) t20 hP hD hS (lv_sub hl [0, 1, 2, 3, 4, 5] rfl) ko58
          · have c5i : ((x2 >>> (w58_7 &&& 31)) &&& (1 : Int32)).toInt = 1 := eq_v rfl rfl c5
            refine lv_goto (tgt := 109) hx hb dX12_tries_77 (by decide) ?_
            refine lv_iinc (v := w58_7 + (1 : Int32)) (lv' := [(7, .int (w58_7 + (1 : Int32))), (0, .ref o1), (1, .int x1), (2, .int x2), (3, .long x3), (5, .long x4)]) hx hb dX12_tries_109 hl (k := 0) rfl (by rfl) (by decide) rfl (fun ls hl => ?_)
            refine lv_goto (tgt := 58) hx hb dX12_tries_112 (by decide) ?_
            have l32_1 : (1 : Int32).toInt = 1 := rfl
            have i23 : (w58_7 + (1 : Int32)).toInt = w58_7.toInt + 1 := t_addr (n := 1) rfl (by omega)
            exact ih58 S58_ (w58_7 + (1 : Int32)) _ _ _ (Nat.lt_of_lt_of_le (by omega) (Nat.le_of_lt_succ hm58)) (by omega) hsh58 hP hD hS (lv_sub hl [0, 1, 2, 3, 4, 5] rfl) ko58
    refine loop58 18 S (0 : Int32) _ _ _ (by omega) (by omega) (stp.rf hW) hP hD hS (lv_sub hl [0, 1, 2, 3, 4, 5] rfl) (fun S25 z26 H locs ls hi58 hsh58 hP hD hS hl => ?_)
    have t27 : stp [(17, 100)] [] [] S S25 := t0.tr hsh58 (fun _ q => q) (fun _ q => Or.inl q)
    have et27 := hsh58.x
    refine W.widen (k := 0) (n := 0) (Nat.le_of_ble_eq_true rfl) (Nat.le_of_ble_eq_true rfl) ?_
    exact W.vret hx hb hr (fun t ht hW9 => ⟨⟨S25, rfl, t27, wd_end hP hK hD ht hW9.alike⟩, hS.F ht⟩) hS.2.2 dX12_tries_115 hlocks
  · have c1i : x1.toInt = 4 := eq_v rfl rfl c1
    exact False.elim (by omega)
set_option maxHeartbeats 4000000 in
set_option maxRecDepth 100000 in
theorem c_X12_tries_0 (l : Launch) {D : va_G} {cy : Nat → ClassId} {X : va_W} (S : wPS) (sz : Nat) (o1 : Nat) (h_o1 : isA S o1 12) (x1 : Int32) (x2 : Int32) (x3 : Int64) (x4 : Int64) (hW : wtB S []) (h1 : x1.toInt = 0) : Met l yX12_tries wsX12_tries ({ frames := 7, cells := 0, slots := 0, locals := 174 }) (va_Pc [.ref o1, .int x1, .int x2, .long x3, .long x4] (fun U => U.heap.size = sz ∧ WD D cy X (fun _ => True) S U ∧ NW U)) (va_Qv (fun (u : wPS) => stp [(17, 100)] [] [] S u) (fun u t => WD D cy X (va_A (X ++ PL cy S) sz) u t) (va_A (X ++ PL cy S) sz)) 0 0 (va_A (X ++ PL cy S) sz) := by
  refine Met.ofW (cc := cX12_tries) (maxL := 8) (ret := none) (by decide) rfl ?_
  intro p e s m args below meth c s₁ B hml hv
  obtain ⟨rfl, hsz, ⟨hP, hK, hD0⟩, hN⟩ := hv
  have hx := B.exec
  have hb := B.bytes
  have hr := B.returns
  have hts := atoms_spec (ws := wsX12_tries) B.pre
  have hown : s.vm.findClass RX12 = some m.cls := findClass_of_methodNamed (x := yX12_tries) B.named
  have hlocks := B.notSynchronized
  subst hsz
  have hD := hD0.self (sz := s.heap.size)
  generalize hAe : va_A (X ++ PL cy S) s.heap.size = A at hD ⊢
  have hA : ∀ q : Nat, s.heap.size ≤ q → A q := fun q h => by rw [← hAe]; exact Or.inr h
  have hS : va_S A s.heap s.heap [] := va_S.rf
  have hl := lv_entry ([.ref o1, .int x1, .int x2, .long x3, .long x4]) (n := 8) (Nat.le_of_ble_eq_true rfl)
  rw [lg_entry_eq]
  generalize (lg_sl ([.ref o1, .int x1, .int x2, .long x3, .long x4]) ++ List.replicate (8 - (lg_sl ([.ref o1, .int x1, .int x2, .long x3, .long x4])).length) Slot.unset).toArray = ls at hl ⊢
  have hl : lv_has ls 8 [(0, .ref o1), (1, .int x1), (2, .int x2), (3, .long x3), (5, .long x4)] := hl
  have t0 : stp [(17, 100)] [] [] S S := stp.rf hW
  have r16 := ((hW.at h_o1 List.not_mem_nil).to_12 h_o1.2.1).R16
  refine lv_iload_n hx hb dX12_tries_0 rfl (lv_at hl 1 rfl) ?_
  refine lv_iconst (v := 4) hx hb dX12_tries_1 (by decide) ?_
  refine lv_icmp_ne (tgt := 55) hx hb dX12_tries_2 (by decide) (fun c1 => ?_) (fun c1 => ?_)
  · have c1i : ¬ x1.toInt = 4 := neq_v rfl rfl c1
    refine lv_iconst (v := 0) hx hb dX12_tries_55 (by decide) ?_
    refine lv_istore (lv' := [(7, .int (0 : Int32)), (0, .ref o1), (1, .int x1), (2, .int x2), (3, .long x3), (5, .long x4)]) hx hb dX12_tries_56 hl (by decide) rfl (fun ls hl => ?_)
    have l32_0 : (0 : Int32).toInt = 0 := rfl
    have loop58 : ∀ (n : Nat) (S58_ : wPS) (w58_7 : Int32) (H : Heap) (locs : List Loc) (ls : Array Slot), (17 - w58_7.toInt).toNat < n → 0 ≤ w58_7.toInt ∧ w58_7.toInt ≤ 16 → stp [(17, 100)] [] [] S S58_ → va_P D vwCl (X ++ PL cy S58_) H → va_D A (X ++ PL cy S58_) → va_S A s.heap H locs → lv_has ls 8 [(7, .int w58_7), (0, .ref o1), (1, .int x1), (2, .int x2), (3, .long x3), (5, .long x4)] → (∀ (S58_x : wPS) (w58_7x : Int32) (H : Heap) (locs : List Loc) (ls : Array Slot), 0 ≤ w58_7x.toInt ∧ w58_7x.toInt ≤ 16 → stp [(17, 100)] [] [] S S58_x → va_P D vwCl (X ++ PL cy S58_x) H → va_D A (X ++ PL cy S58_x) → va_S A s.heap H locs → lv_has ls 8 [(7, .int w58_7x), (0, .ref o1), (1, .int x1), (2, .int x2), (3, .long x3), (5, .long x4)] → W p l e (headSpec wsX12_tries ({ frames := 7, cells := 0, slots := 0, locals := 174 } : Room)).room s m [.ref o1, .int x1, .int x2, .long x3, .long x4].toArray below meth c H locs 0 0 (MQ below (va_Qv (fun (u : wPS) => stp [(17, 100)] [] [] S u) (fun u t => WD D cy X A u t) A) [.ref o1, .int x1, .int x2, .long x3, .long x4].toArray s 0 0 A) (F0 m 115 ls [])) → W p l e (headSpec wsX12_tries ({ frames := 7, cells := 0, slots := 0, locals := 174 } : Room)).room s m [.ref o1, .int x1, .int x2, .long x3, .long x4].toArray below meth c H locs 0 0 (MQ below (va_Qv (fun (u : wPS) => stp [(17, 100)] [] [] S u) (fun u t => WD D cy X A u t) A) [.ref o1, .int x1, .int x2, .long x3, .long x4].toArray s 0 0 A) (F0 m 58 ls []) := by
      intro n58
      induction n58 with
      | zero => intro S58_ w58_7 H locs ls hm; exact absurd hm (Nat.not_lt_zero _)
      | succ n58 ih58 =>
        intro S58_ w58_7 H locs ls hm58 hi58 hsh58 hP hD hS hl ko58
        have r16 := ((hsh58.w.at (hsh58.x.A h_o1) List.not_mem_nil).to_12 (hsh58.x.A h_o1).2.1).R16
        refine lv_iload hx hb dX12_tries_58 (lv_at hl 0 rfl) ?_
        refine lv_aload_n hx hb dX12_tries_60 rfl (lv_at hl 1 rfl) ?_
        obtain ⟨k2, gk2, hk2⟩ := wGt (cy := cy) X S58_ (hsh58.x.A h_o1).1 (hsh58.x.A h_o1).2.1
        have i3 := ((hsh58.w.at (hsh58.x.A h_o1) List.not_mem_nil).to_12 (hsh58.x.A h_o1).2.1).R16
        refine va_get (D := D) (ci := 16) (v := .int (S58_.I o1 16)) (C := RX12) (T := TX12) (N := 34) hx hb hts hi_X12_tries_X12 hown hK hP k2 hk2 rfl 16 (by decide) (hts (.fieldLink RX12 282 "HobhouseModel" "box" "I") (by decide +kernel)) (fun _ h9 => h9) rfl dX12_tries_61 ?_
        refine lv_icmp_ge (tgt := 115) hx hb dX12_tries_64 (by decide) (fun c4 => ?_) (fun c4 => ?_)
        · have c4i : (S58_.I o1 16).toInt ≤ w58_7.toInt := le_v rfl rfl c4
          exact ko58 S58_ w58_7 _ _ _ (by omega) hsh58 hP hD hS (lv_sub hl [0, 1, 2, 3, 4, 5] rfl)
        · have c4i : w58_7.toInt < (S58_.I o1 16).toInt := nle_v rfl rfl c4
          refine lv_iload_n hx hb dX12_tries_67 rfl (lv_at hl 3 rfl) ?_
          refine lv_iload hx hb dX12_tries_68 (lv_at hl 0 rfl) ?_
          refine lv_ishr hx hb dX12_tries_70 ?_
          refine lv_iconst (v := 1) hx hb dX12_tries_71 (by decide) ?_
          refine lv_iand hx hb dX12_tries_72 ?_
          refine lv_iconst (v := 1) hx hb dX12_tries_73 (by decide) ?_
          refine lv_icmp_ne (tgt := 80) hx hb dX12_tries_74 (by decide) (fun c5 => ?_) (fun c5 => ?_)
          · have c5i : ¬ ((x2 >>> (w58_7 &&& 31)) &&& (1 : Int32)).toInt = 1 := neq_v rfl rfl c5
            refine lv_aload_n hx hb dX12_tries_80 rfl (lv_at hl 1 rfl) ?_
            have F6 := ((hW.at h_o1 List.not_mem_nil).to_12 h_o1.2.1).F4
            obtain ⟨k7, gk7, hk7⟩ := wGt (cy := cy) X S58_ (hsh58.x.A h_o1).1 (hsh58.x.A h_o1).2.1
            simp only [kE, (hsh58.x.F h_o1 (by decide) F6.1)] at hk7
            refine va_get (D := D) (ci := 16) (v := .ref (S.f o1 4)) (C := RX12) (T := TX12) (N := 34) hx hb hts hi_X12_tries_X12 hown hK hP k7 hk7 rfl 4 (by decide) (hts (.fieldLink RX12 38 "HobhouseModel" "trial" "[I") (by decide +kernel)) (fun _ h9 => h9) rfl dX12_tries_81 ?_
            refine lv_iload_n hx hb dX12_tries_84 rfl (lv_at hl 2 rfl) ?_
            refine lv_aload_n hx hb dX12_tries_85 rfl (lv_at hl 1 rfl) ?_
            have F8 := ((hW.at h_o1 List.not_mem_nil).to_12 h_o1.2.1).F2
            obtain ⟨k9, gk9, hk9⟩ := wGt (cy := cy) X S58_ (hsh58.x.A h_o1).1 (hsh58.x.A h_o1).2.1
            simp only [kE, (hsh58.x.F h_o1 (by decide) F8.1)] at hk9
            refine va_get (D := D) (ci := 16) (v := .ref (S.f o1 2)) (C := RX12) (T := TX12) (N := 34) hx hb hts hi_X12_tries_X12 hown hK hP k9 hk9 rfl 2 (by decide) (hts (.fieldLink RX12 31 "HobhouseModel" "wheels" "[I") (by decide +kernel)) (fun _ h9 => h9) rfl dX12_tries_86 ?_
            refine lv_iload hx hb dX12_tries_89 (lv_at hl 0 rfl) ?_
            obtain ⟨k10, gk10, hk10⟩ := wGt (cy := cy) X S58_ (hsh58.x.A F8.2.1).1 (hsh58.x.A F8.2.1).2.1
            refine va_iald hx hb hK hP k10 2 hk10 rfl (inb (m := 16) ((hsh58.x.n F8.2.1).trans F8.2.2) (by omega) (by omega)) dX12_tries_91 ?_
            obtain ⟨k11, gk11, hk11⟩ := wGt (cy := cy) X S58_ (hsh58.x.A F6.2.1).1 (hsh58.x.A F6.2.1).2.1
            refine va_iast hx hb hK hP hD hS k11 2 hk11 rfl (inb (m := 4) ((hsh58.x.n F6.2.1).trans F6.2.2) (by omega) (by omega)) dX12_tries_92 (fun H locs hP2 hD2 hS => ?_)
            have e9 := wPui (cy := cy) (f := (upd (S58_.i (S.f o1 4)) x1.toNatClampNeg (S58_.i (S.f o1 2) w58_7.toNatClampNeg))) hD (hsh58.x.A F6.2.1).1 (hsh58.x.A F6.2.1).2.1 gk11 rfl
            obtain ⟨S12, hS12⟩ : ∃ z, S58_.si (S.f o1 4) (upd (S58_.i (S.f o1 4)) x1.toNatClampNeg (S58_.i (S.f o1 2) w58_7.toNatClampNeg)) = z := ⟨_, rfl⟩
            have hP : va_P D vwCl (X ++ PL cy S12) H := by rw [← hS12, ← e9]; exact hP2
            have hD : va_D A (X ++ PL cy S12) := by rw [← hS12, ← e9]; exact hD2
            have xe13 : ext S58_ S12 := by rw [← hS12]; exact ext.si _ _ _
            have t14 : stp [(17, 100)] [] [] S S12 := by rw [← hS12]; exact hsh58.i (upd (S58_.i (S.f o1 4)) x1.toNatClampNeg (S58_.i (S.f o1 2) w58_7.toNatClampNeg)) (hsh58.x.A F6.2.1) (by decide)
            refine lv_aload_n hx hb dX12_tries_93 rfl (lv_at hl 1 rfl) ?_
            refine lv_iload_n hx hb dX12_tries_94 rfl (lv_at hl 2 rfl) ?_
            refine lv_iconst (v := 1) hx hb dX12_tries_95 (by decide) ?_
            refine lv_iadd hx hb dX12_tries_96 ?_
            refine lv_iload_n hx hb dX12_tries_97 rfl (lv_at hl 3 rfl) ?_
            refine lv_iconst (v := 1) hx hb dX12_tries_98 (by decide) ?_
            refine lv_iload hx hb dX12_tries_99 (lv_at hl 0 rfl) ?_
            refine lv_ishl hx hb dX12_tries_101 ?_
            refine lv_ior hx hb dX12_tries_102 ?_
            refine lv_lload_n hx hb dX12_tries_103 rfl (lv_at hl 4 rfl) ?_
            refine lv_lload hx hb dX12_tries_104 (lv_at hl 5 rfl) ?_
            have l32_1 : (1 : Int32).toInt = 1 := rfl
            have i15 : (x1 + (1 : Int32)).toInt = x1.toInt + 1 := t_addr (n := 1) rfl (by omega)
            have hFc := free_all hD hS hA
            obtain ⟨k16, gk16, hk16⟩ := wGt (cy := cy) X S12 (xe13.A (hsh58.x.A h_o1)).1 (xe13.A (hsh58.x.A h_o1)).2.1
            refine va_callv (va_runV (As := [.int (x1 + (1 : Int32)), .int (x2 ||| ((1 : Int32) <<< (w58_7 &&& 31))), .long x3, .long x4]) (rest := []) ⟨hx, hb, hml, hown, hts⟩ (c_X12_tries_1 l (cy := cy) (X := X) (D := D) S12 _ o1 (xe13.A (hsh58.x.A h_o1)) (x1 + (1 : Int32)) (x2 ||| ((1 : Int32) <<< (w58_7 &&& 31))) x3 x4 (t14.w) (by omega)) (cwV 4 hts gX12_tries_X12_tries rfl rfl rfl hd_X12_tries ⟨Nat.le_of_ble_eq_true rfl, Nat.le_of_ble_eq_true rfl⟩) (pV (va_recv hK hP (q := (RX12, TX12, 34)) (ci := 16) (q0 := k16) rfl hk16) hP hK hD hN) rfl rfl hl.1 rfl (lv_room (Nat.le_of_ble_eq_true rfl)) dX12_tries_106 ⟨(Nat.zero_le _), (Nat.zero_le _)⟩) hS (fun q _ h => hFc q h) hFc (fun u t H1 locs ht hvm hw hB hz1 hk1 hS => ?_)
            have w18 := hw
            obtain ⟨hP, hD⟩ := wd_post hFc ht hB
            generalize H1 = H at hP hS ⊢
            obtain ⟨S19, rfl⟩ : ∃ z, z = u := ⟨_, rfl⟩
            have t20 : stp [(17, 100)] [] [] S S19 := t14.tr w18 (by decide) (fun _ q => absurd q List.not_mem_nil)
            have xe21 : ext S12 S19 := w18.x
            refine lv_iinc (v := w58_7 + (1 : Int32)) (lv' := [(7, .int (w58_7 + (1 : Int32))), (0, .ref o1), (1, .int x1), (2, .int x2), (3, .long x3), (5, .long x4)]) hx hb dX12_tries_109 hl (k := 0) rfl (by rfl) (by decide) rfl (fun ls hl => ?_)
            refine lv_goto (tgt := 58) hx hb dX12_tries_112 (by decide) ?_
            have i22 : (w58_7 + (1 : Int32)).toInt = w58_7.toInt + 1 := t_addr (n := 1) rfl (by omega)
            exact ih58 S19 (w58_7 + (1 : Int32)) _ _ _ (Nat.lt_of_lt_of_le (by omega) (Nat.le_of_lt_succ hm58)) (by omega) t20 hP hD hS (lv_sub hl [0, 1, 2, 3, 4, 5] rfl) ko58
          · have c5i : ((x2 >>> (w58_7 &&& 31)) &&& (1 : Int32)).toInt = 1 := eq_v rfl rfl c5
            refine lv_goto (tgt := 109) hx hb dX12_tries_77 (by decide) ?_
            refine lv_iinc (v := w58_7 + (1 : Int32)) (lv' := [(7, .int (w58_7 + (1 : Int32))), (0, .ref o1), (1, .int x1), (2, .int x2), (3, .long x3), (5, .long x4)]) hx hb dX12_tries_109 hl (k := 0) rfl (by rfl) (by decide) rfl (fun ls hl => ?_)
            refine lv_goto (tgt := 58) hx hb dX12_tries_112 (by decide) ?_
            have l32_1 : (1 : Int32).toInt = 1 := rfl
            have i23 : (w58_7 + (1 : Int32)).toInt = w58_7.toInt + 1 := t_addr (n := 1) rfl (by omega)
            exact ih58 S58_ (w58_7 + (1 : Int32)) _ _ _ (Nat.lt_of_lt_of_le (by omega) (Nat.le_of_lt_succ hm58)) (by omega) hsh58 hP hD hS (lv_sub hl [0, 1, 2, 3, 4, 5] rfl) ko58
    refine loop58 18 S (0 : Int32) _ _ _ (by omega) (by omega) (stp.rf hW) hP hD hS (lv_sub hl [0, 1, 2, 3, 4, 5] rfl) (fun S25 z26 H locs ls hi58 hsh58 hP hD hS hl => ?_)
    have t27 : stp [(17, 100)] [] [] S S25 := t0.tr hsh58 (fun _ q => q) (fun _ q => Or.inl q)
    have et27 := hsh58.x
    refine W.widen (k := 0) (n := 0) (Nat.le_of_ble_eq_true rfl) (Nat.le_of_ble_eq_true rfl) ?_
    exact W.vret hx hb hr (fun t ht hW9 => ⟨⟨S25, rfl, t27, wd_end hP hK hD ht hW9.alike⟩, hS.F ht⟩) hS.2.2 dX12_tries_115 hlocks
  · have c1i : x1.toInt = 4 := eq_v rfl rfl c1
    exact False.elim (by omega)
theorem hi_X12_finds_X12 : ∀ w ∈ u_ws RX12 TX12 34, w ∈ wsX12_finds := by decide +kernel
theorem hd_X12_finds : yX12_finds.cls = RX12 ∧ yX12_finds.cls ≠ "java/lang/invoke/MethodHandle" ∧ yX12_finds.cls ≠ "java/lang/invoke/VarHandle" ∧ (parseMethodDescriptor yX12_finds.desc).map (fun d => d.parameters.length) = some 2 := by decide +kernel
set_option maxHeartbeats 4000000 in
set_option maxRecDepth 100000 in
theorem c_X12_finds (l : Launch) {D : va_G} {cy : Nat → ClassId} {X : va_W} (S : wPS) (sz : Nat) (o1 : Nat) (h_o1 : isA S o1 12) (x1 : Int64) (x2 : Int64) (hW : wtB S [])  : Met l yX12_finds wsX12_finds ({ frames := 8, cells := 0, slots := 0, locals := 201 }) (va_Pc [.ref o1, .long x1, .long x2] (fun U => U.heap.size = sz ∧ WD D cy X (fun _ => True) S U ∧ NW U)) (va_Qv (fun (u : wPS) => stp [(17, 100)] [] [] S u) (fun u t => WD D cy X (va_A (X ++ PL cy S) sz) u t) (va_A (X ++ PL cy S) sz)) 0 0 (va_A (X ++ PL cy S) sz) := by
  refine Met.ofW (cc := cX12_finds) (maxL := 5) (ret := none) (by decide) rfl ?_
  intro p e s m args below meth c s₁ B hml hv
  obtain ⟨rfl, hsz, ⟨hP, hK, hD0⟩, hN⟩ := hv
  have hx := B.exec
  have hb := B.bytes
  have hr := B.returns
  have hts := atoms_spec (ws := wsX12_finds) B.pre
  have hown : s.vm.findClass RX12 = some m.cls := findClass_of_methodNamed (x := yX12_finds) B.named
  have hlocks := B.notSynchronized
  subst hsz
  have hD := hD0.self (sz := s.heap.size)
  generalize hAe : va_A (X ++ PL cy S) s.heap.size = A at hD ⊢
  have hA : ∀ q : Nat, s.heap.size ≤ q → A q := fun q h => by rw [← hAe]; exact Or.inr h
  have hS : va_S A s.heap s.heap [] := va_S.rf
  have hl := lv_entry ([.ref o1, .long x1, .long x2]) (n := 5) (Nat.le_of_ble_eq_true rfl)
  rw [lg_entry_eq]
  generalize (lg_sl ([.ref o1, .long x1, .long x2]) ++ List.replicate (5 - (lg_sl ([.ref o1, .long x1, .long x2])).length) Slot.unset).toArray = ls at hl ⊢
  have hl : lv_has ls 5 [(0, .ref o1), (1, .long x1), (3, .long x2)] := hl
  have t0 : stp [(17, 100)] [] [] S S := stp.rf hW
  refine lv_aload_n hx hb dX12_finds_0 rfl (lv_at hl 0 rfl) ?_
  have F1 := ((hW.at h_o1 List.not_mem_nil).to_12 h_o1.2.1).F3
  obtain ⟨k2, gk2, hk2⟩ := wGt (cy := cy) X S h_o1.1 h_o1.2.1
  simp only [kE, F1.1] at hk2
  refine va_get (D := D) (ci := 16) (v := .ref (S.f o1 3)) (C := RX12) (T := TX12) (N := 34) hx hb hts hi_X12_finds_X12 hown hK hP k2 hk2 rfl 3 (by decide) (hts (.fieldLink RX12 35 "HobhouseModel" "four" "[I") (by decide +kernel)) (fun _ h9 => h9) rfl dX12_finds_1 ?_
  refine lv_iconst (v := 0) hx hb dX12_finds_4 (by decide) ?_
  refine lv_iconst (v := 0) hx hb dX12_finds_5 (by decide) ?_
  obtain ⟨k3, gk3, hk3⟩ := wGt (cy := cy) X S F1.2.1.1 F1.2.1.2.1
  refine va_iast hx hb hK hP hD hS k3 2 hk3 rfl (inb F1.2.2 (by decide) (by decide)) dX12_finds_6 (fun H locs hP2 hD2 hS => ?_)
  have e9 := wPui (cy := cy) (f := (upd (S.i (S.f o1 3)) (0 : Int32).toNatClampNeg (0 : Int32))) hD F1.2.1.1 F1.2.1.2.1 gk3 rfl
  obtain ⟨S4, hS4⟩ : ∃ z, S.si (S.f o1 3) (upd (S.i (S.f o1 3)) (0 : Int32).toNatClampNeg (0 : Int32)) = z := ⟨_, rfl⟩
  have hP : va_P D vwCl (X ++ PL cy S4) H := by rw [← hS4, ← e9]; exact hP2
  have hD : va_D A (X ++ PL cy S4) := by rw [← hS4, ← e9]; exact hD2
  have xe5 : ext S S4 := by rw [← hS4]; exact ext.si _ _ _
  have t6 : stp [(17, 100)] [] [] S S4 := by rw [← hS4]; exact t0.i (upd (S.i (S.f o1 3)) (0 : Int32).toNatClampNeg (0 : Int32)) F1.2.1 (by decide)
  refine lv_aload_n hx hb dX12_finds_7 rfl (lv_at hl 0 rfl) ?_
  refine lv_iconst (v := 0) hx hb dX12_finds_8 (by decide) ?_
  refine lv_iconst (v := 0) hx hb dX12_finds_9 (by decide) ?_
  refine lv_lload_n hx hb dX12_finds_10 rfl (lv_at hl 1 rfl) ?_
  refine lv_lload_n hx hb dX12_finds_11 rfl (lv_at hl 2 rfl) ?_
  have l32_0 : (0 : Int32).toInt = 0 := rfl
  have hFc := free_all hD hS hA
  obtain ⟨k7, gk7, hk7⟩ := wGt (cy := cy) X S4 (xe5.A h_o1).1 (xe5.A h_o1).2.1
  refine va_callv (va_runV (As := [.int (0 : Int32), .int (0 : Int32), .long x1, .long x2]) (rest := []) ⟨hx, hb, hml, hown, hts⟩ (c_X12_tries_0 l (cy := cy) (X := X) (D := D) S4 _ o1 (xe5.A h_o1) (0 : Int32) (0 : Int32) x1 x2 (t6.w) (by omega)) (cwV 4 hts gX12_finds_X12_tries rfl rfl rfl hd_X12_tries ⟨Nat.le_of_ble_eq_true rfl, Nat.le_of_ble_eq_true rfl⟩) (pV (va_recv hK hP (q := (RX12, TX12, 34)) (ci := 16) (q0 := k7) rfl hk7) hP hK hD hN) rfl rfl hl.1 rfl (lv_room (Nat.le_of_ble_eq_true rfl)) dX12_finds_12 ⟨(Nat.zero_le _), (Nat.zero_le _)⟩) hS (fun q _ h => hFc q h) hFc (fun u t H1 locs ht hvm hw hB hz1 hk1 hS => ?_)
  have w9 := hw
  obtain ⟨hP, hD⟩ := wd_post hFc ht hB
  generalize H1 = H at hP hS ⊢
  obtain ⟨S10, rfl⟩ : ∃ z, z = u := ⟨_, rfl⟩
  have t11 : stp [(17, 100)] [] [] S S10 := t6.tr w9 (by decide) (fun _ q => absurd q List.not_mem_nil)
  have xe12 : ext S4 S10 := w9.x
  refine W.widen (k := 0) (n := 0) (Nat.le_of_ble_eq_true rfl) (Nat.le_of_ble_eq_true rfl) ?_
  exact W.vret hx hb hr (fun t ht hW9 => ⟨⟨S10, rfl, t11, wd_end hP hK hD ht hW9.alike⟩, hS.F ht⟩) hS.2.2 dX12_finds_15 hlocks
theorem hi_X12_isMet_X12 : ∀ w ∈ u_ws RX12 TX12 34, w ∈ wsX12_isMet := by decide +kernel
theorem hd_X12_isMet : yX12_isMet.cls = RX12 ∧ yX12_isMet.cls ≠ "java/lang/invoke/MethodHandle" ∧ yX12_isMet.cls ≠ "java/lang/invoke/VarHandle" ∧ (parseMethodDescriptor yX12_isMet.desc).map (fun d => d.parameters.length) = some 3 := by decide +kernel
set_option maxHeartbeats 4000000 in
set_option maxRecDepth 100000 in
theorem c_X12_isMet (l : Launch) {D : va_G} {cy : Nat → ClassId} {X : va_W} (S : wPS) (sz : Nat) (o1 : Nat) (h_o1 : isA S o1 12) (x1 : Int64) (x2 : Int64) (x3 : Int32) (hW : wtB S [])  : Met l yX12_isMet wsX12_isMet ({ frames := 9, cells := 0, slots := 0, locals := 225 }) (va_Pc [.ref o1, .long x1, .long x2, .int x3] (fun U => U.heap.size = sz ∧ WD D cy X (fun _ => True) S U ∧ NW U)) (va_Qi (fun r (u : wPS) => stp [(17, 100)] [] [] S u ∧ narrow .boolean (.int r) = .int r) (fun u t => WD D cy X (va_A (X ++ PL cy S) sz) u t) (va_A (X ++ PL cy S) sz)) 0 0 (va_A (X ++ PL cy S) sz) := by
  refine Met.ofW (cc := cX12_isMet) (maxL := 6) (ret := (some .boolean)) (by decide) rfl ?_
  intro p e s m args below meth c s₁ B hml hv
  obtain ⟨rfl, hsz, ⟨hP, hK, hD0⟩, hN⟩ := hv
  have hx := B.exec
  have hb := B.bytes
  have hr := B.returns
  have hts := atoms_spec (ws := wsX12_isMet) B.pre
  have hown : s.vm.findClass RX12 = some m.cls := findClass_of_methodNamed (x := yX12_isMet) B.named
  have hlocks := B.notSynchronized
  subst hsz
  have hD := hD0.self (sz := s.heap.size)
  generalize hAe : va_A (X ++ PL cy S) s.heap.size = A at hD ⊢
  have hA : ∀ q : Nat, s.heap.size ≤ q → A q := fun q h => by rw [← hAe]; exact Or.inr h
  have hS : va_S A s.heap s.heap [] := va_S.rf
  have hl := lv_entry ([.ref o1, .long x1, .long x2, .int x3]) (n := 6) (Nat.le_of_ble_eq_true rfl)
  rw [lg_entry_eq]
  generalize (lg_sl ([.ref o1, .long x1, .long x2, .int x3]) ++ List.replicate (6 - (lg_sl ([.ref o1, .long x1, .long x2, .int x3])).length) Slot.unset).toArray = ls at hl ⊢
  have hl : lv_has ls 6 [(0, .ref o1), (1, .long x1), (3, .long x2), (5, .int x3)] := hl
  have t0 : stp [(17, 100)] [] [] S S := stp.rf hW
  refine lv_aload_n hx hb dX12_isMet_0 rfl (lv_at hl 0 rfl) ?_
  refine lv_lload_n hx hb dX12_isMet_1 rfl (lv_at hl 1 rfl) ?_
  refine lv_lload_n hx hb dX12_isMet_2 rfl (lv_at hl 2 rfl) ?_
  have hFc := free_all hD hS hA
  obtain ⟨k1, gk1, hk1⟩ := wGt (cy := cy) X S h_o1.1 h_o1.2.1
  refine va_callv (va_runV (As := [.long x1, .long x2]) (rest := []) ⟨hx, hb, hml, hown, hts⟩ (c_X12_finds l (cy := cy) (X := X) (D := D) S _ o1 h_o1 x1 x2 (hW)) (cwV 2 hts gX12_isMet_X12_finds rfl rfl rfl hd_X12_finds ⟨Nat.le_of_ble_eq_true rfl, Nat.le_of_ble_eq_true rfl⟩) (pV (va_recv hK hP (q := (RX12, TX12, 34)) (ci := 16) (q0 := k1) rfl hk1) hP hK hD hN) rfl rfl hl.1 rfl (lv_room (Nat.le_of_ble_eq_true rfl)) dX12_isMet_3 ⟨(Nat.zero_le _), (Nat.zero_le _)⟩) hS (fun q _ h => hFc q h) hFc (fun u t H1 locs ht hvm hw hB hz1 hk1 hS => ?_)
  have w3 := hw
  obtain ⟨hP, hD⟩ := wd_post hFc ht hB
  generalize H1 = H at hP hS ⊢
  obtain ⟨S4, rfl⟩ : ∃ z, z = u := ⟨_, rfl⟩
  have t5 : stp [(17, 100)] [] [] S S4 := t0.tr w3 (by decide) (fun _ q => absurd q List.not_mem_nil)
  have xe6 : ext S S4 := w3.x
  refine lv_ldc2 (own := RX12) (v := 1000000) hx hb hown (hts (.constantLong RX12 301 (1000000)) (by decide +kernel)) dX12_isMet_6 ?_
  refine lv_aload_n hx hb dX12_isMet_9 rfl (lv_at hl 0 rfl) ?_
  have F7 := ((hW.at h_o1 List.not_mem_nil).to_12 h_o1.2.1).F3
  obtain ⟨k8, gk8, hk8⟩ := wGt (cy := cy) X S4 (xe6.A h_o1).1 (xe6.A h_o1).2.1
  simp only [kE, (xe6.F h_o1 (by decide) F7.1)] at hk8
  refine va_get (D := D) (ci := 16) (v := .ref (S.f o1 3)) (C := RX12) (T := TX12) (N := 34) hx hb hts hi_X12_isMet_X12 hown hK hP k8 hk8 rfl 3 (by decide) (hts (.fieldLink RX12 35 "HobhouseModel" "four" "[I") (by decide +kernel)) (fun _ h9 => h9) rfl dX12_isMet_10 ?_
  refine lv_lload_n hx hb dX12_isMet_13 rfl (lv_at hl 1 rfl) ?_
  refine lv_lload_n hx hb dX12_isMet_14 rfl (lv_at hl 2 rfl) ?_
  have hFc := free_all hD hS hA
  refine va_calll (va_runS (As := [.ref (S.f o1 3), .long x1, .long x2]) (rest := [.long (1000000 : Int64)]) ⟨hx, hb, hml, hown, hts⟩ (c_X12_offOf l (cy := cy) (X := X) (D := D) S4 _ (S.f o1 3) (xe6.A F7.2.1) x1 x2 (((xe6.n F7.2.1).trans F7.2.2))) (cwS 3 hts gX12_isMet_X12_offOf rfl rfl rfl hd_X12_offOf ⟨Nat.le_of_ble_eq_true rfl, Nat.le_of_ble_eq_true rfl⟩) (pS hP hK hD hN) rfl rfl hl.1 rfl (lv_room (Nat.le_of_ble_eq_true rfl)) dX12_isMet_15 ⟨(Nat.zero_le _), (Nat.zero_le _)⟩) hS (fun q _ h => hFc q h) hFc (fun r9 u t H1 locs ht hvm hw hB hz1 hk1 hS => ?_)
  clear hw
  obtain ⟨hP, hD⟩ := wd_post hFc ht hB
  generalize H1 = H at hP hS ⊢
  refine lv_lmul hx hb dX12_isMet_18 ?_
  refine lv_iload hx hb dX12_isMet_19 (lv_at hl 3 rfl) ?_
  refine lv_i2l hx hb dX12_isMet_21 rfl ?_
  refine lv_lload_n hx hb dX12_isMet_22 rfl (lv_at hl 1 rfl) ?_
  refine lv_lmul hx hb dX12_isMet_23 ?_
  refine lv_aload_n hx hb dX12_isMet_24 rfl (lv_at hl 0 rfl) ?_
  obtain ⟨k10, gk10, hk10⟩ := wGt (cy := cy) X S4 (xe6.A h_o1).1 (xe6.A h_o1).2.1
  simp only [kE, (xe6.F h_o1 (by decide) F7.1)] at hk10
  refine va_get (D := D) (ci := 16) (v := .ref (S.f o1 3)) (C := RX12) (T := TX12) (N := 34) hx hb hts hi_X12_isMet_X12 hown hK hP k10 hk10 rfl 3 (by decide) (hts (.fieldLink RX12 35 "HobhouseModel" "four" "[I") (by decide +kernel)) (fun _ h9 => h9) rfl dX12_isMet_25 ?_
  refine lv_iconst (v := 1) hx hb dX12_isMet_28 (by decide) ?_
  obtain ⟨k11, gk11, hk11⟩ := wGt (cy := cy) X S4 (xe6.A F7.2.1).1 (xe6.A F7.2.1).2.1
  refine va_iald hx hb hK hP k11 2 hk11 rfl (inb ((xe6.n F7.2.1).trans F7.2.2) (by decide) (by decide)) dX12_isMet_29 ?_
  refine lv_i2l hx hb dX12_isMet_30 rfl ?_
  refine lv_lmul hx hb dX12_isMet_31 ?_
  refine lv_aload_n hx hb dX12_isMet_32 rfl (lv_at hl 0 rfl) ?_
  obtain ⟨k12, gk12, hk12⟩ := wGt (cy := cy) X S4 (xe6.A h_o1).1 (xe6.A h_o1).2.1
  simp only [kE, (xe6.F h_o1 (by decide) F7.1)] at hk12
  refine va_get (D := D) (ci := 16) (v := .ref (S.f o1 3)) (C := RX12) (T := TX12) (N := 34) hx hb hts hi_X12_isMet_X12 hown hK hP k12 hk12 rfl 3 (by decide) (hts (.fieldLink RX12 35 "HobhouseModel" "four" "[I") (by decide +kernel)) (fun _ h9 => h9) rfl dX12_isMet_33 ?_
  refine lv_iconst (v := 3) hx hb dX12_isMet_36 (by decide) ?_
  obtain ⟨k13, gk13, hk13⟩ := wGt (cy := cy) X S4 (xe6.A F7.2.1).1 (xe6.A F7.2.1).2.1
  refine va_iald hx hb hK hP k13 2 hk13 rfl (inb ((xe6.n F7.2.1).trans F7.2.2) (by decide) (by decide)) dX12_isMet_37 ?_
  refine lv_i2l hx hb dX12_isMet_38 rfl ?_
  refine lv_lmul hx hb dX12_isMet_39 ?_
  refine W.lcmp hx hb dX12_isMet_40 ?_
  refine lv_if_gt (tgt := 48) hx hb dX12_isMet_41 (by decide) (fun c14 => ?_) (fun c14 => ?_)
  · refine lv_iconst (v := 0) hx hb dX12_isMet_48 (by decide) ?_
    refine W.widen (k := 0) (n := 0) (Nat.le_of_ble_eq_true rfl) (Nat.le_of_ble_eq_true rfl) ?_
    exact W.zret (v := (0 : Int32)) hx hb hr (by rfl) (fun t ht hW9 => ⟨⟨(0 : Int32), S4, rfl, ⟨t5, (by rfl)⟩, wd_end hP hK hD ht hW9.alike⟩, hS.F ht⟩) hS.2.2 dX12_isMet_49 hlocks
  · refine lv_iconst (v := 1) hx hb dX12_isMet_44 (by decide) ?_
    refine lv_goto (tgt := 49) hx hb dX12_isMet_45 (by decide) ?_
    refine W.widen (k := 0) (n := 0) (Nat.le_of_ble_eq_true rfl) (Nat.le_of_ble_eq_true rfl) ?_
    exact W.zret (v := (1 : Int32)) hx hb hr (by rfl) (fun t ht hW9 => ⟨⟨(1 : Int32), S4, rfl, ⟨t5, (by rfl)⟩, wd_end hP hK hD ht hW9.alike⟩, hS.F ht⟩) hS.2.2 dX12_isMet_49 hlocks
theorem hi_X12_change_X12 : ∀ w ∈ u_ws RX12 TX12 34, w ∈ wsX12_change := by decide +kernel
theorem hd_X12_change : yX12_change.cls = RX12 ∧ yX12_change.cls ≠ "java/lang/invoke/MethodHandle" ∧ yX12_change.cls ≠ "java/lang/invoke/VarHandle" ∧ (parseMethodDescriptor yX12_change.desc).map (fun d => d.parameters.length) = some 3 := by decide +kernel
set_option maxHeartbeats 4000000 in
set_option maxRecDepth 100000 in
theorem c_X12_change (l : Launch) {D : va_G} {cy : Nat → ClassId} {X : va_W} (S : wPS) (sz : Nat) (o1 : Nat) (h_o1 : isA S o1 12) (x1 : Int32) (x2 : Int32) (x3 : Int32) (hW : wtB S [])  : Met l yX12_change wsX12_change ({ frames := 9, cells := 0, slots := 0, locals := 225 }) (va_Pc [.ref o1, .int x1, .int x2, .int x3] (fun U => U.heap.size = sz ∧ WD D cy X (fun _ => True) S U ∧ NW U)) (va_Qi (fun r (u : wPS) => stp [(12, 15), (17, 100)] [] [] S u) (fun u t => WD D cy X (va_A (X ++ PL cy S) sz) u t) (va_A (X ++ PL cy S) sz)) 0 0 (va_A (X ++ PL cy S) sz) := by
  refine Met.ofW (cc := cX12_change) (maxL := 4) (ret := (some .int)) (by decide) rfl ?_
  intro p e s m args below meth c s₁ B hml hv
  obtain ⟨rfl, hsz, ⟨hP, hK, hD0⟩, hN⟩ := hv
  have hx := B.exec
  have hb := B.bytes
  have hr := B.returns
  have hts := atoms_spec (ws := wsX12_change) B.pre
  have hown : s.vm.findClass RX12 = some m.cls := findClass_of_methodNamed (x := yX12_change) B.named
  have hlocks := B.notSynchronized
  subst hsz
  have hD := hD0.self (sz := s.heap.size)
  generalize hAe : va_A (X ++ PL cy S) s.heap.size = A at hD ⊢
  have hA : ∀ q : Nat, s.heap.size ≤ q → A q := fun q h => by rw [← hAe]; exact Or.inr h
  have hS : va_S A s.heap s.heap [] := va_S.rf
  have hl := lv_entry ([.ref o1, .int x1, .int x2, .int x3]) (n := 4) (Nat.le_of_ble_eq_true rfl)
  rw [lg_entry_eq]
  generalize (lg_sl ([.ref o1, .int x1, .int x2, .int x3]) ++ List.replicate (4 - (lg_sl ([.ref o1, .int x1, .int x2, .int x3])).length) Slot.unset).toArray = ls at hl ⊢
  have hl : lv_has ls 4 [(0, .ref o1), (1, .int x1), (2, .int x2), (3, .int x3)] := hl
  have t0 : stp [(12, 15), (17, 100)] [] [] S S := stp.rf hW
  refine lv_iload_n hx hb dX12_change_0 rfl (lv_at hl 1 rfl) ?_
  refine lv_iload_n hx hb dX12_change_1 rfl (lv_at hl 2 rfl) ?_
  have hFc := free_all hD hS hA
  refine va_calli (va_runS (As := [.int x1, .int x2]) (rest := []) ⟨hx, hb, hml, hown, hts⟩ (c_X12_isRatio l (cy := cy) (X := X) (D := D) S _ x1 x2) (cwS 2 hts gX12_change_X12_isRatio rfl rfl rfl hd_X12_isRatio ⟨Nat.le_of_ble_eq_true rfl, Nat.le_of_ble_eq_true rfl⟩) (pS hP hK hD hN) rfl rfl hl.1 rfl (lv_room (Nat.le_of_ble_eq_true rfl)) dX12_change_2 ⟨(Nat.zero_le _), (Nat.zero_le _)⟩) hS (fun q _ h => hFc q h) hFc (fun r1 u t H1 locs ht hvm hw hB hz1 hk1 hS => ?_)
  have c2 := hw
  obtain ⟨hP, hD⟩ := wd_post hFc ht hB
  generalize H1 = H at hP hS ⊢
  obtain rfl : f_X12_isRatio x1 x2 = r1 := c2.symm
  have i3 := ir_rng x1 x2
  refine lv_if_eq (tgt := 20) hx hb dX12_change_5 (by decide) (fun c4 => ?_) (fun c4 => ?_)
  · have c4i : (f_X12_isRatio x1 x2).toInt = 0 := eq_v rfl rfl c4
    refine lv_aload_n hx hb dX12_change_20 rfl (lv_at hl 0 rfl) ?_
    refine lv_iconst (v := 1) hx hb dX12_change_21 (by decide) ?_
    have l32_1 : (1 : Int32).toInt = 1 := rfl
    have hFc := free_all hD hS hA
    obtain ⟨k5, gk5, hk5⟩ := wGt (cy := cy) X S h_o1.1 h_o1.2.1
    refine va_calli (va_runV (As := [.int (1 : Int32)]) (rest := []) ⟨hx, hb, hml, hown, hts⟩ (c_X12_fails l (cy := cy) (X := X) (D := D) S _ o1 h_o1 (1 : Int32) (hW)) (cwV 1 hts gX12_change_X12_fails rfl rfl rfl hd_X12_fails ⟨Nat.le_of_ble_eq_true rfl, Nat.le_of_ble_eq_true rfl⟩) (pV (va_recv hK hP (q := (RX12, TX12, 34)) (ci := 16) (q0 := k5) rfl hk5) hP hK hD hN) rfl rfl hl.1 rfl (lv_room (Nat.le_of_ble_eq_true rfl)) dX12_change_22 ⟨(Nat.zero_le _), (Nat.zero_le _)⟩) hS (fun q _ h => hFc q h) hFc (fun r6 u t H1 locs ht hvm hw hB hz1 hk1 hS => ?_)
    obtain ⟨c7, w8⟩ := hw
    obtain ⟨hP, hD⟩ := wd_post hFc ht hB
    generalize H1 = H at hP hS ⊢
    obtain ⟨S9, rfl⟩ : ∃ z, z = u := ⟨_, rfl⟩
    have t10 : stp [(12, 15), (17, 100)] [] [] S S9 := t0.tr w8 (by decide) (fun _ q => absurd q List.not_mem_nil)
    have xe11 : ext S S9 := w8.x
    refine W.widen (k := 0) (n := 0) (Nat.le_of_ble_eq_true rfl) (Nat.le_of_ble_eq_true rfl) ?_
    exact W.iret (v := r6) hx hb hr (fun t ht hW9 => ⟨⟨r6, S9, rfl, t10, wd_end hP hK hD ht hW9.alike⟩, hS.F ht⟩) hS.2.2 dX12_change_25 hlocks
  · have c4i : ¬ (f_X12_isRatio x1 x2).toInt = 0 := neq_v rfl rfl c4
    refine lv_iload_n hx hb dX12_change_8 rfl (lv_at hl 3 rfl) ?_
    refine lv_i2l hx hb dX12_change_9 rfl ?_
    refine lv_lconst (v := 0) hx hb dX12_change_10 (by decide) ?_
    refine lv_ldc2 (own := RX12) (v := 3) hx hb hown (hts (.constantLong RX12 247 (3)) (by decide +kernel)) dX12_change_11 ?_
    have hFc := free_all hD hS hA
    refine va_calli (va_runS (As := [.long x3.toInt64, .long (0 : Int64), .long (3 : Int64)]) (rest := []) ⟨hx, hb, hml, hown, hts⟩ (c_X12_in l (cy := cy) (X := X) (D := D) S _ x3.toInt64 (0 : Int64) (3 : Int64)) (cwS 3 hts gX12_change_X12_in rfl rfl rfl hd_X12_in ⟨Nat.le_of_ble_eq_true rfl, Nat.le_of_ble_eq_true rfl⟩) (pS hP hK hD hN) rfl rfl hl.1 rfl (lv_room (Nat.le_of_ble_eq_true rfl)) dX12_change_14 ⟨(Nat.zero_le _), (Nat.zero_le _)⟩) hS (fun q _ h => hFc q h) hFc (fun r12 u t H1 locs ht hvm hw hB hz1 hk1 hS => ?_)
    have c13 := hw
    obtain ⟨hP, hD⟩ := wd_post hFc ht hB
    generalize H1 = H at hP hS ⊢
    obtain rfl : f_X12_in x3.toInt64 (0 : Int64) (3 : Int64) = r12 := c13.symm
    have i14 := i64_i x3
    have l64_0 : (0 : Int64).toInt = 0 := rfl
    have l64_3 : (3 : Int64).toInt = 3 := rfl
    have i15 := in_rng x3.toInt64 (0 : Int64) (3 : Int64)
    refine lv_if_ne (tgt := 26) hx hb dX12_change_17 (by decide) (fun c16 => ?_) (fun c16 => ?_)
    · have c16i : ¬ (f_X12_in x3.toInt64 (0 : Int64) (3 : Int64)).toInt = 0 := neq_v rfl rfl c16
      refine lv_aload_n hx hb dX12_change_26 rfl (lv_at hl 0 rfl) ?_
      obtain ⟨k17, gk17, hk17⟩ := wGt (cy := cy) X S h_o1.1 h_o1.2.1
      have i18 := ((hW.at h_o1 List.not_mem_nil).to_12 h_o1.2.1).R16
      refine va_get (D := D) (ci := 16) (v := .int (S.I o1 16)) (C := RX12) (T := TX12) (N := 34) hx hb hts hi_X12_change_X12 hown hK hP k17 hk17 rfl 16 (by decide) (hts (.fieldLink RX12 282 "HobhouseModel" "box" "I") (by decide +kernel)) (fun _ h9 => h9) rfl dX12_change_27 ?_
      refine lv_iconst (v := 4) hx hb dX12_change_30 (by decide) ?_
      refine lv_icmp_ge (tgt := 40) hx hb dX12_change_31 (by decide) (fun c19 => ?_) (fun c19 => ?_)
      · have c19i : 4 ≤ (S.I o1 16).toInt := le_v rfl rfl c19
        refine lv_aload_n hx hb dX12_change_40 rfl (lv_at hl 0 rfl) ?_
        refine lv_iload_n hx hb dX12_change_41 rfl (lv_at hl 1 rfl) ?_
        refine lv_i2l hx hb dX12_change_42 rfl ?_
        refine lv_iload_n hx hb dX12_change_43 rfl (lv_at hl 2 rfl) ?_
        refine lv_i2l hx hb dX12_change_44 rfl ?_
        have hFc := free_all hD hS hA
        obtain ⟨k20, gk20, hk20⟩ := wGt (cy := cy) X S h_o1.1 h_o1.2.1
        refine va_callv (va_runV (As := [.long x1.toInt64, .long x2.toInt64]) (rest := []) ⟨hx, hb, hml, hown, hts⟩ (c_X12_finds l (cy := cy) (X := X) (D := D) S _ o1 h_o1 x1.toInt64 x2.toInt64 (hW)) (cwV 2 hts gX12_change_X12_finds rfl rfl rfl hd_X12_finds ⟨Nat.le_of_ble_eq_true rfl, Nat.le_of_ble_eq_true rfl⟩) (pV (va_recv hK hP (q := (RX12, TX12, 34)) (ci := 16) (q0 := k20) rfl hk20) hP hK hD hN) rfl rfl hl.1 rfl (lv_room (Nat.le_of_ble_eq_true rfl)) dX12_change_45 ⟨(Nat.zero_le _), (Nat.zero_le _)⟩) hS (fun q _ h => hFc q h) hFc (fun u t H1 locs ht hvm hw hB hz1 hk1 hS => ?_)
        have w22 := hw
        obtain ⟨hP, hD⟩ := wd_post hFc ht hB
        generalize H1 = H at hP hS ⊢
        obtain ⟨S23, rfl⟩ : ∃ z, z = u := ⟨_, rfl⟩
        have t24 : stp [(12, 15), (17, 100)] [] [] S S23 := t0.tr w22 (by decide) (fun _ q => absurd q List.not_mem_nil)
        have xe25 : ext S S23 := w22.x
        refine lv_aload_n hx hb dX12_change_48 rfl (lv_at hl 0 rfl) ?_
        refine lv_aload_n hx hb dX12_change_49 rfl (lv_at hl 0 rfl) ?_
        have F26 := ((hW.at h_o1 List.not_mem_nil).to_12 h_o1.2.1).F3
        obtain ⟨k27, gk27, hk27⟩ := wGt (cy := cy) X S23 (xe25.A h_o1).1 (xe25.A h_o1).2.1
        simp only [kE, (xe25.F h_o1 (by decide) F26.1)] at hk27
        refine va_get (D := D) (ci := 16) (v := .ref (S.f o1 3)) (C := RX12) (T := TX12) (N := 34) hx hb hts hi_X12_change_X12 hown hK hP k27 hk27 rfl 3 (by decide) (hts (.fieldLink RX12 35 "HobhouseModel" "four" "[I") (by decide +kernel)) (fun _ h9 => h9) rfl dX12_change_50 ?_
        refine lv_iload_n hx hb dX12_change_53 rfl (lv_at hl 3 rfl) ?_
        obtain ⟨k28, gk28, hk28⟩ := wGt (cy := cy) X S23 (xe25.A F26.2.1).1 (xe25.A F26.2.1).2.1
        refine va_iald hx hb hK hP k28 2 hk28 rfl (inb (m := 4) ((xe25.n F26.2.1).trans F26.2.2) (by omega) (by omega)) dX12_change_54 ?_
        have hFc := free_all hD hS hA
        obtain ⟨k29, gk29, hk29⟩ := wGt (cy := cy) X S23 (xe25.A h_o1).1 (xe25.A h_o1).2.1
        refine va_calli (va_runV (As := [.int (S23.i (S.f o1 3) x3.toNatClampNeg)]) (rest := []) ⟨hx, hb, hml, hown, hts⟩ (c_X12_answer l (cy := cy) (X := X) (D := D) S23 _ o1 (xe25.A h_o1) (S23.i (S.f o1 3) x3.toNatClampNeg) (t24.w)) (cwV 1 hts gX12_change_X12_answer rfl rfl rfl hd_X12_answer ⟨Nat.le_of_ble_eq_true rfl, Nat.le_of_ble_eq_true rfl⟩) (pV (va_recv hK hP (q := (RX12, TX12, 34)) (ci := 16) (q0 := k29) rfl hk29) hP hK hD hN) rfl rfl hl.1 rfl (lv_room (Nat.le_of_ble_eq_true rfl)) dX12_change_55 ⟨(Nat.zero_le _), (Nat.zero_le _)⟩) hS (fun q _ h => hFc q h) hFc (fun r30 u t H1 locs ht hvm hw hB hz1 hk1 hS => ?_)
        obtain ⟨c31, w32⟩ := hw
        obtain ⟨hP, hD⟩ := wd_post hFc ht hB
        generalize H1 = H at hP hS ⊢
        obtain ⟨S33, rfl⟩ : ∃ z, z = u := ⟨_, rfl⟩
        have t34 : stp [(12, 15), (17, 100)] [] [] S S33 := t24.tr w32 (by decide) (fun _ q => absurd q List.not_mem_nil)
        have xe35 : ext S23 S33 := w32.x
        refine W.widen (k := 0) (n := 0) (Nat.le_of_ble_eq_true rfl) (Nat.le_of_ble_eq_true rfl) ?_
        exact W.iret (v := r30) hx hb hr (fun t ht hW9 => ⟨⟨r30, S33, rfl, t34, wd_end hP hK hD ht hW9.alike⟩, hS.F ht⟩) hS.2.2 dX12_change_58 hlocks
      · have c19i : (S.I o1 16).toInt < 4 := nle_v rfl rfl c19
        refine lv_aload_n hx hb dX12_change_34 rfl (lv_at hl 0 rfl) ?_
        refine lv_iconst (v := 2) hx hb dX12_change_35 (by decide) ?_
        have l32_2 : (2 : Int32).toInt = 2 := rfl
        have hFc := free_all hD hS hA
        obtain ⟨k36, gk36, hk36⟩ := wGt (cy := cy) X S h_o1.1 h_o1.2.1
        refine va_calli (va_runV (As := [.int (2 : Int32)]) (rest := []) ⟨hx, hb, hml, hown, hts⟩ (c_X12_fails l (cy := cy) (X := X) (D := D) S _ o1 h_o1 (2 : Int32) (hW)) (cwV 1 hts gX12_change_X12_fails rfl rfl rfl hd_X12_fails ⟨Nat.le_of_ble_eq_true rfl, Nat.le_of_ble_eq_true rfl⟩) (pV (va_recv hK hP (q := (RX12, TX12, 34)) (ci := 16) (q0 := k36) rfl hk36) hP hK hD hN) rfl rfl hl.1 rfl (lv_room (Nat.le_of_ble_eq_true rfl)) dX12_change_36 ⟨(Nat.zero_le _), (Nat.zero_le _)⟩) hS (fun q _ h => hFc q h) hFc (fun r37 u t H1 locs ht hvm hw hB hz1 hk1 hS => ?_)
        obtain ⟨c38, w39⟩ := hw
        obtain ⟨hP, hD⟩ := wd_post hFc ht hB
        generalize H1 = H at hP hS ⊢
        obtain ⟨S40, rfl⟩ : ∃ z, z = u := ⟨_, rfl⟩
        have t41 : stp [(12, 15), (17, 100)] [] [] S S40 := t0.tr w39 (by decide) (fun _ q => absurd q List.not_mem_nil)
        have xe42 : ext S S40 := w39.x
        refine W.widen (k := 0) (n := 0) (Nat.le_of_ble_eq_true rfl) (Nat.le_of_ble_eq_true rfl) ?_
        exact W.iret (v := r37) hx hb hr (fun t ht hW9 => ⟨⟨r37, S40, rfl, t41, wd_end hP hK hD ht hW9.alike⟩, hS.F ht⟩) hS.2.2 dX12_change_39 hlocks
    · have c16i : (f_X12_in x3.toInt64 (0 : Int64) (3 : Int64)).toInt = 0 := eq_v rfl rfl c16
      refine lv_aload_n hx hb dX12_change_20 rfl (lv_at hl 0 rfl) ?_
      refine lv_iconst (v := 1) hx hb dX12_change_21 (by decide) ?_
      have l32_1 : (1 : Int32).toInt = 1 := rfl
      have hFc := free_all hD hS hA
      obtain ⟨k43, gk43, hk43⟩ := wGt (cy := cy) X S h_o1.1 h_o1.2.1
      refine va_calli (va_runV (As := [.int (1 : Int32)]) (rest := []) ⟨hx, hb, hml, hown, hts⟩ (c_X12_fails l (cy := cy) (X := X) (D := D) S _ o1 h_o1 (1 : Int32) (hW)) (cwV 1 hts gX12_change_X12_fails rfl rfl rfl hd_X12_fails ⟨Nat.le_of_ble_eq_true rfl, Nat.le_of_ble_eq_true rfl⟩) (pV (va_recv hK hP (q := (RX12, TX12, 34)) (ci := 16) (q0 := k43) rfl hk43) hP hK hD hN) rfl rfl hl.1 rfl (lv_room (Nat.le_of_ble_eq_true rfl)) dX12_change_22 ⟨(Nat.zero_le _), (Nat.zero_le _)⟩) hS (fun q _ h => hFc q h) hFc (fun r44 u t H1 locs ht hvm hw hB hz1 hk1 hS => ?_)
      obtain ⟨c45, w46⟩ := hw
      obtain ⟨hP, hD⟩ := wd_post hFc ht hB
      generalize H1 = H at hP hS ⊢
      obtain ⟨S47, rfl⟩ : ∃ z, z = u := ⟨_, rfl⟩
      have t48 : stp [(12, 15), (17, 100)] [] [] S S47 := t0.tr w46 (by decide) (fun _ q => absurd q List.not_mem_nil)
      have xe49 : ext S S47 := w46.x
      refine W.widen (k := 0) (n := 0) (Nat.le_of_ble_eq_true rfl) (Nat.le_of_ble_eq_true rfl) ?_
      exact W.iret (v := r44) hx hb hr (fun t ht hW9 => ⟨⟨r44, S47, rfl, t48, wd_end hP hK hD ht hW9.alike⟩, hS.F ht⟩) hS.2.2 dX12_change_25 hlocks
theorem hi_X12_meets_X12 : ∀ w ∈ u_ws RX12 TX12 34, w ∈ wsX12_meets := by decide +kernel
theorem hd_X12_meets : yX12_meets.cls = RX12 ∧ yX12_meets.cls ≠ "java/lang/invoke/MethodHandle" ∧ yX12_meets.cls ≠ "java/lang/invoke/VarHandle" ∧ (parseMethodDescriptor yX12_meets.desc).map (fun d => d.parameters.length) = some 3 := by decide +kernel
set_option maxHeartbeats 4000000 in
set_option maxRecDepth 100000 in
theorem c_X12_meets (l : Launch) {D : va_G} {cy : Nat → ClassId} {X : va_W} (S : wPS) (sz : Nat) (o1 : Nat) (h_o1 : isA S o1 12) (x1 : Int32) (x2 : Int32) (x3 : Int32) (hW : wtB S [])  : Met l yX12_meets wsX12_meets ({ frames := 10, cells := 0, slots := 0, locals := 250 }) (va_Pc [.ref o1, .int x1, .int x2, .int x3] (fun U => U.heap.size = sz ∧ WD D cy X (fun _ => True) S U ∧ NW U)) (va_Qi (fun r (u : wPS) => stp [(12, 15), (17, 100)] [] [] S u ∧ narrow .boolean (.int r) = .int r) (fun u t => WD D cy X (va_A (X ++ PL cy S) sz) u t) (va_A (X ++ PL cy S) sz)) 0 0 (va_A (X ++ PL cy S) sz) := by
  refine Met.ofW (cc := cX12_meets) (maxL := 4) (ret := (some .boolean)) (by decide) rfl ?_
  intro p e s m args below meth c s₁ B hml hv
  obtain ⟨rfl, hsz, ⟨hP, hK, hD0⟩, hN⟩ := hv
  have hx := B.exec
  have hb := B.bytes
  have hr := B.returns
  have hts := atoms_spec (ws := wsX12_meets) B.pre
  have hown : s.vm.findClass RX12 = some m.cls := findClass_of_methodNamed (x := yX12_meets) B.named
  have hlocks := B.notSynchronized
  subst hsz
  have hD := hD0.self (sz := s.heap.size)
  generalize hAe : va_A (X ++ PL cy S) s.heap.size = A at hD ⊢
  have hA : ∀ q : Nat, s.heap.size ≤ q → A q := fun q h => by rw [← hAe]; exact Or.inr h
  have hS : va_S A s.heap s.heap [] := va_S.rf
  have hl := lv_entry ([.ref o1, .int x1, .int x2, .int x3]) (n := 4) (Nat.le_of_ble_eq_true rfl)
  rw [lg_entry_eq]
  generalize (lg_sl ([.ref o1, .int x1, .int x2, .int x3]) ++ List.replicate (4 - (lg_sl ([.ref o1, .int x1, .int x2, .int x3])).length) Slot.unset).toArray = ls at hl ⊢
  have hl : lv_has ls 4 [(0, .ref o1), (1, .int x1), (2, .int x2), (3, .int x3)] := hl
  have t0 : stp [(12, 15), (17, 100)] [] [] S S := stp.rf hW
  refine lv_iload_n hx hb dX12_meets_0 rfl (lv_at hl 1 rfl) ?_
  refine lv_iload_n hx hb dX12_meets_1 rfl (lv_at hl 2 rfl) ?_
  have hFc := free_all hD hS hA
  refine va_calli (va_runS (As := [.int x1, .int x2]) (rest := []) ⟨hx, hb, hml, hown, hts⟩ (c_X12_isRatio l (cy := cy) (X := X) (D := D) S _ x1 x2) (cwS 2 hts gX12_meets_X12_isRatio rfl rfl rfl hd_X12_isRatio ⟨Nat.le_of_ble_eq_true rfl, Nat.le_of_ble_eq_true rfl⟩) (pS hP hK hD hN) rfl rfl hl.1 rfl (lv_room (Nat.le_of_ble_eq_true rfl)) dX12_meets_2 ⟨(Nat.zero_le _), (Nat.zero_le _)⟩) hS (fun q _ h => hFc q h) hFc (fun r1 u t H1 locs ht hvm hw hB hz1 hk1 hS => ?_)
  have c2 := hw
  obtain ⟨hP, hD⟩ := wd_post hFc ht hB
  generalize H1 = H at hP hS ⊢
  obtain rfl : f_X12_isRatio x1 x2 = r1 := c2.symm
  have i3 := ir_rng x1 x2
  refine lv_if_eq (tgt := 20) hx hb dX12_meets_5 (by decide) (fun c4 => ?_) (fun c4 => ?_)
  · have c4i : (f_X12_isRatio x1 x2).toInt = 0 := eq_v rfl rfl c4
    refine lv_aload_n hx hb dX12_meets_20 rfl (lv_at hl 0 rfl) ?_
    refine lv_iconst (v := 1) hx hb dX12_meets_21 (by decide) ?_
    have l32_1 : (1 : Int32).toInt = 1 := rfl
    have hFc := free_all hD hS hA
    obtain ⟨k5, gk5, hk5⟩ := wGt (cy := cy) X S h_o1.1 h_o1.2.1
    refine va_calli (va_runV (As := [.int (1 : Int32)]) (rest := []) ⟨hx, hb, hml, hown, hts⟩ (c_X12_refuses l (cy := cy) (X := X) (D := D) S _ o1 h_o1 (1 : Int32) (hW)) (cwV 1 hts gX12_meets_X12_refuses rfl rfl rfl hd_X12_refuses ⟨Nat.le_of_ble_eq_true rfl, Nat.le_of_ble_eq_true rfl⟩) (pV (va_recv hK hP (q := (RX12, TX12, 34)) (ci := 16) (q0 := k5) rfl hk5) hP hK hD hN) rfl rfl hl.1 rfl (lv_room (Nat.le_of_ble_eq_true rfl)) dX12_meets_22 ⟨(Nat.zero_le _), (Nat.zero_le _)⟩) hS (fun q _ h => hFc q h) hFc (fun r6 u t H1 locs ht hvm hw hB hz1 hk1 hS => ?_)
    obtain ⟨c7, w8, y9⟩ := hw
    obtain ⟨hP, hD⟩ := wd_post hFc ht hB
    generalize H1 = H at hP hS ⊢
    obtain ⟨S10, rfl⟩ : ∃ z, z = u := ⟨_, rfl⟩
    have t11 : stp [(12, 15), (17, 100)] [] [] S S10 := t0.tr w8 (by decide) (fun _ q => absurd q List.not_mem_nil)
    have xe12 : ext S S10 := w8.x
    refine W.widen (k := 0) (n := 0) (Nat.le_of_ble_eq_true rfl) (Nat.le_of_ble_eq_true rfl) ?_
    exact W.zret (v := r6) hx hb hr (y9) (fun t ht hW9 => ⟨⟨r6, S10, rfl, ⟨t11, (y9)⟩, wd_end hP hK hD ht hW9.alike⟩, hS.F ht⟩) hS.2.2 dX12_meets_25 hlocks
  · have c4i : ¬ (f_X12_isRatio x1 x2).toInt = 0 := neq_v rfl rfl c4
    refine lv_iload_n hx hb dX12_meets_8 rfl (lv_at hl 3 rfl) ?_
    refine lv_i2l hx hb dX12_meets_9 rfl ?_
    refine lv_lconst (v := 0) hx hb dX12_meets_10 (by decide) ?_
    refine lv_ldc2 (own := RX12) (v := 999999) hx hb hown (hts (.constantLong RX12 306 (999999)) (by decide +kernel)) dX12_meets_11 ?_
    have hFc := free_all hD hS hA
    refine va_calli (va_runS (As := [.long x3.toInt64, .long (0 : Int64), .long (999999 : Int64)]) (rest := []) ⟨hx, hb, hml, hown, hts⟩ (c_X12_in l (cy := cy) (X := X) (D := D) S _ x3.toInt64 (0 : Int64) (999999 : Int64)) (cwS 3 hts gX12_meets_X12_in rfl rfl rfl hd_X12_in ⟨Nat.le_of_ble_eq_true rfl, Nat.le_of_ble_eq_true rfl⟩) (pS hP hK hD hN) rfl rfl hl.1 rfl (lv_room (Nat.le_of_ble_eq_true rfl)) dX12_meets_14 ⟨(Nat.zero_le _), (Nat.zero_le _)⟩) hS (fun q _ h => hFc q h) hFc (fun r13 u t H1 locs ht hvm hw hB hz1 hk1 hS => ?_)
    have c14 := hw
    obtain ⟨hP, hD⟩ := wd_post hFc ht hB
    generalize H1 = H at hP hS ⊢
    obtain rfl : f_X12_in x3.toInt64 (0 : Int64) (999999 : Int64) = r13 := c14.symm
    have i15 := i64_i x3
    have l64_0 : (0 : Int64).toInt = 0 := rfl
    have l64_999999 : (999999 : Int64).toInt = 999999 := rfl
    have i16 := in_rng x3.toInt64 (0 : Int64) (999999 : Int64)
    refine lv_if_ne (tgt := 26) hx hb dX12_meets_17 (by decide) (fun c17 => ?_) (fun c17 => ?_)
    · have c17i : ¬ (f_X12_in x3.toInt64 (0 : Int64) (999999 : Int64)).toInt = 0 := neq_v rfl rfl c17
      refine lv_aload_n hx hb dX12_meets_26 rfl (lv_at hl 0 rfl) ?_
      obtain ⟨k18, gk18, hk18⟩ := wGt (cy := cy) X S h_o1.1 h_o1.2.1
      have i19 := ((hW.at h_o1 List.not_mem_nil).to_12 h_o1.2.1).R16
      refine va_get (D := D) (ci := 16) (v := .int (S.I o1 16)) (C := RX12) (T := TX12) (N := 34) hx hb hts hi_X12_meets_X12 hown hK hP k18 hk18 rfl 16 (by decide) (hts (.fieldLink RX12 282 "HobhouseModel" "box" "I") (by decide +kernel)) (fun _ h9 => h9) rfl dX12_meets_27 ?_
      refine lv_iconst (v := 4) hx hb dX12_meets_30 (by decide) ?_
      refine lv_icmp_ge (tgt := 42) hx hb dX12_meets_31 (by decide) (fun c20 => ?_) (fun c20 => ?_)
      · have c20i : 4 ≤ (S.I o1 16).toInt := le_v rfl rfl c20
        refine lv_aload_n hx hb dX12_meets_42 rfl (lv_at hl 0 rfl) ?_
        refine lv_aload_n hx hb dX12_meets_43 rfl (lv_at hl 0 rfl) ?_
        refine lv_iload_n hx hb dX12_meets_44 rfl (lv_at hl 1 rfl) ?_
        refine lv_i2l hx hb dX12_meets_45 rfl ?_
        refine lv_iload_n hx hb dX12_meets_46 rfl (lv_at hl 2 rfl) ?_
        refine lv_i2l hx hb dX12_meets_47 rfl ?_
        refine lv_iload_n hx hb dX12_meets_48 rfl (lv_at hl 3 rfl) ?_
        have hFc := free_all hD hS hA
        obtain ⟨k21, gk21, hk21⟩ := wGt (cy := cy) X S h_o1.1 h_o1.2.1
        refine va_calli (va_runV (As := [.long x1.toInt64, .long x2.toInt64, .int x3]) (rest := [.ref o1]) ⟨hx, hb, hml, hown, hts⟩ (c_X12_isMet l (cy := cy) (X := X) (D := D) S _ o1 h_o1 x1.toInt64 x2.toInt64 x3 (hW)) (cwV 3 hts gX12_meets_X12_isMet rfl rfl rfl hd_X12_isMet ⟨Nat.le_of_ble_eq_true rfl, Nat.le_of_ble_eq_true rfl⟩) (pV (va_recv hK hP (q := (RX12, TX12, 34)) (ci := 16) (q0 := k21) rfl hk21) hP hK hD hN) rfl rfl hl.1 rfl (lv_room (Nat.le_of_ble_eq_true rfl)) dX12_meets_49 ⟨(Nat.zero_le _), (Nat.zero_le _)⟩) hS (fun q _ h => hFc q h) hFc (fun r22 u t H1 locs ht hvm hw hB hz1 hk1 hS => ?_)
        obtain ⟨w23, y24⟩ := hw
        obtain ⟨hP, hD⟩ := wd_post hFc ht hB
        generalize H1 = H at hP hS ⊢
        obtain ⟨S25, rfl⟩ : ∃ z, z = u := ⟨_, rfl⟩
        have t26 : stp [(12, 15), (17, 100)] [] [] S S25 := t0.tr w23 (by decide) (fun _ q => absurd q List.not_mem_nil)
        have xe27 : ext S S25 := w23.x
        have hFc := free_all hD hS hA
        obtain ⟨k28, gk28, hk28⟩ := wGt (cy := cy) X S25 (xe27.A h_o1).1 (xe27.A h_o1).2.1
        refine va_calli (va_runV (As := [.int r22]) (rest := []) ⟨hx, hb, hml, hown, hts⟩ (c_X12_says l (cy := cy) (X := X) (D := D) S25 _ o1 (xe27.A h_o1) r22 (t26.w) (y24)) (cwV 1 hts gX12_meets_X12_says rfl rfl rfl hd_X12_says ⟨Nat.le_of_ble_eq_true rfl, Nat.le_of_ble_eq_true rfl⟩) (pV (va_recv hK hP (q := (RX12, TX12, 34)) (ci := 16) (q0 := k28) rfl hk28) hP hK hD hN) rfl rfl hl.1 rfl (lv_room (Nat.le_of_ble_eq_true rfl)) dX12_meets_52 ⟨(Nat.zero_le _), (Nat.zero_le _)⟩) hS (fun q _ h => hFc q h) hFc (fun r29 u t H1 locs ht hvm hw hB hz1 hk1 hS => ?_)
        obtain ⟨c30, w31, y32⟩ := hw
        obtain ⟨hP, hD⟩ := wd_post hFc ht hB
        generalize H1 = H at hP hS ⊢
        obtain ⟨S33, rfl⟩ : ∃ z, z = u := ⟨_, rfl⟩
        have t34 : stp [(12, 15), (17, 100)] [] [] S S33 := t26.tr w31 (by decide) (fun _ q => absurd q List.not_mem_nil)
        have xe35 : ext S25 S33 := w31.x
        refine W.widen (k := 0) (n := 0) (Nat.le_of_ble_eq_true rfl) (Nat.le_of_ble_eq_true rfl) ?_
        exact W.zret (v := r29) hx hb hr (y32) (fun t ht hW9 => ⟨⟨r29, S33, rfl, ⟨t34, (y32)⟩, wd_end hP hK hD ht hW9.alike⟩, hS.F ht⟩) hS.2.2 dX12_meets_55 hlocks
      · have c20i : (S.I o1 16).toInt < 4 := nle_v rfl rfl c20
        refine lv_aload_n hx hb dX12_meets_34 rfl (lv_at hl 0 rfl) ?_
        refine lv_iconst (v := 2) hx hb dX12_meets_35 (by decide) ?_
        have l32_2 : (2 : Int32).toInt = 2 := rfl
        have hFc := free_all hD hS hA
        obtain ⟨k36, gk36, hk36⟩ := wGt (cy := cy) X S h_o1.1 h_o1.2.1
        refine va_calli (va_runV (As := [.int (2 : Int32)]) (rest := []) ⟨hx, hb, hml, hown, hts⟩ (c_X12_refuses l (cy := cy) (X := X) (D := D) S _ o1 h_o1 (2 : Int32) (hW)) (cwV 1 hts gX12_meets_X12_refuses rfl rfl rfl hd_X12_refuses ⟨Nat.le_of_ble_eq_true rfl, Nat.le_of_ble_eq_true rfl⟩) (pV (va_recv hK hP (q := (RX12, TX12, 34)) (ci := 16) (q0 := k36) rfl hk36) hP hK hD hN) rfl rfl hl.1 rfl (lv_room (Nat.le_of_ble_eq_true rfl)) dX12_meets_36 ⟨(Nat.zero_le _), (Nat.zero_le _)⟩) hS (fun q _ h => hFc q h) hFc (fun r37 u t H1 locs ht hvm hw hB hz1 hk1 hS => ?_)
        obtain ⟨c38, w39, y40⟩ := hw
        obtain ⟨hP, hD⟩ := wd_post hFc ht hB
        generalize H1 = H at hP hS ⊢
        obtain ⟨S41, rfl⟩ : ∃ z, z = u := ⟨_, rfl⟩
        have t42 : stp [(12, 15), (17, 100)] [] [] S S41 := t0.tr w39 (by decide) (fun _ q => absurd q List.not_mem_nil)
        have xe43 : ext S S41 := w39.x
        refine lv_goto (tgt := 55) hx hb dX12_meets_39 (by decide) ?_
        refine W.widen (k := 0) (n := 0) (Nat.le_of_ble_eq_true rfl) (Nat.le_of_ble_eq_true rfl) ?_
        exact W.zret (v := r37) hx hb hr (y40) (fun t ht hW9 => ⟨⟨r37, S41, rfl, ⟨t42, (y40)⟩, wd_end hP hK hD ht hW9.alike⟩, hS.F ht⟩) hS.2.2 dX12_meets_55 hlocks
    · have c17i : (f_X12_in x3.toInt64 (0 : Int64) (999999 : Int64)).toInt = 0 := eq_v rfl rfl c17
      refine lv_aload_n hx hb dX12_meets_20 rfl (lv_at hl 0 rfl) ?_
      refine lv_iconst (v := 1) hx hb dX12_meets_21 (by decide) ?_
      have l32_1 : (1 : Int32).toInt = 1 := rfl
      have hFc := free_all hD hS hA
      obtain ⟨k44, gk44, hk44⟩ := wGt (cy := cy) X S h_o1.1 h_o1.2.1
      refine va_calli (va_runV (As := [.int (1 : Int32)]) (rest := []) ⟨hx, hb, hml, hown, hts⟩ (c_X12_refuses l (cy := cy) (X := X) (D := D) S _ o1 h_o1 (1 : Int32) (hW)) (cwV 1 hts gX12_meets_X12_refuses rfl rfl rfl hd_X12_refuses ⟨Nat.le_of_ble_eq_true rfl, Nat.le_of_ble_eq_true rfl⟩) (pV (va_recv hK hP (q := (RX12, TX12, 34)) (ci := 16) (q0 := k44) rfl hk44) hP hK hD hN) rfl rfl hl.1 rfl (lv_room (Nat.le_of_ble_eq_true rfl)) dX12_meets_22 ⟨(Nat.zero_le _), (Nat.zero_le _)⟩) hS (fun q _ h => hFc q h) hFc (fun r45 u t H1 locs ht hvm hw hB hz1 hk1 hS => ?_)
      obtain ⟨c46, w47, y48⟩ := hw
      obtain ⟨hP, hD⟩ := wd_post hFc ht hB
      generalize H1 = H at hP hS ⊢
      obtain ⟨S49, rfl⟩ : ∃ z, z = u := ⟨_, rfl⟩
      have t50 : stp [(12, 15), (17, 100)] [] [] S S49 := t0.tr w47 (by decide) (fun _ q => absurd q List.not_mem_nil)
      have xe51 : ext S S49 := w47.x
      refine W.widen (k := 0) (n := 0) (Nat.le_of_ble_eq_true rfl) (Nat.le_of_ble_eq_true rfl) ?_
      exact W.zret (v := r45) hx hb hr (y48) (fun t ht hW9 => ⟨⟨r45, S49, rfl, ⟨t50, (y48)⟩, wd_end hP hK hD ht hW9.alike⟩, hS.F ht⟩) hS.2.2 dX12_meets_25 hlocks
def f_X12_setMachine (S : wPS) (o1 : Nat) (x1 : Int32) (x2 : Int32) : (Int32 × wPS) := if (f_X12_in x1.toInt64 (1 : Int64) (99 : Int64)) = (0 : Int32) then l2 (f_X12_fails S o1 (1 : Int32)) (fun r7 S10 => (r7, S10)) else if (f_X12_in x2.toInt64 (2 : Int64) (200 : Int64)) = (0 : Int32) then l2 (f_X12_fails S o1 (1 : Int32)) (fun r35 S38 => (r35, S38)) else l1 (S.sI o1 17 x1) (fun S20 => l1 (S20.sI o1 18 x2) (fun S24 => l2 (f_X12_answer S24 o1 (S.I o1 17)) (fun r28 S31 => (r28, S31))))
theorem hi_X12_setMachine_X12 : ∀ w ∈ u_ws RX12 TX12 34, w ∈ wsX12_setMachine := by decide +kernel
theorem hd_X12_setMachine : yX12_setMachine.cls = RX12 ∧ yX12_setMachine.cls ≠ "java/lang/invoke/MethodHandle" ∧ yX12_setMachine.cls ≠ "java/lang/invoke/VarHandle" ∧ (parseMethodDescriptor yX12_setMachine.desc).map (fun d => d.parameters.length) = some 2 := by decide +kernel
set_option maxHeartbeats 4000000 in
set_option maxRecDepth 100000 in
theorem c_X12_setMachine (l : Launch) {D : va_G} {cy : Nat → ClassId} {X : va_W} (S : wPS) (sz : Nat) (o1 : Nat) (h_o1 : isA S o1 12) (x1 : Int32) (x2 : Int32) (hW : wtB S [])  : Met l yX12_setMachine wsX12_setMachine ({ frames := 1, cells := 0, slots := 0, locals := 25 }) (va_Pc [.ref o1, .int x1, .int x2] (fun U => U.heap.size = sz ∧ WD D cy X (fun _ => True) S U ∧ NW U)) (va_Qi (fun r (u : wPS) => (r, u) = f_X12_setMachine S o1 x1 x2 ∧ stp [(12, 15), (12, 17), (12, 18)] [] [] S u) (fun u t => WD D cy X (va_A (X ++ PL cy S) sz) u t) (va_A (X ++ PL cy S) sz)) 0 0 (va_A (X ++ PL cy S) sz) := by
  refine Met.ofW (cc := cX12_setMachine) (maxL := 4) (ret := (some .int)) (by decide) rfl ?_
  intro p e s m args below meth c s₁ B hml hv
  obtain ⟨rfl, hsz, ⟨hP, hK, hD0⟩, hN⟩ := hv
  have hx := B.exec
  have hb := B.bytes
  have hr := B.returns
  have hts := atoms_spec (ws := wsX12_setMachine) B.pre
  have hown : s.vm.findClass RX12 = some m.cls := findClass_of_methodNamed (x := yX12_setMachine) B.named
  have hlocks := B.notSynchronized
  subst hsz
  have hD := hD0.self (sz := s.heap.size)
  generalize hAe : va_A (X ++ PL cy S) s.heap.size = A at hD ⊢
  have hA : ∀ q : Nat, s.heap.size ≤ q → A q := fun q h => by rw [← hAe]; exact Or.inr h
  have hS : va_S A s.heap s.heap [] := va_S.rf
  have hl := lv_entry ([.ref o1, .int x1, .int x2]) (n := 4) (Nat.le_of_ble_eq_true rfl)
  rw [lg_entry_eq]
  generalize (lg_sl ([.ref o1, .int x1, .int x2]) ++ List.replicate (4 - (lg_sl ([.ref o1, .int x1, .int x2])).length) Slot.unset).toArray = ls at hl ⊢
  have hl : lv_has ls 4 [(0, .ref o1), (1, .int x1), (2, .int x2)] := hl
  have t0 : stp [(12, 15), (12, 17), (12, 18)] [] [] S S := stp.rf hW
  refine lv_iload_n hx hb dX12_setMachine_0 rfl (lv_at hl 1 rfl) ?_
  refine lv_i2l hx hb dX12_setMachine_1 rfl ?_
  refine lv_lconst (v := 1) hx hb dX12_setMachine_2 (by decide) ?_
  refine lv_ldc2 (own := RX12) (v := 99) hx hb hown (hts (.constantLong RX12 312 (99)) (by decide +kernel)) dX12_setMachine_3 ?_
  have hFc := free_all hD hS hA
  refine va_calli (va_runS (As := [.long x1.toInt64, .long (1 : Int64), .long (99 : Int64)]) (rest := []) ⟨hx, hb, hml, hown, hts⟩ (c_X12_in l (cy := cy) (X := X) (D := D) S _ x1.toInt64 (1 : Int64) (99 : Int64)) (cwS 3 hts gX12_setMachine_X12_in rfl rfl rfl hd_X12_in ⟨Nat.le_of_ble_eq_true rfl, Nat.le_of_ble_eq_true rfl⟩) (pS hP hK hD hN) rfl rfl hl.1 rfl (lv_room (Nat.le_of_ble_eq_true rfl)) dX12_setMachine_6 ⟨(Nat.zero_le _), (Nat.zero_le _)⟩) hS (fun q _ h => hFc q h) hFc (fun r1 u t H1 locs ht hvm hw hB hz1 hk1 hS => ?_)
  have c2 := hw
  obtain ⟨hP, hD⟩ := wd_post hFc ht hB
  generalize H1 = H at hP hS ⊢
  obtain rfl : f_X12_in x1.toInt64 (1 : Int64) (99 : Int64) = r1 := c2.symm
  have i3 := i64_i x1
  have l64_1 : (1 : Int64).toInt = 1 := rfl
  have l64_99 : (99 : Int64).toInt = 99 := rfl
  have i4 := in_rng x1.toInt64 (1 : Int64) (99 : Int64)
  refine lv_if_eq (tgt := 26) hx hb dX12_setMachine_9 (by decide) (fun c5 => ?_) (fun c5 => ?_)
  · have c5i : (f_X12_in x1.toInt64 (1 : Int64) (99 : Int64)).toInt = 0 := eq_v rfl rfl c5
    refine lv_aload_n hx hb dX12_setMachine_26 rfl (lv_at hl 0 rfl) ?_
    refine lv_iconst (v := 1) hx hb dX12_setMachine_27 (by decide) ?_
    have l32_1 : (1 : Int32).toInt = 1 := rfl
    have hFc := free_all hD hS hA
    obtain ⟨k6, gk6, hk6⟩ := wGt (cy := cy) X S h_o1.1 h_o1.2.1
    refine va_calli (va_runV (As := [.int (1 : Int32)]) (rest := []) ⟨hx, hb, hml, hown, hts⟩ (c_X12_fails l (cy := cy) (X := X) (D := D) S _ o1 h_o1 (1 : Int32) (hW)) (cwV 1 hts gX12_setMachine_X12_fails rfl rfl rfl hd_X12_fails ⟨Nat.le_of_ble_eq_true rfl, Nat.le_of_ble_eq_true rfl⟩) (pV (va_recv hK hP (q := (RX12, TX12, 34)) (ci := 16) (q0 := k6) rfl hk6) hP hK hD hN) rfl rfl hl.1 rfl (lv_room (Nat.le_of_ble_eq_true rfl)) dX12_setMachine_28 ⟨(Nat.zero_le _), (Nat.zero_le _)⟩) hS (fun q _ h => hFc q h) hFc (fun r7 u t H1 locs ht hvm hw hB hz1 hk1 hS => ?_)
    obtain ⟨c8, w9⟩ := hw
    obtain ⟨hP, hD⟩ := wd_post hFc ht hB
    generalize H1 = H at hP hS ⊢
    obtain ⟨S10, rfl⟩ : ∃ z, z = u := ⟨_, rfl⟩
    have t11 : stp [(12, 15), (12, 17), (12, 18)] [] [] S S10 := t0.tr w9 (by decide) (fun _ q => absurd q List.not_mem_nil)
    have xe12 : ext S S10 := w9.x
    refine W.widen (k := 0) (n := 0) (Nat.le_of_ble_eq_true rfl) (Nat.le_of_ble_eq_true rfl) ?_
    exact W.iret (v := r7) hx hb hr (fun t ht hW9 => ⟨⟨r7, S10, rfl, ⟨(by show (r7, S10) = f_X12_setMachine S o1 x1 x2; unfold f_X12_setMachine; rw [if_pos c5, l2_eq c8.symm]), t11⟩, wd_end hP hK hD ht hW9.alike⟩, hS.F ht⟩) hS.2.2 dX12_setMachine_31 hlocks
  · have c5i : ¬ (f_X12_in x1.toInt64 (1 : Int64) (99 : Int64)).toInt = 0 := neq_v rfl rfl c5
    refine lv_iload_n hx hb dX12_setMachine_12 rfl (lv_at hl 2 rfl) ?_
    refine lv_i2l hx hb dX12_setMachine_13 rfl ?_
    refine lv_ldc2 (own := RX12) (v := 2) hx hb hown (hts (.constantLong RX12 3 (2)) (by decide +kernel)) dX12_setMachine_14 ?_
    refine lv_ldc2 (own := RX12) (v := 200) hx hb hown (hts (.constantLong RX12 131 (200)) (by decide +kernel)) dX12_setMachine_17 ?_
    have hFc := free_all hD hS hA
    refine va_calli (va_runS (As := [.long x2.toInt64, .long (2 : Int64), .long (200 : Int64)]) (rest := []) ⟨hx, hb, hml, hown, hts⟩ (c_X12_in l (cy := cy) (X := X) (D := D) S _ x2.toInt64 (2 : Int64) (200 : Int64)) (cwS 3 hts gX12_setMachine_X12_in rfl rfl rfl hd_X12_in ⟨Nat.le_of_ble_eq_true rfl, Nat.le_of_ble_eq_true rfl⟩) (pS hP hK hD hN) rfl rfl hl.1 rfl (lv_room (Nat.le_of_ble_eq_true rfl)) dX12_setMachine_20 ⟨(Nat.zero_le _), (Nat.zero_le _)⟩) hS (fun q _ h => hFc q h) hFc (fun r13 u t H1 locs ht hvm hw hB hz1 hk1 hS => ?_)
    have c14 := hw
    obtain ⟨hP, hD⟩ := wd_post hFc ht hB
    generalize H1 = H at hP hS ⊢
    obtain rfl : f_X12_in x2.toInt64 (2 : Int64) (200 : Int64) = r13 := c14.symm
    have i15 := i64_i x2
    have l64_2 : (2 : Int64).toInt = 2 := rfl
    have l64_200 : (200 : Int64).toInt = 200 := rfl
    have i16 := in_rng x2.toInt64 (2 : Int64) (200 : Int64)
    refine lv_if_ne (tgt := 32) hx hb dX12_setMachine_23 (by decide) (fun c17 => ?_) (fun c17 => ?_)
    · have c17i : ¬ (f_X12_in x2.toInt64 (2 : Int64) (200 : Int64)).toInt = 0 := neq_v rfl rfl c17
      refine lv_aload_n hx hb dX12_setMachine_32 rfl (lv_at hl 0 rfl) ?_
      obtain ⟨k18, gk18, hk18⟩ := wGt (cy := cy) X S h_o1.1 h_o1.2.1
      refine va_get (D := D) (ci := 16) (v := .int (S.I o1 17)) (C := RX12) (T := TX12) (N := 34) hx hb hts hi_X12_setMachine_X12 hown hK hP k18 hk18 rfl 17 (by decide) (hts (.fieldLink RX12 72 "HobhouseModel" "constant" "I") (by decide +kernel)) (fun _ h9 => h9) rfl dX12_setMachine_33 ?_
      refine lv_istore_n (lv' := [(3, .int (S.I o1 17)), (0, .ref o1), (1, .int x1), (2, .int x2)]) hx hb dX12_setMachine_36 rfl hl (by decide) rfl (fun ls hl => ?_)
      refine lv_aload_n hx hb dX12_setMachine_37 rfl (lv_at hl 1 rfl) ?_
      refine lv_iload_n hx hb dX12_setMachine_38 rfl (lv_at hl 2 rfl) ?_
      obtain ⟨k19, gk19, hk19⟩ := wGt (cy := cy) X S h_o1.1 h_o1.2.1
      refine va_put (D := D) (ci := 16) (v := .int x1) (ty := .int) (C := RX12) (T := TX12) (N := 34) hx hb hts hi_X12_setMachine_X12 tyX12 tyX12_ok nmX12 hown hK hP hD hS k19 hk19 rfl 17 (by decide) (hts (.fieldLink RX12 72 "HobhouseModel" "constant" "I") (by decide +kernel)) (fun _ h9 => h9) rfl (by decide +kernel) (rfl) (rfl) (Nat.le_of_ble_eq_true rfl) dX12_setMachine_39 (fun H locs hP2 hD2 hS => ?_)
      have e9 := wPuI (cy := cy) (j := 17) (v := x1) hD h_o1.1 h_o1.2.1 gk19 rfl
      obtain ⟨S20, hS20⟩ : ∃ z, S.sI o1 17 x1 = z := ⟨_, rfl⟩
      have hP : va_P D vwCl (X ++ PL cy S20) H := by rw [← hS20, ← e9]; exact hP2
      have hD : va_D A (X ++ PL cy S20) := by rw [← hS20, ← e9]; exact hD2
      have xe21 : ext S S20 := by rw [← hS20]; exact ext.sI _ _ _ _
      have t22 : stp [(12, 15), (12, 17), (12, 18)] [] [] S S20 := by rw [← hS20]; exact t0.I 17 x1 h_o1 (by decide) (trivial) (Or.inl (by decide))
      refine lv_aload_n hx hb dX12_setMachine_42 rfl (lv_at hl 1 rfl) ?_
      refine lv_iload_n hx hb dX12_setMachine_43 rfl (lv_at hl 3 rfl) ?_
      obtain ⟨k23, gk23, hk23⟩ := wGt (cy := cy) X S20 (xe21.A h_o1).1 (xe21.A h_o1).2.1
      refine va_put (D := D) (ci := 16) (v := .int x2) (ty := .int) (C := RX12) (T := TX12) (N := 34) hx hb hts hi_X12_setMachine_X12 tyX12 tyX12_ok nmX12 hown hK hP hD hS k23 hk23 rfl 18 (by decide) (hts (.fieldLink RX12 76 "HobhouseModel" "wheelTeeth" "I") (by decide +kernel)) (fun _ h9 => h9) rfl (by decide +kernel) (rfl) (rfl) (Nat.le_of_ble_eq_true rfl) dX12_setMachine_44 (fun H locs hP2 hD2 hS => ?_)
      have e9 := wPuI (cy := cy) (j := 18) (v := x2) hD (xe21.A h_o1).1 (xe21.A h_o1).2.1 gk23 rfl
      obtain ⟨S24, hS24⟩ : ∃ z, S20.sI o1 18 x2 = z := ⟨_, rfl⟩
      have hP : va_P D vwCl (X ++ PL cy S24) H := by rw [← hS24, ← e9]; exact hP2
      have hD : va_D A (X ++ PL cy S24) := by rw [← hS24, ← e9]; exact hD2
      have xe25 : ext S20 S24 := by rw [← hS24]; exact ext.sI _ _ _ _
      have t26 : stp [(12, 15), (12, 17), (12, 18)] [] [] S S24 := by rw [← hS24]; exact t22.I 18 x2 (xe21.A h_o1) (by decide) (⟨by omega, by omega⟩) (Or.inl (by decide))
      refine lv_aload_n hx hb dX12_setMachine_47 rfl (lv_at hl 1 rfl) ?_
      refine lv_iload_n hx hb dX12_setMachine_48 rfl (lv_at hl 0 rfl) ?_
      have hFc := free_all hD hS hA
      obtain ⟨k27, gk27, hk27⟩ := wGt (cy := cy) X S24 (xe25.A (xe21.A h_o1)).1 (xe25.A (xe21.A h_o1)).2.1
      refine va_calli (va_runV (As := [.int (S.I o1 17)]) (rest := []) ⟨hx, hb, hml, hown, hts⟩ (c_X12_answer l (cy := cy) (X := X) (D := D) S24 _ o1 (xe25.A (xe21.A h_o1)) (S.I o1 17) (t26.w)) (cwV 1 hts gX12_setMachine_X12_answer rfl rfl rfl hd_X12_answer ⟨Nat.le_of_ble_eq_true rfl, Nat.le_of_ble_eq_true rfl⟩) (pV (va_recv hK hP (q := (RX12, TX12, 34)) (ci := 16) (q0 := k27) rfl hk27) hP hK hD hN) rfl rfl hl.1 rfl (lv_room (Nat.le_of_ble_eq_true rfl)) dX12_setMachine_49 ⟨(Nat.zero_le _), (Nat.zero_le _)⟩) hS (fun q _ h => hFc q h) hFc (fun r28 u t H1 locs ht hvm hw hB hz1 hk1 hS => ?_)
      obtain ⟨c29, w30⟩ := hw
      obtain ⟨hP, hD⟩ := wd_post hFc ht hB
      generalize H1 = H at hP hS ⊢
      obtain ⟨S31, rfl⟩ : ∃ z, z = u := ⟨_, rfl⟩
      have t32 : stp [(12, 15), (12, 17), (12, 18)] [] [] S S31 := t26.tr w30 (by decide) (fun _ q => absurd q List.not_mem_nil)
      have xe33 : ext S24 S31 := w30.x
      refine W.widen (k := 0) (n := 0) (Nat.le_of_ble_eq_true rfl) (Nat.le_of_ble_eq_true rfl) ?_
      exact W.iret (v := r28) hx hb hr (fun t ht hW9 => ⟨⟨r28, S31, rfl, ⟨(by show (r28, S31) = f_X12_setMachine S o1 x1 x2; unfold f_X12_setMachine; rw [if_neg c5, if_neg c17, l1_eq hS20, l1_eq hS24, l2_eq c29.symm]), t32⟩, wd_end hP hK hD ht hW9.alike⟩, hS.F ht⟩) hS.2.2 dX12_setMachine_52 hlocks
    · have c17i : (f_X12_in x2.toInt64 (2 : Int64) (200 : Int64)).toInt = 0 := eq_v rfl rfl c17
      refine lv_aload_n hx hb dX12_setMachine_26 rfl (lv_at hl 0 rfl) ?_
      refine lv_iconst (v := 1) hx hb dX12_setMachine_27 (by decide) ?_
      have l32_1 : (1 : Int32).toInt = 1 := rfl
      have hFc := free_all hD hS hA
      obtain ⟨k34, gk34, hk34⟩ := wGt (cy := cy) X S h_o1.1 h_o1.2.1
      refine va_calli (va_runV (As := [.int (1 : Int32)]) (rest := []) ⟨hx, hb, hml, hown, hts⟩ (c_X12_fails l (cy := cy) (X := X) (D := D) S _ o1 h_o1 (1 : Int32) (hW)) (cwV 1 hts gX12_setMachine_X12_fails rfl rfl rfl hd_X12_fails ⟨Nat.le_of_ble_eq_true rfl, Nat.le_of_ble_eq_true rfl⟩) (pV (va_recv hK hP (q := (RX12, TX12, 34)) (ci := 16) (q0 := k34) rfl hk34) hP hK hD hN) rfl rfl hl.1 rfl (lv_room (Nat.le_of_ble_eq_true rfl)) dX12_setMachine_28 ⟨(Nat.zero_le _), (Nat.zero_le _)⟩) hS (fun q _ h => hFc q h) hFc (fun r35 u t H1 locs ht hvm hw hB hz1 hk1 hS => ?_)
      obtain ⟨c36, w37⟩ := hw
      obtain ⟨hP, hD⟩ := wd_post hFc ht hB
      generalize H1 = H at hP hS ⊢
      obtain ⟨S38, rfl⟩ : ∃ z, z = u := ⟨_, rfl⟩
      have t39 : stp [(12, 15), (12, 17), (12, 18)] [] [] S S38 := t0.tr w37 (by decide) (fun _ q => absurd q List.not_mem_nil)
      have xe40 : ext S S38 := w37.x
      refine W.widen (k := 0) (n := 0) (Nat.le_of_ble_eq_true rfl) (Nat.le_of_ble_eq_true rfl) ?_
      exact W.iret (v := r35) hx hb hr (fun t ht hW9 => ⟨⟨r35, S38, rfl, ⟨(by show (r35, S38) = f_X12_setMachine S o1 x1 x2; unfold f_X12_setMachine; rw [if_neg c5, if_pos c17, l2_eq c36.symm]), t39⟩, wd_end hP hK hD ht hW9.alike⟩, hS.F ht⟩) hS.2.2 dX12_setMachine_31 hlocks
theorem hi_X12_indexes_X10 : ∀ w ∈ u_ws RX10 TX10 23, w ∈ wsX12_indexes := by decide +kernel
theorem hi_X12_indexes_X11 : ∀ w ∈ u_ws RX11 TX11 7, w ∈ wsX12_indexes := by decide +kernel
theorem hi_X12_indexes_X12 : ∀ w ∈ u_ws RX12 TX12 34, w ∈ wsX12_indexes := by decide +kernel
theorem hd_X12_indexes : yX12_indexes.cls = RX12 ∧ yX12_indexes.cls ≠ "java/lang/invoke/MethodHandle" ∧ yX12_indexes.cls ≠ "java/lang/invoke/VarHandle" ∧ (parseMethodDescriptor yX12_indexes.desc).map (fun d => d.parameters.length) = some 3 := by decide +kernel
set_option maxHeartbeats 4000000 in
set_option maxRecDepth 100000 in
theorem c_X12_indexes (l : Launch) {D : va_G} {cy : Nat → ClassId} {X : va_W} (S : wPS) (sz : Nat) (o1 : Nat) (h_o1 : isA S o1 12) (x1 : Int32) (x2 : Int32) (x3 : Int32) (hW : wtB S [])  : Met l yX12_indexes wsX12_indexes ({ frames := 10, cells := 0, slots := 0, locals := 250 }) (va_Pc [.ref o1, .int x1, .int x2, .int x3] (fun U => U.heap.size = sz ∧ WD D cy X (fun _ => True) S U ∧ NW U)) (va_Qi (fun r (u : wPS) => stp [(12, 15), (17, 100)] [] [] S u ∧ narrow .boolean (.int r) = .int r) (fun u t => WD D cy X (va_A (X ++ PL cy S) sz) u t) (va_A (X ++ PL cy S) sz)) 0 0 (va_A (X ++ PL cy S) sz) := by
  refine Met.ofW (cc := cX12_indexes) (maxL := 4) (ret := (some .boolean)) (by decide) rfl ?_
  intro p e s m args below meth c s₁ B hml hv
  obtain ⟨rfl, hsz, ⟨hP, hK, hD0⟩, hN⟩ := hv
  have hx := B.exec
  have hb := B.bytes
  have hr := B.returns
  have hts := atoms_spec (ws := wsX12_indexes) B.pre
  have hown : s.vm.findClass RX12 = some m.cls := findClass_of_methodNamed (x := yX12_indexes) B.named
  have hlocks := B.notSynchronized
  subst hsz
  have hD := hD0.self (sz := s.heap.size)
  generalize hAe : va_A (X ++ PL cy S) s.heap.size = A at hD ⊢
  have hA : ∀ q : Nat, s.heap.size ≤ q → A q := fun q h => by rw [← hAe]; exact Or.inr h
  have hS : va_S A s.heap s.heap [] := va_S.rf
  have hl := lv_entry ([.ref o1, .int x1, .int x2, .int x3]) (n := 4) (Nat.le_of_ble_eq_true rfl)
  rw [lg_entry_eq]
  generalize (lg_sl ([.ref o1, .int x1, .int x2, .int x3]) ++ List.replicate (4 - (lg_sl ([.ref o1, .int x1, .int x2, .int x3])).length) Slot.unset).toArray = ls at hl ⊢
  have hl : lv_has ls 4 [(0, .ref o1), (1, .int x1), (2, .int x2), (3, .int x3)] := hl
  have t0 : stp [(12, 15), (17, 100)] [] [] S S := stp.rf hW
  have F1 := ((hW.at h_o1 List.not_mem_nil).to_12 h_o1.2.1).F0
  have F2 := ((hW.at h_o1 List.not_mem_nil).to_12 h_o1.2.1).F1
  refine lv_aload_n hx hb dX12_indexes_0 rfl (lv_at hl 0 rfl) ?_
  refine lv_iload_n hx hb dX12_indexes_1 rfl (lv_at hl 1 rfl) ?_
  have hFc := free_all hD hS hA
  obtain ⟨k3, gk3, hk3⟩ := wGt (cy := cy) X S h_o1.1 h_o1.2.1
  refine va_calli (va_runV (As := [.int x1]) (rest := []) ⟨hx, hb, hml, hown, hts⟩ (c_X12_isGear l (cy := cy) (X := X) (D := D) S _ o1 h_o1 x1 (hW)) (cwV 1 hts gX12_indexes_X12_isGear rfl rfl rfl hd_X12_isGear ⟨Nat.le_of_ble_eq_true rfl, Nat.le_of_ble_eq_true rfl⟩) (pV (va_recv hK hP (q := (RX12, TX12, 34)) (ci := 16) (q0 := k3) rfl hk3) hP hK hD hN) rfl rfl hl.1 rfl (lv_room (Nat.le_of_ble_eq_true rfl)) dX12_indexes_2 ⟨(Nat.zero_le _), (Nat.zero_le _)⟩) hS (fun q _ h => hFc q h) hFc (fun r4 u t H1 locs ht hvm hw hB hz1 hk1 hS => ?_)
  have c5 := hw
  obtain ⟨hP, hD⟩ := wd_post hFc ht hB
  generalize H1 = H at hP hS ⊢
  obtain rfl : f_X12_isGear S o1 x1 = r4 := c5.symm
  have i6 : (f_X12_isGear S o1 x1).toInt = 0 ∨ (0 ≤ x1.toInt ∧ x1.toInt < (S.I (S.f o1 0) 2).toInt) := by have h9 := ig_rng x1 ((hW.at h_o1 List.not_mem_nil).to_12 h_o1.2.1) hW; rw [f_of F1.1] at h9; exact h9
  refine lv_if_eq (tgt := 16) hx hb dX12_indexes_5 (by decide) (fun c7 => ?_) (fun c7 => ?_)
  · have c7i : (f_X12_isGear S o1 x1).toInt = 0 := eq_v rfl rfl c7
    refine lv_aload_n hx hb dX12_indexes_16 rfl (lv_at hl 0 rfl) ?_
    refine lv_iconst (v := 1) hx hb dX12_indexes_17 (by decide) ?_
    have l32_1 : (1 : Int32).toInt = 1 := rfl
    have hFc := free_all hD hS hA
    obtain ⟨k8, gk8, hk8⟩ := wGt (cy := cy) X S h_o1.1 h_o1.2.1
    refine va_calli (va_runV (As := [.int (1 : Int32)]) (rest := []) ⟨hx, hb, hml, hown, hts⟩ (c_X12_refuses l (cy := cy) (X := X) (D := D) S _ o1 h_o1 (1 : Int32) (hW)) (cwV 1 hts gX12_indexes_X12_refuses rfl rfl rfl hd_X12_refuses ⟨Nat.le_of_ble_eq_true rfl, Nat.le_of_ble_eq_true rfl⟩) (pV (va_recv hK hP (q := (RX12, TX12, 34)) (ci := 16) (q0 := k8) rfl hk8) hP hK hD hN) rfl rfl hl.1 rfl (lv_room (Nat.le_of_ble_eq_true rfl)) dX12_indexes_18 ⟨(Nat.zero_le _), (Nat.zero_le _)⟩) hS (fun q _ h => hFc q h) hFc (fun r9 u t H1 locs ht hvm hw hB hz1 hk1 hS => ?_)
    obtain ⟨c10, w11, y12⟩ := hw
    obtain ⟨hP, hD⟩ := wd_post hFc ht hB
    generalize H1 = H at hP hS ⊢
    obtain ⟨S13, rfl⟩ : ∃ z, z = u := ⟨_, rfl⟩
    have t14 : stp [(12, 15), (17, 100)] [] [] S S13 := t0.tr w11 (by decide) (fun _ q => absurd q List.not_mem_nil)
    have xe15 : ext S S13 := w11.x
    refine W.widen (k := 0) (n := 0) (Nat.le_of_ble_eq_true rfl) (Nat.le_of_ble_eq_true rfl) ?_
    exact W.zret (v := r9) hx hb hr (y12) (fun t ht hW9 => ⟨⟨r9, S13, rfl, ⟨t14, (y12)⟩, wd_end hP hK hD ht hW9.alike⟩, hS.F ht⟩) hS.2.2 dX12_indexes_21 hlocks
  · have c7i : ¬ (f_X12_isGear S o1 x1).toInt = 0 := neq_v rfl rfl c7
    refine lv_aload_n hx hb dX12_indexes_8 rfl (lv_at hl 0 rfl) ?_
    refine lv_iload_n hx hb dX12_indexes_9 rfl (lv_at hl 2 rfl) ?_
    have hFc := free_all hD hS hA
    obtain ⟨k16, gk16, hk16⟩ := wGt (cy := cy) X S h_o1.1 h_o1.2.1
    refine va_calli (va_runV (As := [.int x2]) (rest := []) ⟨hx, hb, hml, hown, hts⟩ (c_X12_isHob l (cy := cy) (X := X) (D := D) S _ o1 h_o1 x2 (hW)) (cwV 1 hts gX12_indexes_X12_isHob rfl rfl rfl hd_X12_isHob ⟨Nat.le_of_ble_eq_true rfl, Nat.le_of_ble_eq_true rfl⟩) (pV (va_recv hK hP (q := (RX12, TX12, 34)) (ci := 16) (q0 := k16) rfl hk16) hP hK hD hN) rfl rfl hl.1 rfl (lv_room (Nat.le_of_ble_eq_true rfl)) dX12_indexes_10 ⟨(Nat.zero_le _), (Nat.zero_le _)⟩) hS (fun q _ h => hFc q h) hFc (fun r17 u t H1 locs ht hvm hw hB hz1 hk1 hS => ?_)
    have c18 := hw
    obtain ⟨hP, hD⟩ := wd_post hFc ht hB
    generalize H1 = H at hP hS ⊢
    obtain rfl : f_X12_isHob S o1 x2 = r17 := c18.symm
    have i19 : (f_X12_isHob S o1 x2).toInt = 0 ∨ (0 ≤ x2.toInt ∧ x2.toInt < (S.I (S.f o1 1) 2).toInt) := by have h9 := ih_rng x2 ((hW.at h_o1 List.not_mem_nil).to_12 h_o1.2.1) hW; rw [f_of F2.1] at h9; exact h9
    refine lv_if_ne (tgt := 22) hx hb dX12_indexes_13 (by decide) (fun c20 => ?_) (fun c20 => ?_)
    · have c20i : ¬ (f_X12_isHob S o1 x2).toInt = 0 := neq_v rfl rfl c20
      refine lv_iload_n hx hb dX12_indexes_22 rfl (lv_at hl 3 rfl) ?_
      refine lv_i2l hx hb dX12_indexes_23 rfl ?_
      refine lv_lconst (v := 0) hx hb dX12_indexes_24 (by decide) ?_
      refine lv_ldc2 (own := RX12) (v := 999999) hx hb hown (hts (.constantLong RX12 306 (999999)) (by decide +kernel)) dX12_indexes_25 ?_
      have hFc := free_all hD hS hA
      refine va_calli (va_runS (As := [.long x3.toInt64, .long (0 : Int64), .long (999999 : Int64)]) (rest := []) ⟨hx, hb, hml, hown, hts⟩ (c_X12_in l (cy := cy) (X := X) (D := D) S _ x3.toInt64 (0 : Int64) (999999 : Int64)) (cwS 3 hts gX12_indexes_X12_in rfl rfl rfl hd_X12_in ⟨Nat.le_of_ble_eq_true rfl, Nat.le_of_ble_eq_true rfl⟩) (pS hP hK hD hN) rfl rfl hl.1 rfl (lv_room (Nat.le_of_ble_eq_true rfl)) dX12_indexes_28 ⟨(Nat.zero_le _), (Nat.zero_le _)⟩) hS (fun q _ h => hFc q h) hFc (fun r21 u t H1 locs ht hvm hw hB hz1 hk1 hS => ?_)
      have c22 := hw
      obtain ⟨hP, hD⟩ := wd_post hFc ht hB
      generalize H1 = H at hP hS ⊢
      obtain rfl : f_X12_in x3.toInt64 (0 : Int64) (999999 : Int64) = r21 := c22.symm
      have i23 := i64_i x3
      have l64_0 : (0 : Int64).toInt = 0 := rfl
      have l64_999999 : (999999 : Int64).toInt = 999999 := rfl
      have i24 := in_rng x3.toInt64 (0 : Int64) (999999 : Int64)
      refine lv_if_ne (tgt := 40) hx hb dX12_indexes_31 (by decide) (fun c25 => ?_) (fun c25 => ?_)
      · have c25i : ¬ (f_X12_in x3.toInt64 (0 : Int64) (999999 : Int64)).toInt = 0 := neq_v rfl rfl c25
        refine lv_aload_n hx hb dX12_indexes_40 rfl (lv_at hl 0 rfl) ?_
        obtain ⟨k26, gk26, hk26⟩ := wGt (cy := cy) X S h_o1.1 h_o1.2.1
        have i27 := ((hW.at h_o1 List.not_mem_nil).to_12 h_o1.2.1).R16
        refine va_get (D := D) (ci := 16) (v := .int (S.I o1 16)) (C := RX12) (T := TX12) (N := 34) hx hb hts hi_X12_indexes_X12 hown hK hP k26 hk26 rfl 16 (by decide) (hts (.fieldLink RX12 282 "HobhouseModel" "box" "I") (by decide +kernel)) (fun _ h9 => h9) rfl dX12_indexes_41 ?_
        refine lv_iconst (v := 4) hx hb dX12_indexes_44 (by decide) ?_
        refine lv_icmp_ge (tgt := 56) hx hb dX12_indexes_45 (by decide) (fun c28 => ?_) (fun c28 => ?_)
        · have c28i : 4 ≤ (S.I o1 16).toInt := le_v rfl rfl c28
          refine lv_aload_n hx hb dX12_indexes_56 rfl (lv_at hl 0 rfl) ?_
          refine lv_aload_n hx hb dX12_indexes_57 rfl (lv_at hl 0 rfl) ?_
          refine lv_aload_n hx hb dX12_indexes_58 rfl (lv_at hl 0 rfl) ?_
          obtain ⟨k29, gk29, hk29⟩ := wGt (cy := cy) X S h_o1.1 h_o1.2.1
          refine va_get (D := D) (ci := 16) (v := .int (S.I o1 17)) (C := RX12) (T := TX12) (N := 34) hx hb hts hi_X12_indexes_X12 hown hK hP k29 hk29 rfl 17 (by decide) (hts (.fieldLink RX12 72 "HobhouseModel" "constant" "I") (by decide +kernel)) (fun _ h9 => h9) rfl dX12_indexes_59 ?_
          refine lv_i2l hx hb dX12_indexes_62 rfl ?_
          refine lv_aload_n hx hb dX12_indexes_63 rfl (lv_at hl 0 rfl) ?_
          obtain ⟨k30, gk30, hk30⟩ := wGt (cy := cy) X S h_o1.1 h_o1.2.1
          simp only [kE, F2.1] at hk30
          refine va_get (D := D) (ci := 16) (v := .ref (S.f o1 1)) (C := RX12) (T := TX12) (N := 34) hx hb hts hi_X12_indexes_X12 hown hK hP k30 hk30 rfl 1 (by decide) (hts (.fieldLink RX12 28 "HobhouseModel" "hobs" "Ljava/util/ArrayList;") (by decide +kernel)) (fun _ h9 => h9) rfl dX12_indexes_64 ?_
          refine lv_iload_n hx hb dX12_indexes_67 rfl (lv_at hl 2 rfl) ?_
          have hFc := free_all hD hS hA
          obtain ⟨k31, gk31, hk31⟩ := wGt (cy := cy) X S F2.2.1.1 F2.2.1.2.1
          refine va_callq (va_runV (As := [.int x2]) (rest := [.long ((S.I o1 17).toInt64), .ref o1, .ref o1]) ⟨hx, hb, hml, hown, hts⟩ (c_Jx4a65c_get_915e3 l (cy := cy) (X := X) (D := D) S _ (S.f o1 1) F2.2.1 x2 (hW) (by omega)) (cwV 1 hts gX12_indexes_Jx4a65c_get_915e3 rfl rfl rfl hd_Jx4a65c_get_915e3 ⟨Nat.le_of_ble_eq_true rfl, Nat.le_of_ble_eq_true rfl⟩) (pV (va_recv hK hP (q := (RJx4a65c, TJx4a65c, 3)) (ci := 3) (q0 := k31) rfl hk31) hP hK hD hN) rfl rfl hl.1 rfl (lv_room (Nat.le_of_ble_eq_true rfl)) dX12_indexes_68 ⟨(Nat.zero_le _), (Nat.zero_le _)⟩) hS (fun q _ h => hFc q h) hFc (fun r32 u t H1 locs ht hvm hw hB hz1 hk1 hS => ?_)
          obtain ⟨r32, rfl, c33, o34⟩ := hw
          obtain ⟨hP, hD⟩ := wd_post hFc ht hB
          generalize H1 = H at hP hS ⊢
          have o34k : isA S r32 11 := by rw [← show _ = 11 from F2.2.2]; exact o34
          refine W.eq (g2 := F0 m 71 ls [.ref r32, .long ((S.I o1 17).toInt64), .ref o1, .ref o1]) rfl ?_
          obtain ⟨k35, gk35, hk35⟩ := wGt (cy := cy) X S o34k.1 o34k.2.1
          refine va_castS (nm := "HobhouseModel$Hob") hx hb hown (hts (.classLink RX12 322 "HobhouseModel$Hob") (by decide +kernel)) (hK.1 15 _ rfl).2 (va_recv hK hP (ci := 15) (q0 := k35) rfl hk35) dX12_indexes_71 ?_
          obtain ⟨k36, gk36, hk36⟩ := wGt (cy := cy) X S o34k.1 o34k.2.1
          have i37 := ((hW.at o34k List.not_mem_nil).to_11 o34k.2.1).R1
          refine va_getN (D := D) (ci := 15) (v := .int (S.I r32 1)) (C := RX11) (T := TX11) (N := 7) hx hb hts hi_X12_indexes_X11 hown hK hP k36 hk36 rfl 1 (by decide) (va_Nw.use rfl (hN (.fieldLinkNest RX12 329 "HobhouseModel$Hob" "starts" "I" "HobhouseModel") (by decide +kernel))) (fun _ h9 => h9) rfl dX12_indexes_74 ?_
          refine lv_i2l hx hb dX12_indexes_77 rfl ?_
          refine lv_lmul hx hb dX12_indexes_78 ?_
          refine lv_aload_n hx hb dX12_indexes_79 rfl (lv_at hl 0 rfl) ?_
          refine lv_iload_n hx hb dX12_indexes_80 rfl (lv_at hl 1 rfl) ?_
          have hFc := free_all hD hS hA
          obtain ⟨k38, gk38, hk38⟩ := wGt (cy := cy) X S h_o1.1 h_o1.2.1
          refine va_callq (va_runV (As := [.int x1]) (rest := [.long (((S.I o1 17).toInt64) * ((S.I r32 1).toInt64)), .ref o1, .ref o1]) ⟨hx, hb, hml, hown, hts⟩ (c_X12_gearAt l (cy := cy) (X := X) (D := D) S _ o1 h_o1 x1 (hW) (by rw [f_of F1.1]; omega)) (cwV 1 hts gX12_indexes_X12_gearAt rfl rfl rfl hd_X12_gearAt ⟨Nat.le_of_ble_eq_true rfl, Nat.le_of_ble_eq_true rfl⟩) (pV (va_recv hK hP (q := (RX12, TX12, 34)) (ci := 16) (q0 := k38) rfl hk38) hP hK hD hN) rfl rfl hl.1 rfl (lv_room (Nat.le_of_ble_eq_true rfl)) dX12_indexes_81 ⟨(Nat.zero_le _), (Nat.zero_le _)⟩) hS (fun q _ h => hFc q h) hFc (fun r39 u t H1 locs ht hvm hw hB hz1 hk1 hS => ?_)
          obtain ⟨r39, rfl, c40, o41⟩ := hw
          obtain ⟨hP, hD⟩ := wd_post hFc ht hB
          generalize H1 = H at hP hS ⊢
          refine W.eq (g2 := F0 m 84 ls [.ref r39, .long (((S.I o1 17).toInt64) * ((S.I r32 1).toInt64)), .ref o1, .ref o1]) rfl ?_
          obtain ⟨k42, gk42, hk42⟩ := wGt (cy := cy) X S o41.1 o41.2.1
          have i43 := ((hW.at o41 List.not_mem_nil).to_10 o41.2.1).R1
          refine va_getN (D := D) (ci := 14) (v := .int (S.I r39 1)) (C := RX10) (T := TX10) (N := 23) hx hb hts hi_X12_indexes_X10 hown hK hP k42 hk42 rfl 1 (by decide) (va_Nw.use rfl (hN (.fieldLinkNest RX12 332 "HobhouseModel$Gear" "teeth" "I" "HobhouseModel") (by decide +kernel))) (fun _ h9 => h9) rfl dX12_indexes_84 ?_
          refine lv_i2l hx hb dX12_indexes_87 rfl ?_
          refine lv_iload_n hx hb dX12_indexes_88 rfl (lv_at hl 3 rfl) ?_
          have hFc := free_all hD hS hA
          obtain ⟨k44, gk44, hk44⟩ := wGt (cy := cy) X S h_o1.1 h_o1.2.1
          refine va_calli (va_runV (As := [.long (((S.I o1 17).toInt64) * ((S.I r32 1).toInt64)), .long ((S.I r39 1).toInt64), .int x3]) (rest := [.ref o1]) ⟨hx, hb, hml, hown, hts⟩ (c_X12_isMet l (cy := cy) (X := X) (D := D) S _ o1 h_o1 (((S.I o1 17).toInt64) * ((S.I r32 1).toInt64)) ((S.I r39 1).toInt64) x3 (hW)) (cwV 3 hts gX12_indexes_X12_isMet rfl rfl rfl hd_X12_isMet ⟨Nat.le_of_ble_eq_true rfl, Nat.le_of_ble_eq_true rfl⟩) (pV (va_recv hK hP (q := (RX12, TX12, 34)) (ci := 16) (q0 := k44) rfl hk44) hP hK hD hN) rfl rfl hl.1 rfl (lv_room (Nat.le_of_ble_eq_true rfl)) dX12_indexes_89 ⟨(Nat.zero_le _), (Nat.zero_le _)⟩) hS (fun q _ h => hFc q h) hFc (fun r45 u t H1 locs ht hvm hw hB hz1 hk1 hS => ?_)
          obtain ⟨w46, y47⟩ := hw
          obtain ⟨hP, hD⟩ := wd_post hFc ht hB
          generalize H1 = H at hP hS ⊢
          obtain ⟨S48, rfl⟩ : ∃ z, z = u := ⟨_, rfl⟩
          have t49 : stp [(12, 15), (17, 100)] [] [] S S48 := t0.tr w46 (by decide) (fun _ q => absurd q List.not_mem_nil)
          have xe50 : ext S S48 := w46.x
          have hFc := free_all hD hS hA
          obtain ⟨k51, gk51, hk51⟩ := wGt (cy := cy) X S48 (xe50.A h_o1).1 (xe50.A h_o1).2.1
          refine va_calli (va_runV (As := [.int r45]) (rest := []) ⟨hx, hb, hml, hown, hts⟩ (c_X12_says l (cy := cy) (X := X) (D := D) S48 _ o1 (xe50.A h_o1) r45 (t49.w) (y47)) (cwV 1 hts gX12_indexes_X12_says rfl rfl rfl hd_X12_says ⟨Nat.le_of_ble_eq_true rfl, Nat.le_of_ble_eq_true rfl⟩) (pV (va_recv hK hP (q := (RX12, TX12, 34)) (ci := 16) (q0 := k51) rfl hk51) hP hK hD hN) rfl rfl hl.1 rfl (lv_room (Nat.le_of_ble_eq_true rfl)) dX12_indexes_92 ⟨(Nat.zero_le _), (Nat.zero_le _)⟩) hS (fun q _ h => hFc q h) hFc (fun r52 u t H1 locs ht hvm hw hB hz1 hk1 hS => ?_)
          obtain ⟨c53, w54, y55⟩ := hw
          obtain ⟨hP, hD⟩ := wd_post hFc ht hB
          generalize H1 = H at hP hS ⊢
          obtain ⟨S56, rfl⟩ : ∃ z, z = u := ⟨_, rfl⟩
          have t57 : stp [(12, 15), (17, 100)] [] [] S S56 := t49.tr w54 (by decide) (fun _ q => absurd q List.not_mem_nil)
          have xe58 : ext S48 S56 := w54.x
          refine W.widen (k := 0) (n := 0) (Nat.le_of_ble_eq_true rfl) (Nat.le_of_ble_eq_true rfl) ?_
          exact W.zret (v := r52) hx hb hr (y55) (fun t ht hW9 => ⟨⟨r52, S56, rfl, ⟨t57, (y55)⟩, wd_end hP hK hD ht hW9.alike⟩, hS.F ht⟩) hS.2.2 dX12_indexes_95 hlocks
        · have c28i : (S.I o1 16).toInt < 4 := nle_v rfl rfl c28
          refine lv_aload_n hx hb dX12_indexes_48 rfl (lv_at hl 0 rfl) ?_
          refine lv_iconst (v := 3) hx hb dX12_indexes_49 (by decide) ?_
          have l32_3 : (3 : Int32).toInt = 3 := rfl
          have hFc := free_all hD hS hA
          obtain ⟨k59, gk59, hk59⟩ := wGt (cy := cy) X S h_o1.1 h_o1.2.1
          refine va_calli (va_runV (As := [.int (3 : Int32)]) (rest := []) ⟨hx, hb, hml, hown, hts⟩ (c_X12_refuses l (cy := cy) (X := X) (D := D) S _ o1 h_o1 (3 : Int32) (hW)) (cwV 1 hts gX12_indexes_X12_refuses rfl rfl rfl hd_X12_refuses ⟨Nat.le_of_ble_eq_true rfl, Nat.le_of_ble_eq_true rfl⟩) (pV (va_recv hK hP (q := (RX12, TX12, 34)) (ci := 16) (q0 := k59) rfl hk59) hP hK hD hN) rfl rfl hl.1 rfl (lv_room (Nat.le_of_ble_eq_true rfl)) dX12_indexes_50 ⟨(Nat.zero_le _), (Nat.zero_le _)⟩) hS (fun q _ h => hFc q h) hFc (fun r60 u t H1 locs ht hvm hw hB hz1 hk1 hS => ?_)
          obtain ⟨c61, w62, y63⟩ := hw
          obtain ⟨hP, hD⟩ := wd_post hFc ht hB
          generalize H1 = H at hP hS ⊢
          obtain ⟨S64, rfl⟩ : ∃ z, z = u := ⟨_, rfl⟩
          have t65 : stp [(12, 15), (17, 100)] [] [] S S64 := t0.tr w62 (by decide) (fun _ q => absurd q List.not_mem_nil)
          have xe66 : ext S S64 := w62.x
          refine lv_goto (tgt := 95) hx hb dX12_indexes_53 (by decide) ?_
          refine W.widen (k := 0) (n := 0) (Nat.le_of_ble_eq_true rfl) (Nat.le_of_ble_eq_true rfl) ?_
          exact W.zret (v := r60) hx hb hr (y63) (fun t ht hW9 => ⟨⟨r60, S64, rfl, ⟨t65, (y63)⟩, wd_end hP hK hD ht hW9.alike⟩, hS.F ht⟩) hS.2.2 dX12_indexes_95 hlocks
      · have c25i : (f_X12_in x3.toInt64 (0 : Int64) (999999 : Int64)).toInt = 0 := eq_v rfl rfl c25
        refine lv_aload_n hx hb dX12_indexes_34 rfl (lv_at hl 0 rfl) ?_
        refine lv_iconst (v := 2) hx hb dX12_indexes_35 (by decide) ?_
        have l32_2 : (2 : Int32).toInt = 2 := rfl
        have hFc := free_all hD hS hA
        obtain ⟨k67, gk67, hk67⟩ := wGt (cy := cy) X S h_o1.1 h_o1.2.1
        refine va_calli (va_runV (As := [.int (2 : Int32)]) (rest := []) ⟨hx, hb, hml, hown, hts⟩ (c_X12_refuses l (cy := cy) (X := X) (D := D) S _ o1 h_o1 (2 : Int32) (hW)) (cwV 1 hts gX12_indexes_X12_refuses rfl rfl rfl hd_X12_refuses ⟨Nat.le_of_ble_eq_true rfl, Nat.le_of_ble_eq_true rfl⟩) (pV (va_recv hK hP (q := (RX12, TX12, 34)) (ci := 16) (q0 := k67) rfl hk67) hP hK hD hN) rfl rfl hl.1 rfl (lv_room (Nat.le_of_ble_eq_true rfl)) dX12_indexes_36 ⟨(Nat.zero_le _), (Nat.zero_le _)⟩) hS (fun q _ h => hFc q h) hFc (fun r68 u t H1 locs ht hvm hw hB hz1 hk1 hS => ?_)
        obtain ⟨c69, w70, y71⟩ := hw
        obtain ⟨hP, hD⟩ := wd_post hFc ht hB
        generalize H1 = H at hP hS ⊢
        obtain ⟨S72, rfl⟩ : ∃ z, z = u := ⟨_, rfl⟩
        have t73 : stp [(12, 15), (17, 100)] [] [] S S72 := t0.tr w70 (by decide) (fun _ q => absurd q List.not_mem_nil)
        have xe74 : ext S S72 := w70.x
        refine W.widen (k := 0) (n := 0) (Nat.le_of_ble_eq_true rfl) (Nat.le_of_ble_eq_true rfl) ?_
        exact W.zret (v := r68) hx hb hr (y71) (fun t ht hW9 => ⟨⟨r68, S72, rfl, ⟨t73, (y71)⟩, wd_end hP hK hD ht hW9.alike⟩, hS.F ht⟩) hS.2.2 dX12_indexes_39 hlocks
    · have c20i : (f_X12_isHob S o1 x2).toInt = 0 := eq_v rfl rfl c20
      refine lv_aload_n hx hb dX12_indexes_16 rfl (lv_at hl 0 rfl) ?_
      refine lv_iconst (v := 1) hx hb dX12_indexes_17 (by decide) ?_
      have l32_1 : (1 : Int32).toInt = 1 := rfl
      have hFc := free_all hD hS hA
      obtain ⟨k75, gk75, hk75⟩ := wGt (cy := cy) X S h_o1.1 h_o1.2.1
      refine va_calli (va_runV (As := [.int (1 : Int32)]) (rest := []) ⟨hx, hb, hml, hown, hts⟩ (c_X12_refuses l (cy := cy) (X := X) (D := D) S _ o1 h_o1 (1 : Int32) (hW)) (cwV 1 hts gX12_indexes_X12_refuses rfl rfl rfl hd_X12_refuses ⟨Nat.le_of_ble_eq_true rfl, Nat.le_of_ble_eq_true rfl⟩) (pV (va_recv hK hP (q := (RX12, TX12, 34)) (ci := 16) (q0 := k75) rfl hk75) hP hK hD hN) rfl rfl hl.1 rfl (lv_room (Nat.le_of_ble_eq_true rfl)) dX12_indexes_18 ⟨(Nat.zero_le _), (Nat.zero_le _)⟩) hS (fun q _ h => hFc q h) hFc (fun r76 u t H1 locs ht hvm hw hB hz1 hk1 hS => ?_)
      obtain ⟨c77, w78, y79⟩ := hw
      obtain ⟨hP, hD⟩ := wd_post hFc ht hB
      generalize H1 = H at hP hS ⊢
      obtain ⟨S80, rfl⟩ : ∃ z, z = u := ⟨_, rfl⟩
      have t81 : stp [(12, 15), (17, 100)] [] [] S S80 := t0.tr w78 (by decide) (fun _ q => absurd q List.not_mem_nil)
      have xe82 : ext S S80 := w78.x
      refine W.widen (k := 0) (n := 0) (Nat.le_of_ble_eq_true rfl) (Nat.le_of_ble_eq_true rfl) ?_
      exact W.zret (v := r76) hx hb hr (y79) (fun t ht hW9 => ⟨⟨r76, S80, rfl, ⟨t81, (y79)⟩, wd_end hP hK hD ht hW9.alike⟩, hS.F ht⟩) hS.2.2 dX12_indexes_21 hlocks
theorem hi_X12_differs_X10 : ∀ w ∈ u_ws RX10 TX10 23, w ∈ wsX12_differs := by decide +kernel
theorem hi_X12_differs_X11 : ∀ w ∈ u_ws RX11 TX11 7, w ∈ wsX12_differs := by decide +kernel
theorem hi_X12_differs_X12 : ∀ w ∈ u_ws RX12 TX12 34, w ∈ wsX12_differs := by decide +kernel
theorem hd_X12_differs : yX12_differs.cls = RX12 ∧ yX12_differs.cls ≠ "java/lang/invoke/MethodHandle" ∧ yX12_differs.cls ≠ "java/lang/invoke/VarHandle" ∧ (parseMethodDescriptor yX12_differs.desc).map (fun d => d.parameters.length) = some 3 := by decide +kernel
set_option maxHeartbeats 4000000 in
set_option maxRecDepth 100000 in
theorem c_X12_differs (l : Launch) {D : va_G} {cy : Nat → ClassId} {X : va_W} (S : wPS) (sz : Nat) (o1 : Nat) (h_o1 : isA S o1 12) (x1 : Int32) (x2 : Int32) (x3 : Int32) (hW : wtB S [])  : Met l yX12_differs wsX12_differs ({ frames := 10, cells := 0, slots := 0, locals := 250 }) (va_Pc [.ref o1, .int x1, .int x2, .int x3] (fun U => U.heap.size = sz ∧ WD D cy X (fun _ => True) S U ∧ NW U)) (va_Qi (fun r (u : wPS) => stp [(12, 15), (17, 100)] [] [] S u ∧ narrow .boolean (.int r) = .int r) (fun u t => WD D cy X (va_A (X ++ PL cy S) sz) u t) (va_A (X ++ PL cy S) sz)) 0 0 (va_A (X ++ PL cy S) sz) := by
  refine Met.ofW (cc := cX12_differs) (maxL := 5) (ret := (some .boolean)) (by decide) rfl ?_
  intro p e s m args below meth c s₁ B hml hv
  obtain ⟨rfl, hsz, ⟨hP, hK, hD0⟩, hN⟩ := hv
  have hx := B.exec
  have hb := B.bytes
  have hr := B.returns
  have hts := atoms_spec (ws := wsX12_differs) B.pre
  have hown : s.vm.findClass RX12 = some m.cls := findClass_of_methodNamed (x := yX12_differs) B.named
  have hlocks := B.notSynchronized
  subst hsz
  have hD := hD0.self (sz := s.heap.size)
  generalize hAe : va_A (X ++ PL cy S) s.heap.size = A at hD ⊢
  have hA : ∀ q : Nat, s.heap.size ≤ q → A q := fun q h => by rw [← hAe]; exact Or.inr h
  have hS : va_S A s.heap s.heap [] := va_S.rf
  have hl := lv_entry ([.ref o1, .int x1, .int x2, .int x3]) (n := 5) (Nat.le_of_ble_eq_true rfl)
  rw [lg_entry_eq]
  generalize (lg_sl ([.ref o1, .int x1, .int x2, .int x3]) ++ List.replicate (5 - (lg_sl ([.ref o1, .int x1, .int x2, .int x3])).length) Slot.unset).toArray = ls at hl ⊢
  have hl : lv_has ls 5 [(0, .ref o1), (1, .int x1), (2, .int x2), (3, .int x3)] := hl
  have t0 : stp [(12, 15), (17, 100)] [] [] S S := stp.rf hW
  have F1 := ((hW.at h_o1 List.not_mem_nil).to_12 h_o1.2.1).F0
  have F2 := ((hW.at h_o1 List.not_mem_nil).to_12 h_o1.2.1).F1
  refine lv_aload_n hx hb dX12_differs_0 rfl (lv_at hl 0 rfl) ?_
  refine lv_iload_n hx hb dX12_differs_1 rfl (lv_at hl 1 rfl) ?_
  have hFc := free_all hD hS hA
  obtain ⟨k3, gk3, hk3⟩ := wGt (cy := cy) X S h_o1.1 h_o1.2.1
  refine va_calli (va_runV (As := [.int x1]) (rest := []) ⟨hx, hb, hml, hown, hts⟩ (c_X12_isGear l (cy := cy) (X := X) (D := D) S _ o1 h_o1 x1 (hW)) (cwV 1 hts gX12_differs_X12_isGear rfl rfl rfl hd_X12_isGear ⟨Nat.le_of_ble_eq_true rfl, Nat.le_of_ble_eq_true rfl⟩) (pV (va_recv hK hP (q := (RX12, TX12, 34)) (ci := 16) (q0 := k3) rfl hk3) hP hK hD hN) rfl rfl hl.1 rfl (lv_room (Nat.le_of_ble_eq_true rfl)) dX12_differs_2 ⟨(Nat.zero_le _), (Nat.zero_le _)⟩) hS (fun q _ h => hFc q h) hFc (fun r4 u t H1 locs ht hvm hw hB hz1 hk1 hS => ?_)
  have c5 := hw
  obtain ⟨hP, hD⟩ := wd_post hFc ht hB
  generalize H1 = H at hP hS ⊢
  obtain rfl : f_X12_isGear S o1 x1 = r4 := c5.symm
  have i6 : (f_X12_isGear S o1 x1).toInt = 0 ∨ (0 ≤ x1.toInt ∧ x1.toInt < (S.I (S.f o1 0) 2).toInt) := by have h9 := ig_rng x1 ((hW.at h_o1 List.not_mem_nil).to_12 h_o1.2.1) hW; rw [f_of F1.1] at h9; exact h9
  refine lv_if_eq (tgt := 16) hx hb dX12_differs_5 (by decide) (fun c7 => ?_) (fun c7 => ?_)
  · have c7i : (f_X12_isGear S o1 x1).toInt = 0 := eq_v rfl rfl c7
    refine lv_aload_n hx hb dX12_differs_16 rfl (lv_at hl 0 rfl) ?_
    refine lv_iconst (v := 1) hx hb dX12_differs_17 (by decide) ?_
    have l32_1 : (1 : Int32).toInt = 1 := rfl
    have hFc := free_all hD hS hA
    obtain ⟨k8, gk8, hk8⟩ := wGt (cy := cy) X S h_o1.1 h_o1.2.1
    refine va_calli (va_runV (As := [.int (1 : Int32)]) (rest := []) ⟨hx, hb, hml, hown, hts⟩ (c_X12_refuses l (cy := cy) (X := X) (D := D) S _ o1 h_o1 (1 : Int32) (hW)) (cwV 1 hts gX12_differs_X12_refuses rfl rfl rfl hd_X12_refuses ⟨Nat.le_of_ble_eq_true rfl, Nat.le_of_ble_eq_true rfl⟩) (pV (va_recv hK hP (q := (RX12, TX12, 34)) (ci := 16) (q0 := k8) rfl hk8) hP hK hD hN) rfl rfl hl.1 rfl (lv_room (Nat.le_of_ble_eq_true rfl)) dX12_differs_18 ⟨(Nat.zero_le _), (Nat.zero_le _)⟩) hS (fun q _ h => hFc q h) hFc (fun r9 u t H1 locs ht hvm hw hB hz1 hk1 hS => ?_)
    obtain ⟨c10, w11, y12⟩ := hw
    obtain ⟨hP, hD⟩ := wd_post hFc ht hB
    generalize H1 = H at hP hS ⊢
    obtain ⟨S13, rfl⟩ : ∃ z, z = u := ⟨_, rfl⟩
    have t14 : stp [(12, 15), (17, 100)] [] [] S S13 := t0.tr w11 (by decide) (fun _ q => absurd q List.not_mem_nil)
    have xe15 : ext S S13 := w11.x
    refine W.widen (k := 0) (n := 0) (Nat.le_of_ble_eq_true rfl) (Nat.le_of_ble_eq_true rfl) ?_
    exact W.zret (v := r9) hx hb hr (y12) (fun t ht hW9 => ⟨⟨r9, S13, rfl, ⟨t14, (y12)⟩, wd_end hP hK hD ht hW9.alike⟩, hS.F ht⟩) hS.2.2 dX12_differs_21 hlocks
  · have c7i : ¬ (f_X12_isGear S o1 x1).toInt = 0 := neq_v rfl rfl c7
    refine lv_aload_n hx hb dX12_differs_8 rfl (lv_at hl 0 rfl) ?_
    refine lv_iload_n hx hb dX12_differs_9 rfl (lv_at hl 2 rfl) ?_
    have hFc := free_all hD hS hA
    obtain ⟨k16, gk16, hk16⟩ := wGt (cy := cy) X S h_o1.1 h_o1.2.1
    refine va_calli (va_runV (As := [.int x2]) (rest := []) ⟨hx, hb, hml, hown, hts⟩ (c_X12_isHob l (cy := cy) (X := X) (D := D) S _ o1 h_o1 x2 (hW)) (cwV 1 hts gX12_differs_X12_isHob rfl rfl rfl hd_X12_isHob ⟨Nat.le_of_ble_eq_true rfl, Nat.le_of_ble_eq_true rfl⟩) (pV (va_recv hK hP (q := (RX12, TX12, 34)) (ci := 16) (q0 := k16) rfl hk16) hP hK hD hN) rfl rfl hl.1 rfl (lv_room (Nat.le_of_ble_eq_true rfl)) dX12_differs_10 ⟨(Nat.zero_le _), (Nat.zero_le _)⟩) hS (fun q _ h => hFc q h) hFc (fun r17 u t H1 locs ht hvm hw hB hz1 hk1 hS => ?_)
    have c18 := hw
    obtain ⟨hP, hD⟩ := wd_post hFc ht hB
    generalize H1 = H at hP hS ⊢
    obtain rfl : f_X12_isHob S o1 x2 = r17 := c18.symm
    have i19 : (f_X12_isHob S o1 x2).toInt = 0 ∨ (0 ≤ x2.toInt ∧ x2.toInt < (S.I (S.f o1 1) 2).toInt) := by have h9 := ih_rng x2 ((hW.at h_o1 List.not_mem_nil).to_12 h_o1.2.1) hW; rw [f_of F2.1] at h9; exact h9
    refine lv_if_ne (tgt := 22) hx hb dX12_differs_13 (by decide) (fun c20 => ?_) (fun c20 => ?_)
    · have c20i : ¬ (f_X12_isHob S o1 x2).toInt = 0 := neq_v rfl rfl c20
      refine lv_iload_n hx hb dX12_differs_22 rfl (lv_at hl 3 rfl) ?_
      refine lv_i2l hx hb dX12_differs_23 rfl ?_
      refine lv_lconst (v := 0) hx hb dX12_differs_24 (by decide) ?_
      refine lv_ldc2 (own := RX12) (v := 999999) hx hb hown (hts (.constantLong RX12 306 (999999)) (by decide +kernel)) dX12_differs_25 ?_
      have hFc := free_all hD hS hA
      refine va_calli (va_runS (As := [.long x3.toInt64, .long (0 : Int64), .long (999999 : Int64)]) (rest := []) ⟨hx, hb, hml, hown, hts⟩ (c_X12_in l (cy := cy) (X := X) (D := D) S _ x3.toInt64 (0 : Int64) (999999 : Int64)) (cwS 3 hts gX12_differs_X12_in rfl rfl rfl hd_X12_in ⟨Nat.le_of_ble_eq_true rfl, Nat.le_of_ble_eq_true rfl⟩) (pS hP hK hD hN) rfl rfl hl.1 rfl (lv_room (Nat.le_of_ble_eq_true rfl)) dX12_differs_28 ⟨(Nat.zero_le _), (Nat.zero_le _)⟩) hS (fun q _ h => hFc q h) hFc (fun r21 u t H1 locs ht hvm hw hB hz1 hk1 hS => ?_)
      have c22 := hw
      obtain ⟨hP, hD⟩ := wd_post hFc ht hB
      generalize H1 = H at hP hS ⊢
      obtain rfl : f_X12_in x3.toInt64 (0 : Int64) (999999 : Int64) = r21 := c22.symm
      have i23 := i64_i x3
      have l64_0 : (0 : Int64).toInt = 0 := rfl
      have l64_999999 : (999999 : Int64).toInt = 999999 := rfl
      have i24 := in_rng x3.toInt64 (0 : Int64) (999999 : Int64)
      refine lv_if_ne (tgt := 40) hx hb dX12_differs_31 (by decide) (fun c25 => ?_) (fun c25 => ?_)
      · have c25i : ¬ (f_X12_in x3.toInt64 (0 : Int64) (999999 : Int64)).toInt = 0 := neq_v rfl rfl c25
        refine lv_aload_n hx hb dX12_differs_40 rfl (lv_at hl 0 rfl) ?_
        refine lv_iload_n hx hb dX12_differs_41 rfl (lv_at hl 1 rfl) ?_
        have hFc := free_all hD hS hA
        obtain ⟨k26, gk26, hk26⟩ := wGt (cy := cy) X S h_o1.1 h_o1.2.1
        refine va_callq (va_runV (As := [.int x1]) (rest := []) ⟨hx, hb, hml, hown, hts⟩ (c_X12_gearAt l (cy := cy) (X := X) (D := D) S _ o1 h_o1 x1 (hW) (by rw [f_of F1.1]; omega)) (cwV 1 hts gX12_differs_X12_gearAt rfl rfl rfl hd_X12_gearAt ⟨Nat.le_of_ble_eq_true rfl, Nat.le_of_ble_eq_true rfl⟩) (pV (va_recv hK hP (q := (RX12, TX12, 34)) (ci := 16) (q0 := k26) rfl hk26) hP hK hD hN) rfl rfl hl.1 rfl (lv_room (Nat.le_of_ble_eq_true rfl)) dX12_differs_42 ⟨(Nat.zero_le _), (Nat.zero_le _)⟩) hS (fun q _ h => hFc q h) hFc (fun r27 u t H1 locs ht hvm hw hB hz1 hk1 hS => ?_)
        obtain ⟨r27, rfl, c28, o29⟩ := hw
        obtain ⟨hP, hD⟩ := wd_post hFc ht hB
        generalize H1 = H at hP hS ⊢
        refine W.eq (g2 := F0 m 45 ls [.ref r27]) rfl ?_
        refine lv_astore (lv' := [(4, .ref r27), (0, .ref o1), (1, .int x1), (2, .int x2), (3, .int x3)]) hx hb dX12_differs_45 hl (by decide) rfl (fun ls hl => ?_)
        refine lv_aload hx hb dX12_differs_47 (lv_at hl 0 rfl) ?_
        obtain ⟨k30, gk30, hk30⟩ := wGt (cy := cy) X S o29.1 o29.2.1
        have i31 := ((hW.at o29 List.not_mem_nil).to_10 o29.2.1).R3
        refine va_getN (D := D) (ci := 14) (v := .int (S.I r27 3)) (C := RX10) (T := TX10) (N := 23) hx hb hts hi_X12_differs_X10 hown hK hP k30 hk30 rfl 3 (by decide) (va_Nw.use rfl (hN (.fieldLinkNest RX12 118 "HobhouseModel$Gear" "helix" "I" "HobhouseModel") (by decide +kernel))) (fun _ h9 => h9) rfl dX12_differs_49 ?_
        refine lv_if_ne (tgt := 61) hx hb dX12_differs_52 (by decide) (fun c32 => ?_) (fun c32 => ?_)
        · have c32i : ¬ (S.I r27 3).toInt = 0 := neq_v rfl rfl c32
          refine lv_aload_n hx hb dX12_differs_61 rfl (lv_at hl 1 rfl) ?_
          obtain ⟨k33, gk33, hk33⟩ := wGt (cy := cy) X S h_o1.1 h_o1.2.1
          have i34 := ((hW.at h_o1 List.not_mem_nil).to_12 h_o1.2.1).R16
          refine va_get (D := D) (ci := 16) (v := .int (S.I o1 16)) (C := RX12) (T := TX12) (N := 34) hx hb hts hi_X12_differs_X12 hown hK hP k33 hk33 rfl 16 (by decide) (hts (.fieldLink RX12 282 "HobhouseModel" "box" "I") (by decide +kernel)) (fun _ h9 => h9) rfl dX12_differs_62 ?_
          refine lv_iconst (v := 4) hx hb dX12_differs_65 (by decide) ?_
          refine lv_icmp_ge (tgt := 77) hx hb dX12_differs_66 (by decide) (fun c35 => ?_) (fun c35 => ?_)
          · have c35i : 4 ≤ (S.I o1 16).toInt := le_v rfl rfl c35
            refine lv_aload_n hx hb dX12_differs_77 rfl (lv_at hl 1 rfl) ?_
            refine lv_aload_n hx hb dX12_differs_78 rfl (lv_at hl 1 rfl) ?_
            refine lv_aload hx hb dX12_differs_79 (lv_at hl 0 rfl) ?_
            obtain ⟨k36, gk36, hk36⟩ := wGt (cy := cy) X S o29.1 o29.2.1
            refine va_getN (D := D) (ci := 14) (v := .int (S.I r27 3)) (C := RX10) (T := TX10) (N := 23) hx hb hts hi_X12_differs_X10 hown hK hP k36 hk36 rfl 3 (by decide) (va_Nw.use rfl (hN (.fieldLinkNest RX12 118 "HobhouseModel$Gear" "helix" "I" "HobhouseModel") (by decide +kernel))) (fun _ h9 => h9) rfl dX12_differs_81 ?_
            refine va_mabs hx hb (hml.trans hl.1.symm) hown (hts (.methodLink RX12 215 Lib.Math.abs.name) (by decide +kernel)) (hts (.static Lib.Math.abs.name) (by decide +kernel)) (hts (.initialized "java/lang/Math") (by decide +kernel)) (hts (.code Lib.Math.abs.name Lib.Math.abs.code 1 (some .int)) (by decide +kernel)) (Nat.le_of_ble_eq_true rfl) (Nat.le_of_ble_eq_true rfl) (Nat.zero_le _) (Nat.zero_le _) dX12_differs_84 ?_
            refine lv_i2l hx hb dX12_differs_87 rfl ?_
            refine lv_aload_n hx hb dX12_differs_88 rfl (lv_at hl 1 rfl) ?_
            obtain ⟨k37, gk37, hk37⟩ := wGt (cy := cy) X S h_o1.1 h_o1.2.1
            refine va_get (D := D) (ci := 16) (v := .int (S.I o1 17)) (C := RX12) (T := TX12) (N := 34) hx hb hts hi_X12_differs_X12 hown hK hP k37 hk37 rfl 17 (by decide) (hts (.fieldLink RX12 72 "HobhouseModel" "constant" "I") (by decide +kernel)) (fun _ h9 => h9) rfl dX12_differs_89 ?_
            refine lv_i2l hx hb dX12_differs_92 rfl ?_
            refine lv_lmul hx hb dX12_differs_93 ?_
            refine lv_aload hx hb dX12_differs_94 (lv_at hl 0 rfl) ?_
            obtain ⟨k38, gk38, hk38⟩ := wGt (cy := cy) X S o29.1 o29.2.1
            have i39 := ((hW.at o29 List.not_mem_nil).to_10 o29.2.1).R2
            refine va_getN (D := D) (ci := 14) (v := .int (S.I r27 2)) (C := RX10) (T := TX10) (N := 23) hx hb hts hi_X12_differs_X10 hown hK hP k38 hk38 rfl 2 (by decide) (va_Nw.use rfl (hN (.fieldLinkNest RX12 115 "HobhouseModel$Gear" "module" "I" "HobhouseModel") (by decide +kernel))) (fun _ h9 => h9) rfl dX12_differs_96 ?_
            refine lv_i2l hx hb dX12_differs_99 rfl ?_
            refine lv_aload_n hx hb dX12_differs_100 rfl (lv_at hl 1 rfl) ?_
            obtain ⟨k40, gk40, hk40⟩ := wGt (cy := cy) X S h_o1.1 h_o1.2.1
            simp only [kE, F2.1] at hk40
            refine va_get (D := D) (ci := 16) (v := .ref (S.f o1 1)) (C := RX12) (T := TX12) (N := 34) hx hb hts hi_X12_differs_X12 hown hK hP k40 hk40 rfl 1 (by decide) (hts (.fieldLink RX12 28 "HobhouseModel" "hobs" "Ljava/util/ArrayList;") (by decide +kernel)) (fun _ h9 => h9) rfl dX12_differs_101 ?_
            refine lv_iload_n hx hb dX12_differs_104 rfl (lv_at hl 3 rfl) ?_
            have hFc := free_all hD hS hA
            obtain ⟨k41, gk41, hk41⟩ := wGt (cy := cy) X S F2.2.1.1 F2.2.1.2.1
            refine va_callq (va_runV (As := [.int x2]) (rest := [.long ((S.I r27 2).toInt64), .long (((if 0 ≤ (S.I r27 3) then (S.I r27 3) else 0 - (S.I r27 3)).toInt64) * ((S.I o1 17).toInt64)), .ref o1, .ref o1]) ⟨hx, hb, hml, hown, hts⟩ (c_Jx4a65c_get_915e3 l (cy := cy) (X := X) (D := D) S _ (S.f o1 1) F2.2.1 x2 (hW) (by omega)) (cwV 1 hts gX12_differs_Jx4a65c_get_915e3 rfl rfl rfl hd_Jx4a65c_get_915e3 ⟨Nat.le_of_ble_eq_true rfl, Nat.le_of_ble_eq_true rfl⟩) (pV (va_recv hK hP (q := (RJx4a65c, TJx4a65c, 3)) (ci := 3) (q0 := k41) rfl hk41) hP hK hD hN) rfl rfl hl.1 rfl (lv_room (Nat.le_of_ble_eq_true rfl)) dX12_differs_105 ⟨(Nat.zero_le _), (Nat.zero_le _)⟩) hS (fun q _ h => hFc q h) hFc (fun r42 u t H1 locs ht hvm hw hB hz1 hk1 hS => ?_)
            obtain ⟨r42, rfl, c43, o44⟩ := hw
            obtain ⟨hP, hD⟩ := wd_post hFc ht hB
            generalize H1 = H at hP hS ⊢
            have o44k : isA S r42 11 := by rw [← show _ = 11 from F2.2.2]; exact o44
            refine W.eq (g2 := F0 m 108 ls [.ref r42, .long ((S.I r27 2).toInt64), .long (((if 0 ≤ (S.I r27 3) then (S.I r27 3) else 0 - (S.I r27 3)).toInt64) * ((S.I o1 17).toInt64)), .ref o1, .ref o1]) rfl ?_
            obtain ⟨k45, gk45, hk45⟩ := wGt (cy := cy) X S o44k.1 o44k.2.1
            refine va_castS (nm := "HobhouseModel$Hob") hx hb hown (hts (.classLink RX12 322 "HobhouseModel$Hob") (by decide +kernel)) (hK.1 15 _ rfl).2 (va_recv hK hP (ci := 15) (q0 := k45) rfl hk45) dX12_differs_108 ?_
            obtain ⟨k46, gk46, hk46⟩ := wGt (cy := cy) X S o44k.1 o44k.2.1
            have i47 := ((hW.at o44k List.not_mem_nil).to_11 o44k.2.1).R1
            refine va_getN (D := D) (ci := 15) (v := .int (S.I r42 1)) (C := RX11) (T := TX11) (N := 7) hx hb hts hi_X12_differs_X11 hown hK hP k46 hk46 rfl 1 (by decide) (va_Nw.use rfl (hN (.fieldLinkNest RX12 329 "HobhouseModel$Hob" "starts" "I" "HobhouseModel") (by decide +kernel))) (fun _ h9 => h9) rfl dX12_differs_111 ?_
            refine lv_i2l hx hb dX12_differs_114 rfl ?_
            refine lv_lmul hx hb dX12_differs_115 ?_
            refine lv_iload_n hx hb dX12_differs_116 rfl (lv_at hl 4 rfl) ?_
            have hFc := free_all hD hS hA
            obtain ⟨k48, gk48, hk48⟩ := wGt (cy := cy) X S h_o1.1 h_o1.2.1
            refine va_calli (va_runV (As := [.long (((if 0 ≤ (S.I r27 3) then (S.I r27 3) else 0 - (S.I r27 3)).toInt64) * ((S.I o1 17).toInt64)), .long (((S.I r27 2).toInt64) * ((S.I r42 1).toInt64)), .int x3]) (rest := [.ref o1]) ⟨hx, hb, hml, hown, hts⟩ (c_X12_isMet l (cy := cy) (X := X) (D := D) S _ o1 h_o1 (((if 0 ≤ (S.I r27 3) then (S.I r27 3) else 0 - (S.I r27 3)).toInt64) * ((S.I o1 17).toInt64)) (((S.I r27 2).toInt64) * ((S.I r42 1).toInt64)) x3 (hW)) (cwV 3 hts gX12_differs_X12_isMet rfl rfl rfl hd_X12_isMet ⟨Nat.le_of_ble_eq_true rfl, Nat.le_of_ble_eq_true rfl⟩) (pV (va_recv hK hP (q := (RX12, TX12, 34)) (ci := 16) (q0 := k48) rfl hk48) hP hK hD hN) rfl rfl hl.1 rfl (lv_room (Nat.le_of_ble_eq_true rfl)) dX12_differs_117 ⟨(Nat.zero_le _), (Nat.zero_le _)⟩) hS (fun q _ h => hFc q h) hFc (fun r49 u t H1 locs ht hvm hw hB hz1 hk1 hS => ?_)
            obtain ⟨w50, y51⟩ := hw
            obtain ⟨hP, hD⟩ := wd_post hFc ht hB
            generalize H1 = H at hP hS ⊢
            obtain ⟨S52, rfl⟩ : ∃ z, z = u := ⟨_, rfl⟩
            have t53 : stp [(12, 15), (17, 100)] [] [] S S52 := t0.tr w50 (by decide) (fun _ q => absurd q List.not_mem_nil)
            have xe54 : ext S S52 := w50.x
            have hFc := free_all hD hS hA
            obtain ⟨k55, gk55, hk55⟩ := wGt (cy := cy) X S52 (xe54.A h_o1).1 (xe54.A h_o1).2.1
            refine va_calli (va_runV (As := [.int r49]) (rest := []) ⟨hx, hb, hml, hown, hts⟩ (c_X12_says l (cy := cy) (X := X) (D := D) S52 _ o1 (xe54.A h_o1) r49 (t53.w) (y51)) (cwV 1 hts gX12_differs_X12_says rfl rfl rfl hd_X12_says ⟨Nat.le_of_ble_eq_true rfl, Nat.le_of_ble_eq_true rfl⟩) (pV (va_recv hK hP (q := (RX12, TX12, 34)) (ci := 16) (q0 := k55) rfl hk55) hP hK hD hN) rfl rfl hl.1 rfl (lv_room (Nat.le_of_ble_eq_true rfl)) dX12_differs_120 ⟨(Nat.zero_le _), (Nat.zero_le _)⟩) hS (fun q _ h => hFc q h) hFc (fun r56 u t H1 locs ht hvm hw hB hz1 hk1 hS => ?_)
            obtain ⟨c57, w58, y59⟩ := hw
            obtain ⟨hP, hD⟩ := wd_post hFc ht hB
            generalize H1 = H at hP hS ⊢
            obtain ⟨S60, rfl⟩ : ∃ z, z = u := ⟨_, rfl⟩
            have t61 : stp [(12, 15), (17, 100)] [] [] S S60 := t53.tr w58 (by decide) (fun _ q => absurd q List.not_mem_nil)
            have xe62 : ext S52 S60 := w58.x
            refine W.widen (k := 0) (n := 0) (Nat.le_of_ble_eq_true rfl) (Nat.le_of_ble_eq_true rfl) ?_
            exact W.zret (v := r56) hx hb hr (y59) (fun t ht hW9 => ⟨⟨r56, S60, rfl, ⟨t61, (y59)⟩, wd_end hP hK hD ht hW9.alike⟩, hS.F ht⟩) hS.2.2 dX12_differs_123 hlocks
          · have c35i : (S.I o1 16).toInt < 4 := nle_v rfl rfl c35
            refine lv_aload_n hx hb dX12_differs_69 rfl (lv_at hl 1 rfl) ?_
            refine lv_iconst (v := 4) hx hb dX12_differs_70 (by decide) ?_
            have l32_4 : (4 : Int32).toInt = 4 := rfl
            have hFc := free_all hD hS hA
            obtain ⟨k63, gk63, hk63⟩ := wGt (cy := cy) X S h_o1.1 h_o1.2.1
            refine va_calli (va_runV (As := [.int (4 : Int32)]) (rest := []) ⟨hx, hb, hml, hown, hts⟩ (c_X12_refuses l (cy := cy) (X := X) (D := D) S _ o1 h_o1 (4 : Int32) (hW)) (cwV 1 hts gX12_differs_X12_refuses rfl rfl rfl hd_X12_refuses ⟨Nat.le_of_ble_eq_true rfl, Nat.le_of_ble_eq_true rfl⟩) (pV (va_recv hK hP (q := (RX12, TX12, 34)) (ci := 16) (q0 := k63) rfl hk63) hP hK hD hN) rfl rfl hl.1 rfl (lv_room (Nat.le_of_ble_eq_true rfl)) dX12_differs_71 ⟨(Nat.zero_le _), (Nat.zero_le _)⟩) hS (fun q _ h => hFc q h) hFc (fun r64 u t H1 locs ht hvm hw hB hz1 hk1 hS => ?_)
            obtain ⟨c65, w66, y67⟩ := hw
            obtain ⟨hP, hD⟩ := wd_post hFc ht hB
            generalize H1 = H at hP hS ⊢
            obtain ⟨S68, rfl⟩ : ∃ z, z = u := ⟨_, rfl⟩
            have t69 : stp [(12, 15), (17, 100)] [] [] S S68 := t0.tr w66 (by decide) (fun _ q => absurd q List.not_mem_nil)
            have xe70 : ext S S68 := w66.x
            refine lv_goto (tgt := 123) hx hb dX12_differs_74 (by decide) ?_
            refine W.widen (k := 0) (n := 0) (Nat.le_of_ble_eq_true rfl) (Nat.le_of_ble_eq_true rfl) ?_
            exact W.zret (v := r64) hx hb hr (y67) (fun t ht hW9 => ⟨⟨r64, S68, rfl, ⟨t69, (y67)⟩, wd_end hP hK hD ht hW9.alike⟩, hS.F ht⟩) hS.2.2 dX12_differs_123 hlocks
        · have c32i : (S.I r27 3).toInt = 0 := eq_v rfl rfl c32
          refine lv_aload_n hx hb dX12_differs_55 rfl (lv_at hl 1 rfl) ?_
          refine lv_iconst (v := 3) hx hb dX12_differs_56 (by decide) ?_
          have l32_3 : (3 : Int32).toInt = 3 := rfl
          have hFc := free_all hD hS hA
          obtain ⟨k71, gk71, hk71⟩ := wGt (cy := cy) X S h_o1.1 h_o1.2.1
          refine va_calli (va_runV (As := [.int (3 : Int32)]) (rest := []) ⟨hx, hb, hml, hown, hts⟩ (c_X12_refuses l (cy := cy) (X := X) (D := D) S _ o1 h_o1 (3 : Int32) (hW)) (cwV 1 hts gX12_differs_X12_refuses rfl rfl rfl hd_X12_refuses ⟨Nat.le_of_ble_eq_true rfl, Nat.le_of_ble_eq_true rfl⟩) (pV (va_recv hK hP (q := (RX12, TX12, 34)) (ci := 16) (q0 := k71) rfl hk71) hP hK hD hN) rfl rfl hl.1 rfl (lv_room (Nat.le_of_ble_eq_true rfl)) dX12_differs_57 ⟨(Nat.zero_le _), (Nat.zero_le _)⟩) hS (fun q _ h => hFc q h) hFc (fun r72 u t H1 locs ht hvm hw hB hz1 hk1 hS => ?_)
          obtain ⟨c73, w74, y75⟩ := hw
          obtain ⟨hP, hD⟩ := wd_post hFc ht hB
          generalize H1 = H at hP hS ⊢
          obtain ⟨S76, rfl⟩ : ∃ z, z = u := ⟨_, rfl⟩
          have t77 : stp [(12, 15), (17, 100)] [] [] S S76 := t0.tr w74 (by decide) (fun _ q => absurd q List.not_mem_nil)
          have xe78 : ext S S76 := w74.x
          refine W.widen (k := 0) (n := 0) (Nat.le_of_ble_eq_true rfl) (Nat.le_of_ble_eq_true rfl) ?_
          exact W.zret (v := r72) hx hb hr (y75) (fun t ht hW9 => ⟨⟨r72, S76, rfl, ⟨t77, (y75)⟩, wd_end hP hK hD ht hW9.alike⟩, hS.F ht⟩) hS.2.2 dX12_differs_60 hlocks
      · have c25i : (f_X12_in x3.toInt64 (0 : Int64) (999999 : Int64)).toInt = 0 := eq_v rfl rfl c25
        refine lv_aload_n hx hb dX12_differs_34 rfl (lv_at hl 0 rfl) ?_
        refine lv_iconst (v := 2) hx hb dX12_differs_35 (by decide) ?_
        have l32_2 : (2 : Int32).toInt = 2 := rfl
        have hFc := free_all hD hS hA
        obtain ⟨k79, gk79, hk79⟩ := wGt (cy := cy) X S h_o1.1 h_o1.2.1
        refine va_calli (va_runV (As := [.int (2 : Int32)]) (rest := []) ⟨hx, hb, hml, hown, hts⟩ (c_X12_refuses l (cy := cy) (X := X) (D := D) S _ o1 h_o1 (2 : Int32) (hW)) (cwV 1 hts gX12_differs_X12_refuses rfl rfl rfl hd_X12_refuses ⟨Nat.le_of_ble_eq_true rfl, Nat.le_of_ble_eq_true rfl⟩) (pV (va_recv hK hP (q := (RX12, TX12, 34)) (ci := 16) (q0 := k79) rfl hk79) hP hK hD hN) rfl rfl hl.1 rfl (lv_room (Nat.le_of_ble_eq_true rfl)) dX12_differs_36 ⟨(Nat.zero_le _), (Nat.zero_le _)⟩) hS (fun q _ h => hFc q h) hFc (fun r80 u t H1 locs ht hvm hw hB hz1 hk1 hS => ?_)
        obtain ⟨c81, w82, y83⟩ := hw
        obtain ⟨hP, hD⟩ := wd_post hFc ht hB
        generalize H1 = H at hP hS ⊢
        obtain ⟨S84, rfl⟩ : ∃ z, z = u := ⟨_, rfl⟩
        have t85 : stp [(12, 15), (17, 100)] [] [] S S84 := t0.tr w82 (by decide) (fun _ q => absurd q List.not_mem_nil)
        have xe86 : ext S S84 := w82.x
        refine W.widen (k := 0) (n := 0) (Nat.le_of_ble_eq_true rfl) (Nat.le_of_ble_eq_true rfl) ?_
        exact W.zret (v := r80) hx hb hr (y83) (fun t ht hW9 => ⟨⟨r80, S84, rfl, ⟨t85, (y83)⟩, wd_end hP hK hD ht hW9.alike⟩, hS.F ht⟩) hS.2.2 dX12_differs_39 hlocks
    · have c20i : (f_X12_isHob S o1 x2).toInt = 0 := eq_v rfl rfl c20
      refine lv_aload_n hx hb dX12_differs_16 rfl (lv_at hl 0 rfl) ?_
      refine lv_iconst (v := 1) hx hb dX12_differs_17 (by decide) ?_
      have l32_1 : (1 : Int32).toInt = 1 := rfl
      have hFc := free_all hD hS hA
      obtain ⟨k87, gk87, hk87⟩ := wGt (cy := cy) X S h_o1.1 h_o1.2.1
      refine va_calli (va_runV (As := [.int (1 : Int32)]) (rest := []) ⟨hx, hb, hml, hown, hts⟩ (c_X12_refuses l (cy := cy) (X := X) (D := D) S _ o1 h_o1 (1 : Int32) (hW)) (cwV 1 hts gX12_differs_X12_refuses rfl rfl rfl hd_X12_refuses ⟨Nat.le_of_ble_eq_true rfl, Nat.le_of_ble_eq_true rfl⟩) (pV (va_recv hK hP (q := (RX12, TX12, 34)) (ci := 16) (q0 := k87) rfl hk87) hP hK hD hN) rfl rfl hl.1 rfl (lv_room (Nat.le_of_ble_eq_true rfl)) dX12_differs_18 ⟨(Nat.zero_le _), (Nat.zero_le _)⟩) hS (fun q _ h => hFc q h) hFc (fun r88 u t H1 locs ht hvm hw hB hz1 hk1 hS => ?_)
      obtain ⟨c89, w90, y91⟩ := hw
      obtain ⟨hP, hD⟩ := wd_post hFc ht hB
      generalize H1 = H at hP hS ⊢
      obtain ⟨S92, rfl⟩ : ∃ z, z = u := ⟨_, rfl⟩
      have t93 : stp [(12, 15), (17, 100)] [] [] S S92 := t0.tr w90 (by decide) (fun _ q => absurd q List.not_mem_nil)
      have xe94 : ext S S92 := w90.x
      refine W.widen (k := 0) (n := 0) (Nat.le_of_ble_eq_true rfl) (Nat.le_of_ble_eq_true rfl) ?_
      exact W.zret (v := r88) hx hb hr (y91) (fun t ht hW9 => ⟨⟨r88, S92, rfl, ⟨t93, (y91)⟩, wd_end hP hK hD ht hW9.alike⟩, hS.F ht⟩) hS.2.2 dX12_differs_21 hlocks
def f_X12_shoulder (S : wPS) (o1 : Nat) (x1 : Int32) (x2 : Int32) : (Int32 × wPS) := if (f_X12_isGear S o1 x1) = (0 : Int32) then l2 (f_X12_fails S o1 (1 : Int32)) (fun r44 S47 => (r44, S47)) else if (f_X12_in x2.toInt64 (-1 : Int64) (99999 : Int64)) = (0 : Int32) then l2 (f_X12_fails S o1 (2 : Int32)) (fun r36 S39 => (r36, S39)) else l1 (f_X12_gearAt S o1 x1) (fun r14 => l1 (f_X12_gearAt S o1 x1) (fun r19 => l1 (S.sI r19 8 x2) (fun S23 => l2 (f_X12_answer S23 o1 (S.I r14 8)) (fun r28 S31 => (r28, S31)))))
theorem hi_X12_shoulder_X10 : ∀ w ∈ u_ws RX10 TX10 23, w ∈ wsX12_shoulder := by decide +kernel
theorem hd_X12_shoulder : yX12_shoulder.cls = RX12 ∧ yX12_shoulder.cls ≠ "java/lang/invoke/MethodHandle" ∧ yX12_shoulder.cls ≠ "java/lang/invoke/VarHandle" ∧ (parseMethodDescriptor yX12_shoulder.desc).map (fun d => d.parameters.length) = some 2 := by decide +kernel
set_option maxHeartbeats 4000000 in
set_option maxRecDepth 100000 in
theorem c_X12_shoulder (l : Launch) {D : va_G} {cy : Nat → ClassId} {X : va_W} (S : wPS) (sz : Nat) (o1 : Nat) (h_o1 : isA S o1 12) (x1 : Int32) (x2 : Int32) (hW : wtB S [])  : Met l yX12_shoulder wsX12_shoulder ({ frames := 4, cells := 0, slots := 0, locals := 85 }) (va_Pc [.ref o1, .int x1, .int x2] (fun U => U.heap.size = sz ∧ WD D cy X (fun _ => True) S U ∧ NW U)) (va_Qi (fun r (u : wPS) => (r, u) = f_X12_shoulder S o1 x1 x2 ∧ stp [(10, 8), (12, 15)] [] [] S u) (fun u t => WD D cy X (va_A (X ++ PL cy S) sz) u t) (va_A (X ++ PL cy S) sz)) 0 0 (va_A (X ++ PL cy S) sz) := by
  refine Met.ofW (cc := cX12_shoulder) (maxL := 4) (ret := (some .int)) (by decide) rfl ?_
  intro p e s m args below meth c s₁ B hml hv
  obtain ⟨rfl, hsz, ⟨hP, hK, hD0⟩, hN⟩ := hv
  have hx := B.exec
  have hb := B.bytes
  have hr := B.returns
  have hts := atoms_spec (ws := wsX12_shoulder) B.pre
  have hown : s.vm.findClass RX12 = some m.cls := findClass_of_methodNamed (x := yX12_shoulder) B.named
  have hlocks := B.notSynchronized
  subst hsz
  have hD := hD0.self (sz := s.heap.size)
  generalize hAe : va_A (X ++ PL cy S) s.heap.size = A at hD ⊢
  have hA : ∀ q : Nat, s.heap.size ≤ q → A q := fun q h => by rw [← hAe]; exact Or.inr h
  have hS : va_S A s.heap s.heap [] := va_S.rf
  have hl := lv_entry ([.ref o1, .int x1, .int x2]) (n := 4) (Nat.le_of_ble_eq_true rfl)
  rw [lg_entry_eq]
  generalize (lg_sl ([.ref o1, .int x1, .int x2]) ++ List.replicate (4 - (lg_sl ([.ref o1, .int x1, .int x2])).length) Slot.unset).toArray = ls at hl ⊢
  have hl : lv_has ls 4 [(0, .ref o1), (1, .int x1), (2, .int x2)] := hl
  have t0 : stp [(10, 8), (12, 15)] [] [] S S := stp.rf hW
  have F1 := ((hW.at h_o1 List.not_mem_nil).to_12 h_o1.2.1).F0
  refine lv_aload_n hx hb dX12_shoulder_0 rfl (lv_at hl 0 rfl) ?_
  refine lv_iload_n hx hb dX12_shoulder_1 rfl (lv_at hl 1 rfl) ?_
  have hFc := free_all hD hS hA
  obtain ⟨k2, gk2, hk2⟩ := wGt (cy := cy) X S h_o1.1 h_o1.2.1
  refine va_calli (va_runV (As := [.int x1]) (rest := []) ⟨hx, hb, hml, hown, hts⟩ (c_X12_isGear l (cy := cy) (X := X) (D := D) S _ o1 h_o1 x1 (hW)) (cwV 1 hts gX12_shoulder_X12_isGear rfl rfl rfl hd_X12_isGear ⟨Nat.le_of_ble_eq_true rfl, Nat.le_of_ble_eq_true rfl⟩) (pV (va_recv hK hP (q := (RX12, TX12, 34)) (ci := 16) (q0 := k2) rfl hk2) hP hK hD hN) rfl rfl hl.1 rfl (lv_room (Nat.le_of_ble_eq_true rfl)) dX12_shoulder_2 ⟨(Nat.zero_le _), (Nat.zero_le _)⟩) hS (fun q _ h => hFc q h) hFc (fun r3 u t H1 locs ht hvm hw hB hz1 hk1 hS => ?_)
  have c4 := hw
  obtain ⟨hP, hD⟩ := wd_post hFc ht hB
  generalize H1 = H at hP hS ⊢
  obtain rfl : f_X12_isGear S o1 x1 = r3 := c4.symm
  have i5 : (f_X12_isGear S o1 x1).toInt = 0 ∨ (0 ≤ x1.toInt ∧ x1.toInt < (S.I (S.f o1 0) 2).toInt) := by have h9 := ig_rng x1 ((hW.at h_o1 List.not_mem_nil).to_12 h_o1.2.1) hW; rw [f_of F1.1] at h9; exact h9
  refine lv_if_ne (tgt := 14) hx hb dX12_shoulder_5 (by decide) (fun c6 => ?_) (fun c6 => ?_)
  · have c6i : ¬ (f_X12_isGear S o1 x1).toInt = 0 := neq_v rfl rfl c6
    refine lv_iload_n hx hb dX12_shoulder_14 rfl (lv_at hl 2 rfl) ?_
    refine lv_i2l hx hb dX12_shoulder_15 rfl ?_
    refine lv_ldc2 (own := RX12) (v := -1) hx hb hown (hts (.constantLong RX12 335 (-1)) (by decide +kernel)) dX12_shoulder_16 ?_
    refine lv_ldc2 (own := RX12) (v := 99999) hx hb hown (hts (.constantLong RX12 141 (99999)) (by decide +kernel)) dX12_shoulder_19 ?_
    have hFc := free_all hD hS hA
    refine va_calli (va_runS (As := [.long x2.toInt64, .long (-1 : Int64), .long (99999 : Int64)]) (rest := []) ⟨hx, hb, hml, hown, hts⟩ (c_X12_in l (cy := cy) (X := X) (D := D) S _ x2.toInt64 (-1 : Int64) (99999 : Int64)) (cwS 3 hts gX12_shoulder_X12_in rfl rfl rfl hd_X12_in ⟨Nat.le_of_ble_eq_true rfl, Nat.le_of_ble_eq_true rfl⟩) (pS hP hK hD hN) rfl rfl hl.1 rfl (lv_room (Nat.le_of_ble_eq_true rfl)) dX12_shoulder_22 ⟨(Nat.zero_le _), (Nat.zero_le _)⟩) hS (fun q _ h => hFc q h) hFc (fun r7 u t H1 locs ht hvm hw hB hz1 hk1 hS => ?_)
    have c8 := hw
    obtain ⟨hP, hD⟩ := wd_post hFc ht hB
    generalize H1 = H at hP hS ⊢
    obtain rfl : f_X12_in x2.toInt64 (-1 : Int64) (99999 : Int64) = r7 := c8.symm
    have i9 := i64_i x2
    have i10 : (-1 : Int64).toInt = -1 := rfl
    have l64_99999 : (99999 : Int64).toInt = 99999 := rfl
    have i11 := in_rng x2.toInt64 (-1 : Int64) (99999 : Int64)
    refine lv_if_ne (tgt := 34) hx hb dX12_shoulder_25 (by decide) (fun c12 => ?_) (fun c12 => ?_)
    · have c12i : ¬ (f_X12_in x2.toInt64 (-1 : Int64) (99999 : Int64)).toInt = 0 := neq_v rfl rfl c12
      refine lv_aload_n hx hb dX12_shoulder_34 rfl (lv_at hl 0 rfl) ?_
      refine lv_iload_n hx hb dX12_shoulder_35 rfl (lv_at hl 1 rfl) ?_
      have hFc := free_all hD hS hA
      obtain ⟨k13, gk13, hk13⟩ := wGt (cy := cy) X S h_o1.1 h_o1.2.1
      refine va_callq (va_runV (As := [.int x1]) (rest := []) ⟨hx, hb, hml, hown, hts⟩ (c_X12_gearAt l (cy := cy) (X := X) (D := D) S _ o1 h_o1 x1 (hW) (by rw [f_of F1.1]; omega)) (cwV 1 hts gX12_shoulder_X12_gearAt rfl rfl rfl hd_X12_gearAt ⟨Nat.le_of_ble_eq_true rfl, Nat.le_of_ble_eq_true rfl⟩) (pV (va_recv hK hP (q := (RX12, TX12, 34)) (ci := 16) (q0 := k13) rfl hk13) hP hK hD hN) rfl rfl hl.1 rfl (lv_room (Nat.le_of_ble_eq_true rfl)) dX12_shoulder_36 ⟨(Nat.zero_le _), (Nat.zero_le _)⟩) hS (fun q _ h => hFc q h) hFc (fun r14 u t H1 locs ht hvm hw hB hz1 hk1 hS => ?_)
      obtain ⟨r14, rfl, c15, o16⟩ := hw
      obtain ⟨hP, hD⟩ := wd_post hFc ht hB
      generalize H1 = H at hP hS ⊢
      refine W.eq (g2 := F0 m 39 ls [.ref r14]) rfl ?_
      obtain ⟨k17, gk17, hk17⟩ := wGt (cy := cy) X S o16.1 o16.2.1
      refine va_getN (D := D) (ci := 14) (v := .int (S.I r14 8)) (C := RX10) (T := TX10) (N := 23) hx hb hts hi_X12_shoulder_X10 hown hK hP k17 hk17 rfl 8 (by decide) (va_Nw.use rfl (hN (.fieldLinkNest RX12 337 "HobhouseModel$Gear" "room" "I" "HobhouseModel") (by decide +kernel))) (fun _ h9 => h9) rfl dX12_shoulder_39 ?_
      refine lv_istore_n (lv' := [(3, .int (S.I r14 8)), (0, .ref o1), (1, .int x1), (2, .int x2)]) hx hb dX12_shoulder_42 rfl hl (by decide) rfl (fun ls hl => ?_)
      refine lv_aload_n hx hb dX12_shoulder_43 rfl (lv_at hl 1 rfl) ?_
      refine lv_iload_n hx hb dX12_shoulder_44 rfl (lv_at hl 2 rfl) ?_
      have hFc := free_all hD hS hA
      obtain ⟨k18, gk18, hk18⟩ := wGt (cy := cy) X S h_o1.1 h_o1.2.1
      refine va_callq (va_runV (As := [.int x1]) (rest := []) ⟨hx, hb, hml, hown, hts⟩ (c_X12_gearAt l (cy := cy) (X := X) (D := D) S _ o1 h_o1 x1 (hW) (by rw [f_of F1.1]; omega)) (cwV 1 hts gX12_shoulder_X12_gearAt rfl rfl rfl hd_X12_gearAt ⟨Nat.le_of_ble_eq_true rfl, Nat.le_of_ble_eq_true rfl⟩) (pV (va_recv hK hP (q := (RX12, TX12, 34)) (ci := 16) (q0 := k18) rfl hk18) hP hK hD hN) rfl rfl hl.1 rfl (lv_room (Nat.le_of_ble_eq_true rfl)) dX12_shoulder_45 ⟨(Nat.zero_le _), (Nat.zero_le _)⟩) hS (fun q _ h => hFc q h) hFc (fun r19 u t H1 locs ht hvm hw hB hz1 hk1 hS => ?_)
      obtain ⟨r19, rfl, c20, o21⟩ := hw
      obtain ⟨hP, hD⟩ := wd_post hFc ht hB
      generalize H1 = H at hP hS ⊢
      refine W.eq (g2 := F0 m 48 ls [.ref r19]) rfl ?_
      refine lv_iload_n hx hb dX12_shoulder_48 rfl (lv_at hl 3 rfl) ?_
      obtain ⟨k22, gk22, hk22⟩ := wGt (cy := cy) X S o21.1 o21.2.1
      refine va_putN (D := D) (ci := 14) (v := .int x2) (ty := .int) (C := RX10) (T := TX10) (N := 23) hx hb hts hi_X12_shoulder_X10 tyX10 tyX10_ok nmX10 hown hK hP hD hS k22 hk22 rfl 8 (by decide) (va_Nw.use rfl (hN (.fieldLinkNest RX12 337 "HobhouseModel$Gear" "room" "I" "HobhouseModel") (by decide +kernel))) (fun _ h9 => h9) rfl (by decide +kernel) (rfl) (rfl) (Nat.le_of_ble_eq_true rfl) dX12_shoulder_49 (fun H locs hP2 hD2 hS => ?_)
      have e9 := wPuI (cy := cy) (j := 8) (v := x2) hD o21.1 o21.2.1 gk22 rfl
      obtain ⟨S23, hS23⟩ : ∃ z, S.sI r19 8 x2 = z := ⟨_, rfl⟩
      have hP : va_P D vwCl (X ++ PL cy S23) H := by rw [← hS23, ← e9]; exact hP2
      have hD : va_D A (X ++ PL cy S23) := by rw [← hS23, ← e9]; exact hD2
      have xe24 : ext S S23 := by rw [← hS23]; exact ext.sI _ _ _ _
      have t25 : stp [(10, 8), (12, 15)] [] [] S S23 := by rw [← hS23]; exact t0.I 8 x2 o21 (by decide) (trivial) (Or.inl (by decide))
      have k26 : (S23.I (S.f o1 0) 2).toInt = (S.I (S.f o1 0) 2).toInt := by rw [← hS23]; exact congrArg Int32.toInt (sI_I (by rintro ⟨e1, e2⟩; exact absurd e2 (by decide)))
      refine lv_aload_n hx hb dX12_shoulder_52 rfl (lv_at hl 1 rfl) ?_
      refine lv_iload_n hx hb dX12_shoulder_53 rfl (lv_at hl 0 rfl) ?_
      have hFc := free_all hD hS hA
      obtain ⟨k27, gk27, hk27⟩ := wGt (cy := cy) X S23 (xe24.A h_o1).1 (xe24.A h_o1).2.1
      refine va_calli (va_runV (As := [.int (S.I r14 8)]) (rest := []) ⟨hx, hb, hml, hown, hts⟩ (c_X12_answer l (cy := cy) (X := X) (D := D) S23 _ o1 (xe24.A h_o1) (S.I r14 8) (t25.w)) (cwV 1 hts gX12_shoulder_X12_answer rfl rfl rfl hd_X12_answer ⟨Nat.le_of_ble_eq_true rfl, Nat.le_of_ble_eq_true rfl⟩) (pV (va_recv hK hP (q := (RX12, TX12, 34)) (ci := 16) (q0 := k27) rfl hk27) hP hK hD hN) rfl rfl hl.1 rfl (lv_room (Nat.le_of_ble_eq_true rfl)) dX12_shoulder_54 ⟨(Nat.zero_le _), (Nat.zero_le _)⟩) hS (fun q _ h => hFc q h) hFc (fun r28 u t H1 locs ht hvm hw hB hz1 hk1 hS => ?_)
      obtain ⟨c29, w30⟩ := hw
      obtain ⟨hP, hD⟩ := wd_post hFc ht hB
      generalize H1 = H at hP hS ⊢
      obtain ⟨S31, rfl⟩ : ∃ z, z = u := ⟨_, rfl⟩
      have t32 : stp [(10, 8), (12, 15)] [] [] S S31 := t25.tr w30 (by decide) (fun _ q => absurd q List.not_mem_nil)
      have xe33 : ext S23 S31 := w30.x
      have k34 : (S31.I (S.f o1 0) 2).toInt = (S23.I (S.f o1 0) 2).toInt := by rw [(w30.fR (S.f o1 0) (xe24.A F1.2.1).1 List.not_mem_nil).1 2 (by rw [(xe24.A F1.2.1).2.1]; decide) |>.1]
      refine W.widen (k := 0) (n := 0) (Nat.le_of_ble_eq_true rfl) (Nat.le_of_ble_eq_true rfl) ?_
      exact W.iret (v := r28) hx hb hr (fun t ht hW9 => ⟨⟨r28, S31, rfl, ⟨(by show (r28, S31) = f_X12_shoulder S o1 x1 x2; unfold f_X12_shoulder; rw [if_neg c6, if_neg c12, l1_eq c15.symm, l1_eq c20.symm, l1_eq hS23, l2_eq c29.symm]), t32⟩, wd_end hP hK hD ht hW9.alike⟩, hS.F ht⟩) hS.2.2 dX12_shoulder_57 hlocks
    · have c12i : (f_X12_in x2.toInt64 (-1 : Int64) (99999 : Int64)).toInt = 0 := eq_v rfl rfl c12
      refine lv_aload_n hx hb dX12_shoulder_28 rfl (lv_at hl 0 rfl) ?_
      refine lv_iconst (v := 2) hx hb dX12_shoulder_29 (by decide) ?_
      have l32_2 : (2 : Int32).toInt = 2 := rfl
      have hFc := free_all hD hS hA
      obtain ⟨k35, gk35, hk35⟩ := wGt (cy := cy) X S h_o1.1 h_o1.2.1
      refine va_calli (va_runV (As := [.int (2 : Int32)]) (rest := []) ⟨hx, hb, hml, hown, hts⟩ (c_X12_fails l (cy := cy) (X := X) (D := D) S _ o1 h_o1 (2 : Int32) (hW)) (cwV 1 hts gX12_shoulder_X12_fails rfl rfl rfl hd_X12_fails ⟨Nat.le_of_ble_eq_true rfl, Nat.le_of_ble_eq_true rfl⟩) (pV (va_recv hK hP (q := (RX12, TX12, 34)) (ci := 16) (q0 := k35) rfl hk35) hP hK hD hN) rfl rfl hl.1 rfl (lv_room (Nat.le_of_ble_eq_true rfl)) dX12_shoulder_30 ⟨(Nat.zero_le _), (Nat.zero_le _)⟩) hS (fun q _ h => hFc q h) hFc (fun r36 u t H1 locs ht hvm hw hB hz1 hk1 hS => ?_)
      obtain ⟨c37, w38⟩ := hw
      obtain ⟨hP, hD⟩ := wd_post hFc ht hB
      generalize H1 = H at hP hS ⊢
      obtain ⟨S39, rfl⟩ : ∃ z, z = u := ⟨_, rfl⟩
      have t40 : stp [(10, 8), (12, 15)] [] [] S S39 := t0.tr w38 (by decide) (fun _ q => absurd q List.not_mem_nil)
      have xe41 : ext S S39 := w38.x
      have k42 : (S39.I (S.f o1 0) 2).toInt = (S.I (S.f o1 0) 2).toInt := by rw [(w38.fR (S.f o1 0) F1.2.1.1 List.not_mem_nil).1 2 (by rw [F1.2.1.2.1]; decide) |>.1]
      refine W.widen (k := 0) (n := 0) (Nat.le_of_ble_eq_true rfl) (Nat.le_of_ble_eq_true rfl) ?_
      exact W.iret (v := r36) hx hb hr (fun t ht hW9 => ⟨⟨r36, S39, rfl, ⟨(by show (r36, S39) = f_X12_shoulder S o1 x1 x2; unfold f_X12_shoulder; rw [if_neg c6, if_pos c12, l2_eq c37.symm]), t40⟩, wd_end hP hK hD ht hW9.alike⟩, hS.F ht⟩) hS.2.2 dX12_shoulder_33 hlocks
  · have c6i : (f_X12_isGear S o1 x1).toInt = 0 := eq_v rfl rfl c6
    refine lv_aload_n hx hb dX12_shoulder_8 rfl (lv_at hl 0 rfl) ?_
    refine lv_iconst (v := 1) hx hb dX12_shoulder_9 (by decide) ?_
    have l32_1 : (1 : Int32).toInt = 1 := rfl
    have hFc := free_all hD hS hA
    obtain ⟨k43, gk43, hk43⟩ := wGt (cy := cy) X S h_o1.1 h_o1.2.1
    refine va_calli (va_runV (As := [.int (1 : Int32)]) (rest := []) ⟨hx, hb, hml, hown, hts⟩ (c_X12_fails l (cy := cy) (X := X) (D := D) S _ o1 h_o1 (1 : Int32) (hW)) (cwV 1 hts gX12_shoulder_X12_fails rfl rfl rfl hd_X12_fails ⟨Nat.le_of_ble_eq_true rfl, Nat.le_of_ble_eq_true rfl⟩) (pV (va_recv hK hP (q := (RX12, TX12, 34)) (ci := 16) (q0 := k43) rfl hk43) hP hK hD hN) rfl rfl hl.1 rfl (lv_room (Nat.le_of_ble_eq_true rfl)) dX12_shoulder_10 ⟨(Nat.zero_le _), (Nat.zero_le _)⟩) hS (fun q _ h => hFc q h) hFc (fun r44 u t H1 locs ht hvm hw hB hz1 hk1 hS => ?_)
    obtain ⟨c45, w46⟩ := hw
    obtain ⟨hP, hD⟩ := wd_post hFc ht hB
    generalize H1 = H at hP hS ⊢
    obtain ⟨S47, rfl⟩ : ∃ z, z = u := ⟨_, rfl⟩
    have t48 : stp [(10, 8), (12, 15)] [] [] S S47 := t0.tr w46 (by decide) (fun _ q => absurd q List.not_mem_nil)
    have xe49 : ext S S47 := w46.x
    have k50 : (S47.I (S.f o1 0) 2).toInt = (S.I (S.f o1 0) 2).toInt := by rw [(w46.fR (S.f o1 0) F1.2.1.1 List.not_mem_nil).1 2 (by rw [F1.2.1.2.1]; decide) |>.1]
    refine W.widen (k := 0) (n := 0) (Nat.le_of_ble_eq_true rfl) (Nat.le_of_ble_eq_true rfl) ?_
    exact W.iret (v := r44) hx hb hr (fun t ht hW9 => ⟨⟨r44, S47, rfl, ⟨(by show (r44, S47) = f_X12_shoulder S o1 x1 x2; unfold f_X12_shoulder; rw [if_pos c6, l2_eq c45.symm]), t48⟩, wd_end hP hK hD ht hW9.alike⟩, hS.F ht⟩) hS.2.2 dX12_shoulder_13 hlocks
theorem hi_X12_approach_X12 : ∀ w ∈ u_ws RX12 TX12 34, w ∈ wsX12_approach := by decide +kernel
theorem hd_X12_approach : yX12_approach.cls = RX12 ∧ yX12_approach.cls ≠ "java/lang/invoke/MethodHandle" ∧ yX12_approach.cls ≠ "java/lang/invoke/VarHandle" ∧ (parseMethodDescriptor yX12_approach.desc).map (fun d => d.parameters.length) = some 1 := by decide +kernel
set_option maxHeartbeats 4000000 in
set_option maxRecDepth 100000 in
theorem c_X12_approach (l : Launch) {D : va_G} {cy : Nat → ClassId} {X : va_W} (S : wPS) (sz : Nat) (o1 : Nat) (h_o1 : isA S o1 12) (x1 : Int32) (hW : wtB S [])  : Met l yX12_approach wsX12_approach ({ frames := 3, cells := 0, slots := 0, locals := 64 }) (va_Pc [.ref o1, .int x1] (fun U => U.heap.size = sz ∧ WD D cy X (fun _ => True) S U ∧ NW U)) (va_Qi (fun r (u : wPS) => stp [(12, 15)] [] [] S u) (fun u t => WD D cy X (va_A (X ++ PL cy S) sz) u t) (va_A (X ++ PL cy S) sz)) 0 0 (va_A (X ++ PL cy S) sz) := by
  refine Met.ofW (cc := cX12_approach) (maxL := 2) (ret := (some .int)) (by decide) rfl ?_
  intro p e s m args below meth c s₁ B hml hv
  obtain ⟨rfl, hsz, ⟨hP, hK, hD0⟩, hN⟩ := hv
  have hx := B.exec
  have hb := B.bytes
  have hr := B.returns
  have hts := atoms_spec (ws := wsX12_approach) B.pre
  have hown : s.vm.findClass RX12 = some m.cls := findClass_of_methodNamed (x := yX12_approach) B.named
  have hlocks := B.notSynchronized
  subst hsz
  have hD := hD0.self (sz := s.heap.size)
  generalize hAe : va_A (X ++ PL cy S) s.heap.size = A at hD ⊢
  have hA : ∀ q : Nat, s.heap.size ≤ q → A q := fun q h => by rw [← hAe]; exact Or.inr h
  have hS : va_S A s.heap s.heap [] := va_S.rf
  have hl := lv_entry ([.ref o1, .int x1]) (n := 2) (Nat.le_of_ble_eq_true rfl)
  rw [lg_entry_eq]
  generalize (lg_sl ([.ref o1, .int x1]) ++ List.replicate (2 - (lg_sl ([.ref o1, .int x1])).length) Slot.unset).toArray = ls at hl ⊢
  have hl : lv_has ls 2 [(0, .ref o1), (1, .int x1)] := hl
  have t0 : stp [(12, 15)] [] [] S S := stp.rf hW
  refine lv_aload_n hx hb dX12_approach_0 rfl (lv_at hl 0 rfl) ?_
  refine lv_iload_n hx hb dX12_approach_1 rfl (lv_at hl 1 rfl) ?_
  have hFc := free_all hD hS hA
  obtain ⟨k1, gk1, hk1⟩ := wGt (cy := cy) X S h_o1.1 h_o1.2.1
  refine va_calli (va_runV (As := [.int x1]) (rest := []) ⟨hx, hb, hml, hown, hts⟩ (c_X12_isHob l (cy := cy) (X := X) (D := D) S _ o1 h_o1 x1 (hW)) (cwV 1 hts gX12_approach_X12_isHob rfl rfl rfl hd_X12_isHob ⟨Nat.le_of_ble_eq_true rfl, Nat.le_of_ble_eq_true rfl⟩) (pV (va_recv hK hP (q := (RX12, TX12, 34)) (ci := 16) (q0 := k1) rfl hk1) hP hK hD hN) rfl rfl hl.1 rfl (lv_room (Nat.le_of_ble_eq_true rfl)) dX12_approach_2 ⟨(Nat.zero_le _), (Nat.zero_le _)⟩) hS (fun q _ h => hFc q h) hFc (fun r2 u t H1 locs ht hvm hw hB hz1 hk1 hS => ?_)
  have c3 := hw
  obtain ⟨hP, hD⟩ := wd_post hFc ht hB
  generalize H1 = H at hP hS ⊢
  obtain rfl : f_X12_isHob S o1 x1 = r2 := c3.symm
  have F4 := ((hW.at h_o1 List.not_mem_nil).to_12 h_o1.2.1).F1
  have i5 : (f_X12_isHob S o1 x1).toInt = 0 ∨ (0 ≤ x1.toInt ∧ x1.toInt < (S.I (S.f o1 1) 2).toInt) := by have h9 := ih_rng x1 ((hW.at h_o1 List.not_mem_nil).to_12 h_o1.2.1) hW; rw [f_of F4.1] at h9; exact h9
  refine lv_if_eq (tgt := 29) hx hb dX12_approach_5 (by decide) (fun c6 => ?_) (fun c6 => ?_)
  · have c6i : (f_X12_isHob S o1 x1).toInt = 0 := eq_v rfl rfl c6
    refine lv_aload_n hx hb dX12_approach_29 rfl (lv_at hl 0 rfl) ?_
    refine lv_iconst (v := 1) hx hb dX12_approach_30 (by decide) ?_
    have l32_1 : (1 : Int32).toInt = 1 := rfl
    have hFc := free_all hD hS hA
    obtain ⟨k7, gk7, hk7⟩ := wGt (cy := cy) X S h_o1.1 h_o1.2.1
    refine va_calli (va_runV (As := [.int (1 : Int32)]) (rest := []) ⟨hx, hb, hml, hown, hts⟩ (c_X12_fails l (cy := cy) (X := X) (D := D) S _ o1 h_o1 (1 : Int32) (hW)) (cwV 1 hts gX12_approach_X12_fails rfl rfl rfl hd_X12_fails ⟨Nat.le_of_ble_eq_true rfl, Nat.le_of_ble_eq_true rfl⟩) (pV (va_recv hK hP (q := (RX12, TX12, 34)) (ci := 16) (q0 := k7) rfl hk7) hP hK hD hN) rfl rfl hl.1 rfl (lv_room (Nat.le_of_ble_eq_true rfl)) dX12_approach_31 ⟨(Nat.zero_le _), (Nat.zero_le _)⟩) hS (fun q _ h => hFc q h) hFc (fun r8 u t H1 locs ht hvm hw hB hz1 hk1 hS => ?_)
    obtain ⟨c9, w10⟩ := hw
    obtain ⟨hP, hD⟩ := wd_post hFc ht hB
    generalize H1 = H at hP hS ⊢
    obtain ⟨S11, rfl⟩ : ∃ z, z = u := ⟨_, rfl⟩
    have t12 : stp [(12, 15)] [] [] S S11 := t0.tr w10 (by decide) (fun _ q => absurd q List.not_mem_nil)
    have xe13 : ext S S11 := w10.x
    refine W.widen (k := 0) (n := 0) (Nat.le_of_ble_eq_true rfl) (Nat.le_of_ble_eq_true rfl) ?_
    exact W.iret (v := r8) hx hb hr (fun t ht hW9 => ⟨⟨r8, S11, rfl, t12, wd_end hP hK hD ht hW9.alike⟩, hS.F ht⟩) hS.2.2 dX12_approach_34 hlocks
  · have c6i : ¬ (f_X12_isHob S o1 x1).toInt = 0 := neq_v rfl rfl c6
    refine lv_aload_n hx hb dX12_approach_8 rfl (lv_at hl 0 rfl) ?_
    refine lv_aload_n hx hb dX12_approach_9 rfl (lv_at hl 0 rfl) ?_
    obtain ⟨k14, gk14, hk14⟩ := wGt (cy := cy) X S h_o1.1 h_o1.2.1
    simp only [kE, F4.1] at hk14
    refine va_get (D := D) (ci := 16) (v := .ref (S.f o1 1)) (C := RX12) (T := TX12) (N := 34) hx hb hts hi_X12_approach_X12 hown hK hP k14 hk14 rfl 1 (by decide) (hts (.fieldLink RX12 28 "HobhouseModel" "hobs" "Ljava/util/ArrayList;") (by decide +kernel)) (fun _ h9 => h9) rfl dX12_approach_10 ?_
    refine lv_iload_n hx hb dX12_approach_13 rfl (lv_at hl 1 rfl) ?_
    have hFc := free_all hD hS hA
    obtain ⟨k15, gk15, hk15⟩ := wGt (cy := cy) X S F4.2.1.1 F4.2.1.2.1
    refine va_callq (va_runV (As := [.int x1]) (rest := [.ref o1]) ⟨hx, hb, hml, hown, hts⟩ (c_Jx4a65c_get_915e3 l (cy := cy) (X := X) (D := D) S _ (S.f o1 1) F4.2.1 x1 (hW) (by omega)) (cwV 1 hts gX12_approach_Jx4a65c_get_915e3 rfl rfl rfl hd_Jx4a65c_get_915e3 ⟨Nat.le_of_ble_eq_true rfl, Nat.le_of_ble_eq_true rfl⟩) (pV (va_recv hK hP (q := (RJx4a65c, TJx4a65c, 3)) (ci := 3) (q0 := k15) rfl hk15) hP hK hD hN) rfl rfl hl.1 rfl (lv_room (Nat.le_of_ble_eq_true rfl)) dX12_approach_14 ⟨(Nat.zero_le _), (Nat.zero_le _)⟩) hS (fun q _ h => hFc q h) hFc (fun r16 u t H1 locs ht hvm hw hB hz1 hk1 hS => ?_)
    obtain ⟨r16, rfl, c17, o18⟩ := hw
    obtain ⟨hP, hD⟩ := wd_post hFc ht hB
    generalize H1 = H at hP hS ⊢
    have o18k : isA S r16 11 := by rw [← show _ = 11 from F4.2.2]; exact o18
    refine W.eq (g2 := F0 m 17 ls [.ref r16, .ref o1]) rfl ?_
    obtain ⟨k19, gk19, hk19⟩ := wGt (cy := cy) X S o18k.1 o18k.2.1
    refine va_castS (nm := "HobhouseModel$Hob") hx hb hown (hts (.classLink RX12 322 "HobhouseModel$Hob") (by decide +kernel)) (hK.1 15 _ rfl).2 (va_recv hK hP (ci := 15) (q0 := k19) rfl hk19) dX12_approach_17 ?_
    have hFc := free_all hD hS hA
    obtain ⟨k20, gk20, hk20⟩ := wGt (cy := cy) X S o18k.1 o18k.2.1
    refine va_calli (va_runV (As := []) (rest := [.ref o1]) ⟨hx, hb, hml, hown, hts⟩ (c_X11_approach l (cy := cy) (X := X) (D := D) S _ r16 o18k) (cwV 0 hts gX12_approach_X11_approach rfl rfl rfl hd_X11_approach ⟨Nat.le_of_ble_eq_true rfl, Nat.le_of_ble_eq_true rfl⟩) (pV (va_recv hK hP (q := (RX11, TX11, 7)) (ci := 15) (q0 := k20) rfl hk20) hP hK hD hN) rfl rfl hl.1 rfl (lv_room (Nat.le_of_ble_eq_true rfl)) dX12_approach_20 ⟨(Nat.zero_le _), (Nat.zero_le _)⟩) hS (fun q _ h => hFc q h) hFc (fun r21 u t H1 locs ht hvm hw hB hz1 hk1 hS => ?_)
    clear hw
    obtain ⟨hP, hD⟩ := wd_post hFc ht hB
    generalize H1 = H at hP hS ⊢
    have hFc := free_all hD hS hA
    obtain ⟨k22, gk22, hk22⟩ := wGt (cy := cy) X S h_o1.1 h_o1.2.1
    refine va_calli (va_runV (As := [.int r21]) (rest := []) ⟨hx, hb, hml, hown, hts⟩ (c_X12_answer l (cy := cy) (X := X) (D := D) S _ o1 h_o1 r21 (hW)) (cwV 1 hts gX12_approach_X12_answer rfl rfl rfl hd_X12_answer ⟨Nat.le_of_ble_eq_true rfl, Nat.le_of_ble_eq_true rfl⟩) (pV (va_recv hK hP (q := (RX12, TX12, 34)) (ci := 16) (q0 := k22) rfl hk22) hP hK hD hN) rfl rfl hl.1 rfl (lv_room (Nat.le_of_ble_eq_true rfl)) dX12_approach_23 ⟨(Nat.zero_le _), (Nat.zero_le _)⟩) hS (fun q _ h => hFc q h) hFc (fun r23 u t H1 locs ht hvm hw hB hz1 hk1 hS => ?_)
    obtain ⟨c24, w25⟩ := hw
    obtain ⟨hP, hD⟩ := wd_post hFc ht hB
    generalize H1 = H at hP hS ⊢
    obtain ⟨S26, rfl⟩ : ∃ z, z = u := ⟨_, rfl⟩
    have t27 : stp [(12, 15)] [] [] S S26 := t0.tr w25 (by decide) (fun _ q => absurd q List.not_mem_nil)
    have xe28 : ext S S26 := w25.x
    refine lv_goto (tgt := 34) hx hb dX12_approach_26 (by decide) ?_
    refine W.widen (k := 0) (n := 0) (Nat.le_of_ble_eq_true rfl) (Nat.le_of_ble_eq_true rfl) ?_
    exact W.iret (v := r23) hx hb hr (fun t ht hW9 => ⟨⟨r23, S26, rfl, t27, wd_end hP hK hD ht hW9.alike⟩, hS.F ht⟩) hS.2.2 dX12_approach_34 hlocks
